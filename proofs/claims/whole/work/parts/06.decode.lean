-- decode rows, printed (claim/NAMES.whole)
theorem dX0_init_0 : decode cX0_init 0 = .ok (.aload_n 0, 1) := by decide +kernel
theorem dX0_init_1 : decode cX0_init 1 = .ok (.invokespecial 3, 3) := by decide +kernel
theorem dX0_init_4 : decode cX0_init 4 = .ok (.aload_n 0, 1) := by decide +kernel
theorem dX0_init_5 : decode cX0_init 5 = .ok (.bipush 12, 2) := by decide +kernel
theorem dX0_init_7 : decode cX0_init 7 = .ok (.anewarray 11, 3) := by decide +kernel
theorem dX0_init_10 : decode cX0_init 10 = .ok (.putfield 13, 3) := by decide +kernel
theorem dX0_init_13 : decode cX0_init 13 = .ok (.iconst 0, 1) := by decide +kernel
theorem dX0_init_14 : decode cX0_init 14 = .ok (.istore_n 1, 1) := by decide +kernel
theorem dX0_init_15 : decode cX0_init 15 = .ok (.iload_n 1, 1) := by decide +kernel
theorem dX0_init_16 : decode cX0_init 16 = .ok (.aload_n 0, 1) := by decide +kernel
theorem dX0_init_17 : decode cX0_init 17 = .ok (.getfield 13, 3) := by decide +kernel
theorem dX0_init_20 : decode cX0_init 20 = .ok (.arraylength, 1) := by decide +kernel
theorem dX0_init_21 : decode cX0_init 21 = .ok (.if_icmp .ge 22, 3) := by decide +kernel
theorem dX0_init_24 : decode cX0_init 24 = .ok (.aload_n 0, 1) := by decide +kernel
theorem dX0_init_25 : decode cX0_init 25 = .ok (.getfield 13, 3) := by decide +kernel
theorem dX0_init_28 : decode cX0_init 28 = .ok (.iload_n 1, 1) := by decide +kernel
theorem dX0_init_29 : decode cX0_init 29 = .ok (.new 11, 3) := by decide +kernel
theorem dX0_init_32 : decode cX0_init 32 = .ok (.dup, 1) := by decide +kernel
theorem dX0_init_33 : decode cX0_init 33 = .ok (.invokespecial 17, 3) := by decide +kernel
theorem dX0_init_36 : decode cX0_init 36 = .ok (.aastore, 1) := by decide +kernel
theorem dX0_init_37 : decode cX0_init 37 = .ok (.iinc 1 1, 3) := by decide +kernel
theorem dX0_init_40 : decode cX0_init 40 = .ok (.goto (-25), 3) := by decide +kernel
theorem dX0_init_43 : decode cX0_init 43 = .ok (.aload_n 0, 1) := by decide +kernel
theorem dX0_init_44 : decode cX0_init 44 = .ok (.bipush 8, 2) := by decide +kernel
theorem dX0_init_46 : decode cX0_init 46 = .ok (.anewarray 18, 3) := by decide +kernel
theorem dX0_init_49 : decode cX0_init 49 = .ok (.putfield 20, 3) := by decide +kernel
theorem dX0_init_52 : decode cX0_init 52 = .ok (.iconst 0, 1) := by decide +kernel
theorem dX0_init_53 : decode cX0_init 53 = .ok (.istore_n 1, 1) := by decide +kernel
theorem dX0_init_54 : decode cX0_init 54 = .ok (.iload_n 1, 1) := by decide +kernel
theorem dX0_init_55 : decode cX0_init 55 = .ok (.aload_n 0, 1) := by decide +kernel
theorem dX0_init_56 : decode cX0_init 56 = .ok (.getfield 20, 3) := by decide +kernel
theorem dX0_init_59 : decode cX0_init 59 = .ok (.arraylength, 1) := by decide +kernel
theorem dX0_init_60 : decode cX0_init 60 = .ok (.if_icmp .ge 22, 3) := by decide +kernel
theorem dX0_init_63 : decode cX0_init 63 = .ok (.aload_n 0, 1) := by decide +kernel
theorem dX0_init_64 : decode cX0_init 64 = .ok (.getfield 20, 3) := by decide +kernel
theorem dX0_init_67 : decode cX0_init 67 = .ok (.iload_n 1, 1) := by decide +kernel
theorem dX0_init_68 : decode cX0_init 68 = .ok (.new 18, 3) := by decide +kernel
theorem dX0_init_71 : decode cX0_init 71 = .ok (.dup, 1) := by decide +kernel
theorem dX0_init_72 : decode cX0_init 72 = .ok (.invokespecial 24, 3) := by decide +kernel
theorem dX0_init_75 : decode cX0_init 75 = .ok (.aastore, 1) := by decide +kernel
theorem dX0_init_76 : decode cX0_init 76 = .ok (.iinc 1 1, 3) := by decide +kernel
theorem dX0_init_79 : decode cX0_init 79 = .ok (.goto (-25), 3) := by decide +kernel
theorem dX0_init_82 : decode cX0_init 82 = .ok (.aload_n 0, 1) := by decide +kernel
theorem dX0_init_83 : decode cX0_init 83 = .ok (.bipush 8, 2) := by decide +kernel
theorem dX0_init_85 : decode cX0_init 85 = .ok (.anewarray 18, 3) := by decide +kernel
theorem dX0_init_88 : decode cX0_init 88 = .ok (.putfield 25, 3) := by decide +kernel
theorem dX0_init_91 : decode cX0_init 91 = .ok (.iconst 0, 1) := by decide +kernel
theorem dX0_init_92 : decode cX0_init 92 = .ok (.istore_n 1, 1) := by decide +kernel
theorem dX0_init_93 : decode cX0_init 93 = .ok (.iload_n 1, 1) := by decide +kernel
theorem dX0_init_94 : decode cX0_init 94 = .ok (.aload_n 0, 1) := by decide +kernel
theorem dX0_init_95 : decode cX0_init 95 = .ok (.getfield 25, 3) := by decide +kernel
theorem dX0_init_98 : decode cX0_init 98 = .ok (.arraylength, 1) := by decide +kernel
theorem dX0_init_99 : decode cX0_init 99 = .ok (.if_icmp .ge 22, 3) := by decide +kernel
theorem dX0_init_102 : decode cX0_init 102 = .ok (.aload_n 0, 1) := by decide +kernel
theorem dX0_init_103 : decode cX0_init 103 = .ok (.getfield 25, 3) := by decide +kernel
theorem dX0_init_106 : decode cX0_init 106 = .ok (.iload_n 1, 1) := by decide +kernel
theorem dX0_init_107 : decode cX0_init 107 = .ok (.new 18, 3) := by decide +kernel
theorem dX0_init_110 : decode cX0_init 110 = .ok (.dup, 1) := by decide +kernel
theorem dX0_init_111 : decode cX0_init 111 = .ok (.invokespecial 24, 3) := by decide +kernel
theorem dX0_init_114 : decode cX0_init 114 = .ok (.aastore, 1) := by decide +kernel
theorem dX0_init_115 : decode cX0_init 115 = .ok (.iinc 1 1, 3) := by decide +kernel
theorem dX0_init_118 : decode cX0_init 118 = .ok (.goto (-25), 3) := by decide +kernel
theorem dX0_init_121 : decode cX0_init 121 = .ok (.aload_n 0, 1) := by decide +kernel
theorem dX0_init_122 : decode cX0_init 122 = .ok (.iconst 4, 1) := by decide +kernel
theorem dX0_init_123 : decode cX0_init 123 = .ok (.newarray .int, 2) := by decide +kernel
theorem dX0_init_125 : decode cX0_init 125 = .ok (.putfield 28, 3) := by decide +kernel
theorem dX0_init_128 : decode cX0_init 128 = .ok (.aload_n 0, 1) := by decide +kernel
theorem dX0_init_129 : decode cX0_init 129 = .ok (.iconst 3, 1) := by decide +kernel
theorem dX0_init_130 : decode cX0_init 130 = .ok (.newarray .int, 2) := by decide +kernel
theorem dX0_init_132 : decode cX0_init 132 = .ok (.dup, 1) := by decide +kernel
theorem dX0_init_133 : decode cX0_init 133 = .ok (.iconst 0, 1) := by decide +kernel
theorem dX0_init_134 : decode cX0_init 134 = .ok (.iconst 3, 1) := by decide +kernel
theorem dX0_init_135 : decode cX0_init 135 = .ok (.iastore, 1) := by decide +kernel
theorem dX0_init_136 : decode cX0_init 136 = .ok (.dup, 1) := by decide +kernel
theorem dX0_init_137 : decode cX0_init 137 = .ok (.iconst 1, 1) := by decide +kernel
theorem dX0_init_138 : decode cX0_init 138 = .ok (.iconst 3, 1) := by decide +kernel
theorem dX0_init_139 : decode cX0_init 139 = .ok (.iastore, 1) := by decide +kernel
theorem dX0_init_140 : decode cX0_init 140 = .ok (.dup, 1) := by decide +kernel
theorem dX0_init_141 : decode cX0_init 141 = .ok (.iconst 2, 1) := by decide +kernel
theorem dX0_init_142 : decode cX0_init 142 = .ok (.iconst 3, 1) := by decide +kernel
theorem dX0_init_143 : decode cX0_init 143 = .ok (.iastore, 1) := by decide +kernel
theorem dX0_init_144 : decode cX0_init 144 = .ok (.putfield 32, 3) := by decide +kernel
theorem dX0_init_147 : decode cX0_init 147 = .ok (.aload_n 0, 1) := by decide +kernel
theorem dX0_init_148 : decode cX0_init 148 = .ok (.new 18, 3) := by decide +kernel
theorem dX0_init_151 : decode cX0_init 151 = .ok (.dup, 1) := by decide +kernel
theorem dX0_init_152 : decode cX0_init 152 = .ok (.invokespecial 24, 3) := by decide +kernel
theorem dX0_init_155 : decode cX0_init 155 = .ok (.putfield 35, 3) := by decide +kernel
theorem dX0_init_158 : decode cX0_init 158 = .ok (.return_, 1) := by decide +kernel
theorem dX0_copyFrom_0 : decode cX0_copyFrom 0 = .ok (.aload_n 0, 1) := by decide +kernel
theorem dX0_copyFrom_1 : decode cX0_copyFrom 1 = .ok (.aload_n 1, 1) := by decide +kernel
theorem dX0_copyFrom_2 : decode cX0_copyFrom 2 = .ok (.getfield 39, 3) := by decide +kernel
theorem dX0_copyFrom_5 : decode cX0_copyFrom 5 = .ok (.putfield 39, 3) := by decide +kernel
theorem dX0_copyFrom_8 : decode cX0_copyFrom 8 = .ok (.iconst 0, 1) := by decide +kernel
theorem dX0_copyFrom_9 : decode cX0_copyFrom 9 = .ok (.istore_n 2, 1) := by decide +kernel
theorem dX0_copyFrom_10 : decode cX0_copyFrom 10 = .ok (.iload_n 2, 1) := by decide +kernel
theorem dX0_copyFrom_11 : decode cX0_copyFrom 11 = .ok (.aload_n 0, 1) := by decide +kernel
theorem dX0_copyFrom_12 : decode cX0_copyFrom 12 = .ok (.getfield 39, 3) := by decide +kernel
theorem dX0_copyFrom_15 : decode cX0_copyFrom 15 = .ok (.if_icmp .ge 24, 3) := by decide +kernel
theorem dX0_copyFrom_18 : decode cX0_copyFrom 18 = .ok (.aload_n 0, 1) := by decide +kernel
theorem dX0_copyFrom_19 : decode cX0_copyFrom 19 = .ok (.getfield 13, 3) := by decide +kernel
theorem dX0_copyFrom_22 : decode cX0_copyFrom 22 = .ok (.iload_n 2, 1) := by decide +kernel
theorem dX0_copyFrom_23 : decode cX0_copyFrom 23 = .ok (.aaload, 1) := by decide +kernel
theorem dX0_copyFrom_24 : decode cX0_copyFrom 24 = .ok (.aload_n 1, 1) := by decide +kernel
theorem dX0_copyFrom_25 : decode cX0_copyFrom 25 = .ok (.getfield 13, 3) := by decide +kernel
theorem dX0_copyFrom_28 : decode cX0_copyFrom 28 = .ok (.iload_n 2, 1) := by decide +kernel
theorem dX0_copyFrom_29 : decode cX0_copyFrom 29 = .ok (.aaload, 1) := by decide +kernel
theorem dX0_copyFrom_30 : decode cX0_copyFrom 30 = .ok (.invokevirtual 43, 3) := by decide +kernel
theorem dX0_copyFrom_33 : decode cX0_copyFrom 33 = .ok (.iinc 2 1, 3) := by decide +kernel
theorem dX0_copyFrom_36 : decode cX0_copyFrom 36 = .ok (.goto (-26), 3) := by decide +kernel
theorem dX0_copyFrom_39 : decode cX0_copyFrom 39 = .ok (.aload_n 0, 1) := by decide +kernel
theorem dX0_copyFrom_40 : decode cX0_copyFrom 40 = .ok (.aload_n 1, 1) := by decide +kernel
theorem dX0_copyFrom_41 : decode cX0_copyFrom 41 = .ok (.getfield 47, 3) := by decide +kernel
theorem dX0_copyFrom_44 : decode cX0_copyFrom 44 = .ok (.putfield 47, 3) := by decide +kernel
theorem dX0_copyFrom_47 : decode cX0_copyFrom 47 = .ok (.iconst 0, 1) := by decide +kernel
theorem dX0_copyFrom_48 : decode cX0_copyFrom 48 = .ok (.istore_n 2, 1) := by decide +kernel
theorem dX0_copyFrom_49 : decode cX0_copyFrom 49 = .ok (.iload_n 2, 1) := by decide +kernel
theorem dX0_copyFrom_50 : decode cX0_copyFrom 50 = .ok (.aload_n 0, 1) := by decide +kernel
theorem dX0_copyFrom_51 : decode cX0_copyFrom 51 = .ok (.getfield 47, 3) := by decide +kernel
theorem dX0_copyFrom_54 : decode cX0_copyFrom 54 = .ok (.if_icmp .ge 24, 3) := by decide +kernel
theorem dX0_copyFrom_57 : decode cX0_copyFrom 57 = .ok (.aload_n 0, 1) := by decide +kernel
theorem dX0_copyFrom_58 : decode cX0_copyFrom 58 = .ok (.getfield 20, 3) := by decide +kernel
theorem dX0_copyFrom_61 : decode cX0_copyFrom 61 = .ok (.iload_n 2, 1) := by decide +kernel
theorem dX0_copyFrom_62 : decode cX0_copyFrom 62 = .ok (.aaload, 1) := by decide +kernel
theorem dX0_copyFrom_63 : decode cX0_copyFrom 63 = .ok (.aload_n 1, 1) := by decide +kernel
theorem dX0_copyFrom_64 : decode cX0_copyFrom 64 = .ok (.getfield 20, 3) := by decide +kernel
theorem dX0_copyFrom_67 : decode cX0_copyFrom 67 = .ok (.iload_n 2, 1) := by decide +kernel
theorem dX0_copyFrom_68 : decode cX0_copyFrom 68 = .ok (.aaload, 1) := by decide +kernel
theorem dX0_copyFrom_69 : decode cX0_copyFrom 69 = .ok (.invokevirtual 50, 3) := by decide +kernel
theorem dX0_copyFrom_72 : decode cX0_copyFrom 72 = .ok (.iinc 2 1, 3) := by decide +kernel
theorem dX0_copyFrom_75 : decode cX0_copyFrom 75 = .ok (.goto (-26), 3) := by decide +kernel
theorem dX0_copyFrom_78 : decode cX0_copyFrom 78 = .ok (.aload_n 0, 1) := by decide +kernel
theorem dX0_copyFrom_79 : decode cX0_copyFrom 79 = .ok (.aload_n 1, 1) := by decide +kernel
theorem dX0_copyFrom_80 : decode cX0_copyFrom 80 = .ok (.getfield 53, 3) := by decide +kernel
theorem dX0_copyFrom_83 : decode cX0_copyFrom 83 = .ok (.putfield 53, 3) := by decide +kernel
theorem dX0_copyFrom_86 : decode cX0_copyFrom 86 = .ok (.iconst 0, 1) := by decide +kernel
theorem dX0_copyFrom_87 : decode cX0_copyFrom 87 = .ok (.istore_n 2, 1) := by decide +kernel
theorem dX0_copyFrom_88 : decode cX0_copyFrom 88 = .ok (.iload_n 2, 1) := by decide +kernel
theorem dX0_copyFrom_89 : decode cX0_copyFrom 89 = .ok (.aload_n 0, 1) := by decide +kernel
theorem dX0_copyFrom_90 : decode cX0_copyFrom 90 = .ok (.getfield 53, 3) := by decide +kernel
theorem dX0_copyFrom_93 : decode cX0_copyFrom 93 = .ok (.if_icmp .ge 24, 3) := by decide +kernel
theorem dX0_copyFrom_96 : decode cX0_copyFrom 96 = .ok (.aload_n 0, 1) := by decide +kernel
theorem dX0_copyFrom_97 : decode cX0_copyFrom 97 = .ok (.getfield 25, 3) := by decide +kernel
theorem dX0_copyFrom_100 : decode cX0_copyFrom 100 = .ok (.iload_n 2, 1) := by decide +kernel
theorem dX0_copyFrom_101 : decode cX0_copyFrom 101 = .ok (.aaload, 1) := by decide +kernel
theorem dX0_copyFrom_102 : decode cX0_copyFrom 102 = .ok (.aload_n 1, 1) := by decide +kernel
theorem dX0_copyFrom_103 : decode cX0_copyFrom 103 = .ok (.getfield 25, 3) := by decide +kernel
theorem dX0_copyFrom_106 : decode cX0_copyFrom 106 = .ok (.iload_n 2, 1) := by decide +kernel
theorem dX0_copyFrom_107 : decode cX0_copyFrom 107 = .ok (.aaload, 1) := by decide +kernel
theorem dX0_copyFrom_108 : decode cX0_copyFrom 108 = .ok (.invokevirtual 50, 3) := by decide +kernel
theorem dX0_copyFrom_111 : decode cX0_copyFrom 111 = .ok (.iinc 2 1, 3) := by decide +kernel
theorem dX0_copyFrom_114 : decode cX0_copyFrom 114 = .ok (.goto (-26), 3) := by decide +kernel
theorem dX0_copyFrom_117 : decode cX0_copyFrom 117 = .ok (.aload_n 0, 1) := by decide +kernel
theorem dX0_copyFrom_118 : decode cX0_copyFrom 118 = .ok (.aload_n 1, 1) := by decide +kernel
theorem dX0_copyFrom_119 : decode cX0_copyFrom 119 = .ok (.getfield 56, 3) := by decide +kernel
theorem dX0_copyFrom_122 : decode cX0_copyFrom 122 = .ok (.putfield 56, 3) := by decide +kernel
theorem dX0_copyFrom_125 : decode cX0_copyFrom 125 = .ok (.aload_n 0, 1) := by decide +kernel
theorem dX0_copyFrom_126 : decode cX0_copyFrom 126 = .ok (.getfield 35, 3) := by decide +kernel
theorem dX0_copyFrom_129 : decode cX0_copyFrom 129 = .ok (.aload_n 1, 1) := by decide +kernel
theorem dX0_copyFrom_130 : decode cX0_copyFrom 130 = .ok (.getfield 35, 3) := by decide +kernel
theorem dX0_copyFrom_133 : decode cX0_copyFrom 133 = .ok (.invokevirtual 50, 3) := by decide +kernel
theorem dX0_copyFrom_136 : decode cX0_copyFrom 136 = .ok (.aload_n 1, 1) := by decide +kernel
theorem dX0_copyFrom_137 : decode cX0_copyFrom 137 = .ok (.getfield 28, 3) := by decide +kernel
theorem dX0_copyFrom_140 : decode cX0_copyFrom 140 = .ok (.iconst 0, 1) := by decide +kernel
theorem dX0_copyFrom_141 : decode cX0_copyFrom 141 = .ok (.aload_n 0, 1) := by decide +kernel
theorem dX0_copyFrom_142 : decode cX0_copyFrom 142 = .ok (.getfield 28, 3) := by decide +kernel
theorem dX0_copyFrom_145 : decode cX0_copyFrom 145 = .ok (.iconst 0, 1) := by decide +kernel
theorem dX0_copyFrom_146 : decode cX0_copyFrom 146 = .ok (.aload_n 0, 1) := by decide +kernel
theorem dX0_copyFrom_147 : decode cX0_copyFrom 147 = .ok (.getfield 28, 3) := by decide +kernel
theorem dX0_copyFrom_150 : decode cX0_copyFrom 150 = .ok (.arraylength, 1) := by decide +kernel
theorem dX0_copyFrom_151 : decode cX0_copyFrom 151 = .ok (.invokestatic 60, 3) := by decide +kernel
theorem dX0_copyFrom_154 : decode cX0_copyFrom 154 = .ok (.aload_n 1, 1) := by decide +kernel
theorem dX0_copyFrom_155 : decode cX0_copyFrom 155 = .ok (.getfield 32, 3) := by decide +kernel
theorem dX0_copyFrom_158 : decode cX0_copyFrom 158 = .ok (.iconst 0, 1) := by decide +kernel
theorem dX0_copyFrom_159 : decode cX0_copyFrom 159 = .ok (.aload_n 0, 1) := by decide +kernel
theorem dX0_copyFrom_160 : decode cX0_copyFrom 160 = .ok (.getfield 32, 3) := by decide +kernel
theorem dX0_copyFrom_163 : decode cX0_copyFrom 163 = .ok (.iconst 0, 1) := by decide +kernel
theorem dX0_copyFrom_164 : decode cX0_copyFrom 164 = .ok (.aload_n 0, 1) := by decide +kernel
theorem dX0_copyFrom_165 : decode cX0_copyFrom 165 = .ok (.getfield 32, 3) := by decide +kernel
theorem dX0_copyFrom_168 : decode cX0_copyFrom 168 = .ok (.arraylength, 1) := by decide +kernel
theorem dX0_copyFrom_169 : decode cX0_copyFrom 169 = .ok (.invokestatic 60, 3) := by decide +kernel
theorem dX0_copyFrom_172 : decode cX0_copyFrom 172 = .ok (.aload_n 0, 1) := by decide +kernel
theorem dX0_copyFrom_173 : decode cX0_copyFrom 173 = .ok (.aload_n 1, 1) := by decide +kernel
theorem dX0_copyFrom_174 : decode cX0_copyFrom 174 = .ok (.getfield 66, 3) := by decide +kernel
theorem dX0_copyFrom_177 : decode cX0_copyFrom 177 = .ok (.putfield 66, 3) := by decide +kernel
theorem dX0_copyFrom_180 : decode cX0_copyFrom 180 = .ok (.aload_n 0, 1) := by decide +kernel
theorem dX0_copyFrom_181 : decode cX0_copyFrom 181 = .ok (.aload_n 1, 1) := by decide +kernel
theorem dX0_copyFrom_182 : decode cX0_copyFrom 182 = .ok (.getfield 69, 3) := by decide +kernel
theorem dX0_copyFrom_185 : decode cX0_copyFrom 185 = .ok (.putfield 69, 3) := by decide +kernel
theorem dX0_copyFrom_188 : decode cX0_copyFrom 188 = .ok (.aload_n 0, 1) := by decide +kernel
theorem dX0_copyFrom_189 : decode cX0_copyFrom 189 = .ok (.aload_n 1, 1) := by decide +kernel
theorem dX0_copyFrom_190 : decode cX0_copyFrom 190 = .ok (.getfield 72, 3) := by decide +kernel
theorem dX0_copyFrom_193 : decode cX0_copyFrom 193 = .ok (.putfield 72, 3) := by decide +kernel
theorem dX0_copyFrom_196 : decode cX0_copyFrom 196 = .ok (.aload_n 0, 1) := by decide +kernel
theorem dX0_copyFrom_197 : decode cX0_copyFrom 197 = .ok (.aload_n 1, 1) := by decide +kernel
theorem dX0_copyFrom_198 : decode cX0_copyFrom 198 = .ok (.getfield 75, 3) := by decide +kernel
theorem dX0_copyFrom_201 : decode cX0_copyFrom 201 = .ok (.putfield 75, 3) := by decide +kernel
theorem dX0_copyFrom_204 : decode cX0_copyFrom 204 = .ok (.aload_n 0, 1) := by decide +kernel
theorem dX0_copyFrom_205 : decode cX0_copyFrom 205 = .ok (.aload_n 1, 1) := by decide +kernel
theorem dX0_copyFrom_206 : decode cX0_copyFrom 206 = .ok (.getfield 78, 3) := by decide +kernel
theorem dX0_copyFrom_209 : decode cX0_copyFrom 209 = .ok (.putfield 78, 3) := by decide +kernel
theorem dX0_copyFrom_212 : decode cX0_copyFrom 212 = .ok (.aload_n 0, 1) := by decide +kernel
theorem dX0_copyFrom_213 : decode cX0_copyFrom 213 = .ok (.aload_n 1, 1) := by decide +kernel
theorem dX0_copyFrom_214 : decode cX0_copyFrom 214 = .ok (.getfield 81, 3) := by decide +kernel
theorem dX0_copyFrom_217 : decode cX0_copyFrom 217 = .ok (.putfield 81, 3) := by decide +kernel
theorem dX0_copyFrom_220 : decode cX0_copyFrom 220 = .ok (.aload_n 0, 1) := by decide +kernel
theorem dX0_copyFrom_221 : decode cX0_copyFrom 221 = .ok (.aload_n 1, 1) := by decide +kernel
theorem dX0_copyFrom_222 : decode cX0_copyFrom 222 = .ok (.getfield 84, 3) := by decide +kernel
theorem dX0_copyFrom_225 : decode cX0_copyFrom 225 = .ok (.putfield 84, 3) := by decide +kernel
theorem dX0_copyFrom_228 : decode cX0_copyFrom 228 = .ok (.return_, 1) := by decide +kernel
theorem dX0_hasBidder_0 : decode cX0_hasBidder 0 = .ok (.iload_n 1, 1) := by decide +kernel
theorem dX0_hasBidder_1 : decode cX0_hasBidder 1 = .ok (.ifCond .lt 15, 3) := by decide +kernel
theorem dX0_hasBidder_4 : decode cX0_hasBidder 4 = .ok (.iload_n 1, 1) := by decide +kernel
theorem dX0_hasBidder_5 : decode cX0_hasBidder 5 = .ok (.aload_n 0, 1) := by decide +kernel
theorem dX0_hasBidder_6 : decode cX0_hasBidder 6 = .ok (.getfield 39, 3) := by decide +kernel
theorem dX0_hasBidder_9 : decode cX0_hasBidder 9 = .ok (.if_icmp .ge 7, 3) := by decide +kernel
theorem dX0_hasBidder_12 : decode cX0_hasBidder 12 = .ok (.iconst 1, 1) := by decide +kernel
theorem dX0_hasBidder_13 : decode cX0_hasBidder 13 = .ok (.goto 4, 3) := by decide +kernel
theorem dX0_hasBidder_16 : decode cX0_hasBidder 16 = .ok (.iconst 0, 1) := by decide +kernel
theorem dX0_hasBidder_17 : decode cX0_hasBidder 17 = .ok (.ireturn, 1) := by decide +kernel
theorem dX0_findSeated_0 : decode cX0_findSeated 0 = .ok (.iconst 0, 1) := by decide +kernel
theorem dX0_findSeated_1 : decode cX0_findSeated 1 = .ok (.istore_n 3, 1) := by decide +kernel
theorem dX0_findSeated_2 : decode cX0_findSeated 2 = .ok (.iload_n 3, 1) := by decide +kernel
theorem dX0_findSeated_3 : decode cX0_findSeated 3 = .ok (.aload_n 0, 1) := by decide +kernel
theorem dX0_findSeated_4 : decode cX0_findSeated 4 = .ok (.getfield 39, 3) := by decide +kernel
theorem dX0_findSeated_7 : decode cX0_findSeated 7 = .ok (.if_icmp .ge 37, 3) := by decide +kernel
theorem dX0_findSeated_10 : decode cX0_findSeated 10 = .ok (.aload_n 0, 1) := by decide +kernel
theorem dX0_findSeated_11 : decode cX0_findSeated 11 = .ok (.getfield 13, 3) := by decide +kernel
theorem dX0_findSeated_14 : decode cX0_findSeated 14 = .ok (.iload_n 3, 1) := by decide +kernel
theorem dX0_findSeated_15 : decode cX0_findSeated 15 = .ok (.aaload, 1) := by decide +kernel
theorem dX0_findSeated_16 : decode cX0_findSeated 16 = .ok (.getfield 87, 3) := by decide +kernel
theorem dX0_findSeated_19 : decode cX0_findSeated 19 = .ok (.iload_n 1, 1) := by decide +kernel
theorem dX0_findSeated_20 : decode cX0_findSeated 20 = .ok (.if_icmp .ne 18, 3) := by decide +kernel
theorem dX0_findSeated_23 : decode cX0_findSeated 23 = .ok (.aload_n 0, 1) := by decide +kernel
theorem dX0_findSeated_24 : decode cX0_findSeated 24 = .ok (.getfield 13, 3) := by decide +kernel
theorem dX0_findSeated_27 : decode cX0_findSeated 27 = .ok (.iload_n 3, 1) := by decide +kernel
theorem dX0_findSeated_28 : decode cX0_findSeated 28 = .ok (.aaload, 1) := by decide +kernel
theorem dX0_findSeated_29 : decode cX0_findSeated 29 = .ok (.getfield 90, 3) := by decide +kernel
theorem dX0_findSeated_32 : decode cX0_findSeated 32 = .ok (.iload_n 2, 1) := by decide +kernel
theorem dX0_findSeated_33 : decode cX0_findSeated 33 = .ok (.if_icmp .ne 5, 3) := by decide +kernel
theorem dX0_findSeated_36 : decode cX0_findSeated 36 = .ok (.iload_n 3, 1) := by decide +kernel
theorem dX0_findSeated_37 : decode cX0_findSeated 37 = .ok (.ireturn, 1) := by decide +kernel
theorem dX0_findSeated_38 : decode cX0_findSeated 38 = .ok (.iinc 3 1, 3) := by decide +kernel
theorem dX0_findSeated_41 : decode cX0_findSeated 41 = .ok (.goto (-39), 3) := by decide +kernel
theorem dX0_findSeated_44 : decode cX0_findSeated 44 = .ok (.ldc 93, 2) := by decide +kernel
theorem dX0_findSeated_46 : decode cX0_findSeated 46 = .ok (.ireturn, 1) := by decide +kernel
theorem dX0_seatBidder_0 : decode cX0_seatBidder 0 = .ok (.iload_n 1, 1) := by decide +kernel
theorem dX0_seatBidder_1 : decode cX0_seatBidder 1 = .ok (.iload_n 2, 1) := by decide +kernel
theorem dX0_seatBidder_2 : decode cX0_seatBidder 2 = .ok (.invokestatic 94, 3) := by decide +kernel
theorem dX0_seatBidder_5 : decode cX0_seatBidder 5 = .ok (.ifCond .eq 25, 3) := by decide +kernel
theorem dX0_seatBidder_8 : decode cX0_seatBidder 8 = .ok (.iload_n 3, 1) := by decide +kernel
theorem dX0_seatBidder_9 : decode cX0_seatBidder 9 = .ok (.iconst 0, 1) := by decide +kernel
theorem dX0_seatBidder_10 : decode cX0_seatBidder 10 = .ok (.sipush 999, 3) := by decide +kernel
theorem dX0_seatBidder_13 : decode cX0_seatBidder 13 = .ok (.invokestatic 98, 3) := by decide +kernel
theorem dX0_seatBidder_16 : decode cX0_seatBidder 16 = .ok (.ifCond .eq 14, 3) := by decide +kernel
theorem dX0_seatBidder_19 : decode cX0_seatBidder 19 = .ok (.iload 4, 2) := by decide +kernel
theorem dX0_seatBidder_21 : decode cX0_seatBidder 21 = .ok (.iconst 1, 1) := by decide +kernel
theorem dX0_seatBidder_22 : decode cX0_seatBidder 22 = .ok (.bipush 9, 2) := by decide +kernel
theorem dX0_seatBidder_24 : decode cX0_seatBidder 24 = .ok (.invokestatic 98, 3) := by decide +kernel
theorem dX0_seatBidder_27 : decode cX0_seatBidder 27 = .ok (.ifCond .ne 6, 3) := by decide +kernel
theorem dX0_seatBidder_30 : decode cX0_seatBidder 30 = .ok (.ldc 102, 2) := by decide +kernel
theorem dX0_seatBidder_32 : decode cX0_seatBidder 32 = .ok (.ireturn, 1) := by decide +kernel
theorem dX0_seatBidder_33 : decode cX0_seatBidder 33 = .ok (.aload_n 0, 1) := by decide +kernel
theorem dX0_seatBidder_34 : decode cX0_seatBidder 34 = .ok (.iload_n 1, 1) := by decide +kernel
theorem dX0_seatBidder_35 : decode cX0_seatBidder 35 = .ok (.iload_n 2, 1) := by decide +kernel
theorem dX0_seatBidder_36 : decode cX0_seatBidder 36 = .ok (.invokevirtual 103, 3) := by decide +kernel
theorem dX0_seatBidder_39 : decode cX0_seatBidder 39 = .ok (.ldc 93, 2) := by decide +kernel
theorem dX0_seatBidder_41 : decode cX0_seatBidder 41 = .ok (.if_icmp .eq 6, 3) := by decide +kernel
theorem dX0_seatBidder_44 : decode cX0_seatBidder 44 = .ok (.ldc 107, 2) := by decide +kernel
theorem dX0_seatBidder_46 : decode cX0_seatBidder 46 = .ok (.ireturn, 1) := by decide +kernel
theorem dX0_seatBidder_47 : decode cX0_seatBidder 47 = .ok (.aload_n 0, 1) := by decide +kernel
theorem dX0_seatBidder_48 : decode cX0_seatBidder 48 = .ok (.getfield 39, 3) := by decide +kernel
theorem dX0_seatBidder_51 : decode cX0_seatBidder 51 = .ok (.aload_n 0, 1) := by decide +kernel
theorem dX0_seatBidder_52 : decode cX0_seatBidder 52 = .ok (.getfield 13, 3) := by decide +kernel
theorem dX0_seatBidder_55 : decode cX0_seatBidder 55 = .ok (.arraylength, 1) := by decide +kernel
theorem dX0_seatBidder_56 : decode cX0_seatBidder 56 = .ok (.if_icmp .lt 6, 3) := by decide +kernel
theorem dX0_seatBidder_59 : decode cX0_seatBidder 59 = .ok (.ldc 108, 2) := by decide +kernel
theorem dX0_seatBidder_61 : decode cX0_seatBidder 61 = .ok (.ireturn, 1) := by decide +kernel
theorem dX0_seatBidder_62 : decode cX0_seatBidder 62 = .ok (.aload_n 0, 1) := by decide +kernel
theorem dX0_seatBidder_63 : decode cX0_seatBidder 63 = .ok (.getfield 13, 3) := by decide +kernel
theorem dX0_seatBidder_66 : decode cX0_seatBidder 66 = .ok (.aload_n 0, 1) := by decide +kernel
theorem dX0_seatBidder_67 : decode cX0_seatBidder 67 = .ok (.getfield 39, 3) := by decide +kernel
theorem dX0_seatBidder_70 : decode cX0_seatBidder 70 = .ok (.aaload, 1) := by decide +kernel
theorem dX0_seatBidder_71 : decode cX0_seatBidder 71 = .ok (.iload_n 1, 1) := by decide +kernel
theorem dX0_seatBidder_72 : decode cX0_seatBidder 72 = .ok (.iload_n 2, 1) := by decide +kernel
theorem dX0_seatBidder_73 : decode cX0_seatBidder 73 = .ok (.iload_n 3, 1) := by decide +kernel
theorem dX0_seatBidder_74 : decode cX0_seatBidder 74 = .ok (.iload 4, 2) := by decide +kernel
theorem dX0_seatBidder_76 : decode cX0_seatBidder 76 = .ok (.invokevirtual 109, 3) := by decide +kernel
theorem dX0_seatBidder_79 : decode cX0_seatBidder 79 = .ok (.aload_n 0, 1) := by decide +kernel
theorem dX0_seatBidder_80 : decode cX0_seatBidder 80 = .ok (.dup, 1) := by decide +kernel
theorem dX0_seatBidder_81 : decode cX0_seatBidder 81 = .ok (.getfield 39, 3) := by decide +kernel
theorem dX0_seatBidder_84 : decode cX0_seatBidder 84 = .ok (.iconst 1, 1) := by decide +kernel
theorem dX0_seatBidder_85 : decode cX0_seatBidder 85 = .ok (.iadd, 1) := by decide +kernel
theorem dX0_seatBidder_86 : decode cX0_seatBidder 86 = .ok (.putfield 39, 3) := by decide +kernel
theorem dX0_seatBidder_89 : decode cX0_seatBidder 89 = .ok (.aload_n 0, 1) := by decide +kernel
theorem dX0_seatBidder_90 : decode cX0_seatBidder 90 = .ok (.getfield 39, 3) := by decide +kernel
theorem dX0_seatBidder_93 : decode cX0_seatBidder 93 = .ok (.iconst 1, 1) := by decide +kernel
theorem dX0_seatBidder_94 : decode cX0_seatBidder 94 = .ok (.isub, 1) := by decide +kernel
theorem dX0_seatBidder_95 : decode cX0_seatBidder 95 = .ok (.ireturn, 1) := by decide +kernel
theorem dX0_changeCold_0 : decode cX0_changeCold 0 = .ok (.aload_n 0, 1) := by decide +kernel
theorem dX0_changeCold_1 : decode cX0_changeCold 1 = .ok (.iload_n 1, 1) := by decide +kernel
theorem dX0_changeCold_2 : decode cX0_changeCold 2 = .ok (.invokevirtual 113, 3) := by decide +kernel
theorem dX0_changeCold_5 : decode cX0_changeCold 5 = .ok (.ifCond .eq 12, 3) := by decide +kernel
theorem dX0_changeCold_8 : decode cX0_changeCold 8 = .ok (.iload_n 2, 1) := by decide +kernel
theorem dX0_changeCold_9 : decode cX0_changeCold 9 = .ok (.iconst 0, 1) := by decide +kernel
theorem dX0_changeCold_10 : decode cX0_changeCold 10 = .ok (.iconst 5, 1) := by decide +kernel
theorem dX0_changeCold_11 : decode cX0_changeCold 11 = .ok (.invokestatic 98, 3) := by decide +kernel
theorem dX0_changeCold_14 : decode cX0_changeCold 14 = .ok (.ifCond .ne 6, 3) := by decide +kernel
theorem dX0_changeCold_17 : decode cX0_changeCold 17 = .ok (.ldc 102, 2) := by decide +kernel
theorem dX0_changeCold_19 : decode cX0_changeCold 19 = .ok (.ireturn, 1) := by decide +kernel
theorem dX0_changeCold_20 : decode cX0_changeCold 20 = .ok (.aload_n 0, 1) := by decide +kernel
theorem dX0_changeCold_21 : decode cX0_changeCold 21 = .ok (.getfield 13, 3) := by decide +kernel
theorem dX0_changeCold_24 : decode cX0_changeCold 24 = .ok (.iload_n 1, 1) := by decide +kernel
theorem dX0_changeCold_25 : decode cX0_changeCold 25 = .ok (.aaload, 1) := by decide +kernel
theorem dX0_changeCold_26 : decode cX0_changeCold 26 = .ok (.getfield 117, 3) := by decide +kernel
theorem dX0_changeCold_29 : decode cX0_changeCold 29 = .ok (.istore_n 3, 1) := by decide +kernel
theorem dX0_changeCold_30 : decode cX0_changeCold 30 = .ok (.aload_n 0, 1) := by decide +kernel
theorem dX0_changeCold_31 : decode cX0_changeCold 31 = .ok (.getfield 13, 3) := by decide +kernel
theorem dX0_changeCold_34 : decode cX0_changeCold 34 = .ok (.iload_n 1, 1) := by decide +kernel
theorem dX0_changeCold_35 : decode cX0_changeCold 35 = .ok (.aaload, 1) := by decide +kernel
theorem dX0_changeCold_36 : decode cX0_changeCold 36 = .ok (.iload_n 2, 1) := by decide +kernel
theorem dX0_changeCold_37 : decode cX0_changeCold 37 = .ok (.putfield 117, 3) := by decide +kernel
theorem dX0_changeCold_40 : decode cX0_changeCold 40 = .ok (.iload_n 3, 1) := by decide +kernel
theorem dX0_changeCold_41 : decode cX0_changeCold 41 = .ok (.ireturn, 1) := by decide +kernel
theorem dX0_changeMuffler_0 : decode cX0_changeMuffler 0 = .ok (.aload_n 0, 1) := by decide +kernel
theorem dX0_changeMuffler_1 : decode cX0_changeMuffler 1 = .ok (.iload_n 1, 1) := by decide +kernel
theorem dX0_changeMuffler_2 : decode cX0_changeMuffler 2 = .ok (.invokevirtual 113, 3) := by decide +kernel
theorem dX0_changeMuffler_5 : decode cX0_changeMuffler 5 = .ok (.ifCond .eq 12, 3) := by decide +kernel
theorem dX0_changeMuffler_8 : decode cX0_changeMuffler 8 = .ok (.iload_n 2, 1) := by decide +kernel
theorem dX0_changeMuffler_9 : decode cX0_changeMuffler 9 = .ok (.iconst 0, 1) := by decide +kernel
theorem dX0_changeMuffler_10 : decode cX0_changeMuffler 10 = .ok (.iconst 5, 1) := by decide +kernel
theorem dX0_changeMuffler_11 : decode cX0_changeMuffler 11 = .ok (.invokestatic 98, 3) := by decide +kernel
theorem dX0_changeMuffler_14 : decode cX0_changeMuffler 14 = .ok (.ifCond .ne 6, 3) := by decide +kernel
theorem dX0_changeMuffler_17 : decode cX0_changeMuffler 17 = .ok (.ldc 102, 2) := by decide +kernel
theorem dX0_changeMuffler_19 : decode cX0_changeMuffler 19 = .ok (.ireturn, 1) := by decide +kernel
theorem dX0_changeMuffler_20 : decode cX0_changeMuffler 20 = .ok (.aload_n 0, 1) := by decide +kernel
theorem dX0_changeMuffler_21 : decode cX0_changeMuffler 21 = .ok (.getfield 13, 3) := by decide +kernel
theorem dX0_changeMuffler_24 : decode cX0_changeMuffler 24 = .ok (.iload_n 1, 1) := by decide +kernel
theorem dX0_changeMuffler_25 : decode cX0_changeMuffler 25 = .ok (.aaload, 1) := by decide +kernel
theorem dX0_changeMuffler_26 : decode cX0_changeMuffler 26 = .ok (.getfield 120, 3) := by decide +kernel
theorem dX0_changeMuffler_29 : decode cX0_changeMuffler 29 = .ok (.istore_n 3, 1) := by decide +kernel
theorem dX0_changeMuffler_30 : decode cX0_changeMuffler 30 = .ok (.aload_n 0, 1) := by decide +kernel
theorem dX0_changeMuffler_31 : decode cX0_changeMuffler 31 = .ok (.getfield 13, 3) := by decide +kernel
theorem dX0_changeMuffler_34 : decode cX0_changeMuffler 34 = .ok (.iload_n 1, 1) := by decide +kernel
theorem dX0_changeMuffler_35 : decode cX0_changeMuffler 35 = .ok (.aaload, 1) := by decide +kernel
theorem dX0_changeMuffler_36 : decode cX0_changeMuffler 36 = .ok (.iload_n 2, 1) := by decide +kernel
theorem dX0_changeMuffler_37 : decode cX0_changeMuffler 37 = .ok (.putfield 120, 3) := by decide +kernel
theorem dX0_changeMuffler_40 : decode cX0_changeMuffler 40 = .ok (.iload_n 3, 1) := by decide +kernel
theorem dX0_changeMuffler_41 : decode cX0_changeMuffler 41 = .ok (.ireturn, 1) := by decide +kernel
theorem dX0_bidderSetWithCold_0 : decode cX0_bidderSetWithCold 0 = .ok (.iconst 0, 1) := by decide +kernel
theorem dX0_bidderSetWithCold_1 : decode cX0_bidderSetWithCold 1 = .ok (.istore_n 1, 1) := by decide +kernel
theorem dX0_bidderSetWithCold_2 : decode cX0_bidderSetWithCold 2 = .ok (.iconst 0, 1) := by decide +kernel
theorem dX0_bidderSetWithCold_3 : decode cX0_bidderSetWithCold 3 = .ok (.istore_n 2, 1) := by decide +kernel
theorem dX0_bidderSetWithCold_4 : decode cX0_bidderSetWithCold 4 = .ok (.iload_n 2, 1) := by decide +kernel
theorem dX0_bidderSetWithCold_5 : decode cX0_bidderSetWithCold 5 = .ok (.aload_n 0, 1) := by decide +kernel
theorem dX0_bidderSetWithCold_6 : decode cX0_bidderSetWithCold 6 = .ok (.getfield 39, 3) := by decide +kernel
theorem dX0_bidderSetWithCold_9 : decode cX0_bidderSetWithCold 9 = .ok (.if_icmp .ge 27, 3) := by decide +kernel
theorem dX0_bidderSetWithCold_12 : decode cX0_bidderSetWithCold 12 = .ok (.aload_n 0, 1) := by decide +kernel
theorem dX0_bidderSetWithCold_13 : decode cX0_bidderSetWithCold 13 = .ok (.getfield 13, 3) := by decide +kernel
theorem dX0_bidderSetWithCold_16 : decode cX0_bidderSetWithCold 16 = .ok (.iload_n 2, 1) := by decide +kernel
theorem dX0_bidderSetWithCold_17 : decode cX0_bidderSetWithCold 17 = .ok (.aaload, 1) := by decide +kernel
theorem dX0_bidderSetWithCold_18 : decode cX0_bidderSetWithCold 18 = .ok (.getfield 117, 3) := by decide +kernel
theorem dX0_bidderSetWithCold_21 : decode cX0_bidderSetWithCold 21 = .ok (.ifCond .le 9, 3) := by decide +kernel
theorem dX0_bidderSetWithCold_24 : decode cX0_bidderSetWithCold 24 = .ok (.iload_n 1, 1) := by decide +kernel
theorem dX0_bidderSetWithCold_25 : decode cX0_bidderSetWithCold 25 = .ok (.iconst 1, 1) := by decide +kernel
theorem dX0_bidderSetWithCold_26 : decode cX0_bidderSetWithCold 26 = .ok (.iload_n 2, 1) := by decide +kernel
theorem dX0_bidderSetWithCold_27 : decode cX0_bidderSetWithCold 27 = .ok (.ishl, 1) := by decide +kernel
theorem dX0_bidderSetWithCold_28 : decode cX0_bidderSetWithCold 28 = .ok (.ior, 1) := by decide +kernel
theorem dX0_bidderSetWithCold_29 : decode cX0_bidderSetWithCold 29 = .ok (.istore_n 1, 1) := by decide +kernel
theorem dX0_bidderSetWithCold_30 : decode cX0_bidderSetWithCold 30 = .ok (.iinc 2 1, 3) := by decide +kernel
theorem dX0_bidderSetWithCold_33 : decode cX0_bidderSetWithCold 33 = .ok (.goto (-29), 3) := by decide +kernel
theorem dX0_bidderSetWithCold_36 : decode cX0_bidderSetWithCold 36 = .ok (.iload_n 1, 1) := by decide +kernel
theorem dX0_bidderSetWithCold_37 : decode cX0_bidderSetWithCold 37 = .ok (.ireturn, 1) := by decide +kernel
theorem dX0_changeSetting_0 : decode cX0_changeSetting 0 = .ok (.iload_n 1, 1) := by decide +kernel
theorem dX0_changeSetting_1 : decode cX0_changeSetting 1 = .ok (.iconst 0, 1) := by decide +kernel
theorem dX0_changeSetting_2 : decode cX0_changeSetting 2 = .ok (.aload_n 0, 1) := by decide +kernel
theorem dX0_changeSetting_3 : decode cX0_changeSetting 3 = .ok (.getfield 32, 3) := by decide +kernel
theorem dX0_changeSetting_6 : decode cX0_changeSetting 6 = .ok (.arraylength, 1) := by decide +kernel
theorem dX0_changeSetting_7 : decode cX0_changeSetting 7 = .ok (.iconst 1, 1) := by decide +kernel
theorem dX0_changeSetting_8 : decode cX0_changeSetting 8 = .ok (.isub, 1) := by decide +kernel
theorem dX0_changeSetting_9 : decode cX0_changeSetting 9 = .ok (.invokestatic 98, 3) := by decide +kernel
theorem dX0_changeSetting_12 : decode cX0_changeSetting 12 = .ok (.ifCond .eq 13, 3) := by decide +kernel
theorem dX0_changeSetting_15 : decode cX0_changeSetting 15 = .ok (.iload_n 2, 1) := by decide +kernel
theorem dX0_changeSetting_16 : decode cX0_changeSetting 16 = .ok (.iconst 1, 1) := by decide +kernel
theorem dX0_changeSetting_17 : decode cX0_changeSetting 17 = .ok (.bipush 9, 2) := by decide +kernel
theorem dX0_changeSetting_19 : decode cX0_changeSetting 19 = .ok (.invokestatic 98, 3) := by decide +kernel
theorem dX0_changeSetting_22 : decode cX0_changeSetting 22 = .ok (.ifCond .ne 6, 3) := by decide +kernel
theorem dX0_changeSetting_25 : decode cX0_changeSetting 25 = .ok (.ldc 102, 2) := by decide +kernel
theorem dX0_changeSetting_27 : decode cX0_changeSetting 27 = .ok (.ireturn, 1) := by decide +kernel
theorem dX0_changeSetting_28 : decode cX0_changeSetting 28 = .ok (.aload_n 0, 1) := by decide +kernel
theorem dX0_changeSetting_29 : decode cX0_changeSetting 29 = .ok (.getfield 32, 3) := by decide +kernel
theorem dX0_changeSetting_32 : decode cX0_changeSetting 32 = .ok (.iload_n 1, 1) := by decide +kernel
theorem dX0_changeSetting_33 : decode cX0_changeSetting 33 = .ok (.iaload, 1) := by decide +kernel
theorem dX0_changeSetting_34 : decode cX0_changeSetting 34 = .ok (.istore_n 3, 1) := by decide +kernel
theorem dX0_changeSetting_35 : decode cX0_changeSetting 35 = .ok (.aload_n 0, 1) := by decide +kernel
theorem dX0_changeSetting_36 : decode cX0_changeSetting 36 = .ok (.getfield 32, 3) := by decide +kernel
theorem dX0_changeSetting_39 : decode cX0_changeSetting 39 = .ok (.iload_n 1, 1) := by decide +kernel
theorem dX0_changeSetting_40 : decode cX0_changeSetting 40 = .ok (.iload_n 2, 1) := by decide +kernel
theorem dX0_changeSetting_41 : decode cX0_changeSetting 41 = .ok (.iastore, 1) := by decide +kernel
theorem dX0_changeSetting_42 : decode cX0_changeSetting 42 = .ok (.iload_n 3, 1) := by decide +kernel
theorem dX0_changeSetting_43 : decode cX0_changeSetting 43 = .ok (.ireturn, 1) := by decide +kernel
theorem dX0_addLot_0 : decode cX0_addLot 0 = .ok (.iload_n 1, 1) := by decide +kernel
theorem dX0_addLot_1 : decode cX0_addLot 1 = .ok (.iconst 1, 1) := by decide +kernel
theorem dX0_addLot_2 : decode cX0_addLot 2 = .ok (.bipush 99, 2) := by decide +kernel
theorem dX0_addLot_4 : decode cX0_addLot 4 = .ok (.invokestatic 98, 3) := by decide +kernel
theorem dX0_addLot_7 : decode cX0_addLot 7 = .ok (.ifCond .eq 13, 3) := by decide +kernel
theorem dX0_addLot_10 : decode cX0_addLot 10 = .ok (.iload_n 2, 1) := by decide +kernel
theorem dX0_addLot_11 : decode cX0_addLot 11 = .ok (.iconst 1, 1) := by decide +kernel
theorem dX0_addLot_12 : decode cX0_addLot 12 = .ok (.bipush 20, 2) := by decide +kernel
theorem dX0_addLot_14 : decode cX0_addLot 14 = .ok (.invokestatic 98, 3) := by decide +kernel
theorem dX0_addLot_17 : decode cX0_addLot 17 = .ok (.ifCond .ne 6, 3) := by decide +kernel
theorem dX0_addLot_20 : decode cX0_addLot 20 = .ok (.ldc 102, 2) := by decide +kernel
theorem dX0_addLot_22 : decode cX0_addLot 22 = .ok (.ireturn, 1) := by decide +kernel
theorem dX0_addLot_23 : decode cX0_addLot 23 = .ok (.aload_n 0, 1) := by decide +kernel
theorem dX0_addLot_24 : decode cX0_addLot 24 = .ok (.getfield 47, 3) := by decide +kernel
theorem dX0_addLot_27 : decode cX0_addLot 27 = .ok (.aload_n 0, 1) := by decide +kernel
theorem dX0_addLot_28 : decode cX0_addLot 28 = .ok (.getfield 20, 3) := by decide +kernel
theorem dX0_addLot_31 : decode cX0_addLot 31 = .ok (.arraylength, 1) := by decide +kernel
theorem dX0_addLot_32 : decode cX0_addLot 32 = .ok (.if_icmp .lt 6, 3) := by decide +kernel
theorem dX0_addLot_35 : decode cX0_addLot 35 = .ok (.ldc 108, 2) := by decide +kernel
theorem dX0_addLot_37 : decode cX0_addLot 37 = .ok (.ireturn, 1) := by decide +kernel
theorem dX0_addLot_38 : decode cX0_addLot 38 = .ok (.aload_n 0, 1) := by decide +kernel
theorem dX0_addLot_39 : decode cX0_addLot 39 = .ok (.getfield 20, 3) := by decide +kernel
theorem dX0_addLot_42 : decode cX0_addLot 42 = .ok (.aload_n 0, 1) := by decide +kernel
theorem dX0_addLot_43 : decode cX0_addLot 43 = .ok (.getfield 47, 3) := by decide +kernel
theorem dX0_addLot_46 : decode cX0_addLot 46 = .ok (.aaload, 1) := by decide +kernel
theorem dX0_addLot_47 : decode cX0_addLot 47 = .ok (.iload_n 1, 1) := by decide +kernel
theorem dX0_addLot_48 : decode cX0_addLot 48 = .ok (.iload_n 2, 1) := by decide +kernel
theorem dX0_addLot_49 : decode cX0_addLot 49 = .ok (.invokevirtual 123, 3) := by decide +kernel
theorem dX0_addLot_52 : decode cX0_addLot 52 = .ok (.aload_n 0, 1) := by decide +kernel
theorem dX0_addLot_53 : decode cX0_addLot 53 = .ok (.dup, 1) := by decide +kernel
theorem dX0_addLot_54 : decode cX0_addLot 54 = .ok (.getfield 47, 3) := by decide +kernel
theorem dX0_addLot_57 : decode cX0_addLot 57 = .ok (.iconst 1, 1) := by decide +kernel
theorem dX0_addLot_58 : decode cX0_addLot 58 = .ok (.iadd, 1) := by decide +kernel
theorem dX0_addLot_59 : decode cX0_addLot 59 = .ok (.putfield 47, 3) := by decide +kernel
theorem dX0_addLot_62 : decode cX0_addLot 62 = .ok (.aload_n 0, 1) := by decide +kernel
theorem dX0_addLot_63 : decode cX0_addLot 63 = .ok (.dup, 1) := by decide +kernel
theorem dX0_addLot_64 : decode cX0_addLot 64 = .ok (.getfield 72, 3) := by decide +kernel
theorem dX0_addLot_67 : decode cX0_addLot 67 = .ok (.iconst 1, 1) := by decide +kernel
theorem dX0_addLot_68 : decode cX0_addLot 68 = .ok (.iadd, 1) := by decide +kernel
theorem dX0_addLot_69 : decode cX0_addLot 69 = .ok (.putfield 72, 3) := by decide +kernel
theorem dX0_addLot_72 : decode cX0_addLot 72 = .ok (.aload_n 0, 1) := by decide +kernel
theorem dX0_addLot_73 : decode cX0_addLot 73 = .ok (.getfield 47, 3) := by decide +kernel
theorem dX0_addLot_76 : decode cX0_addLot 76 = .ok (.ireturn, 1) := by decide +kernel
theorem dX0_raiseNextLot_0 : decode cX0_raiseNextLot 0 = .ok (.aload_n 0, 1) := by decide +kernel
theorem dX0_raiseNextLot_1 : decode cX0_raiseNextLot 1 = .ok (.getfield 56, 3) := by decide +kernel
theorem dX0_raiseNextLot_4 : decode cX0_raiseNextLot 4 = .ok (.ifCond .ne 10, 3) := by decide +kernel
theorem dX0_raiseNextLot_7 : decode cX0_raiseNextLot 7 = .ok (.aload_n 0, 1) := by decide +kernel
theorem dX0_raiseNextLot_8 : decode cX0_raiseNextLot 8 = .ok (.getfield 47, 3) := by decide +kernel
theorem dX0_raiseNextLot_11 : decode cX0_raiseNextLot 11 = .ok (.ifCond .ne 6, 3) := by decide +kernel
theorem dX0_raiseNextLot_14 : decode cX0_raiseNextLot 14 = .ok (.ldc 107, 2) := by decide +kernel
theorem dX0_raiseNextLot_16 : decode cX0_raiseNextLot 16 = .ok (.ireturn, 1) := by decide +kernel
theorem dX0_raiseNextLot_17 : decode cX0_raiseNextLot 17 = .ok (.aload_n 0, 1) := by decide +kernel
theorem dX0_raiseNextLot_18 : decode cX0_raiseNextLot 18 = .ok (.getfield 35, 3) := by decide +kernel
theorem dX0_raiseNextLot_21 : decode cX0_raiseNextLot 21 = .ok (.astore_n 1, 1) := by decide +kernel
theorem dX0_raiseNextLot_22 : decode cX0_raiseNextLot 22 = .ok (.aload_n 0, 1) := by decide +kernel
theorem dX0_raiseNextLot_23 : decode cX0_raiseNextLot 23 = .ok (.aload_n 0, 1) := by decide +kernel
theorem dX0_raiseNextLot_24 : decode cX0_raiseNextLot 24 = .ok (.getfield 20, 3) := by decide +kernel
theorem dX0_raiseNextLot_27 : decode cX0_raiseNextLot 27 = .ok (.iconst 0, 1) := by decide +kernel
theorem dX0_raiseNextLot_28 : decode cX0_raiseNextLot 28 = .ok (.aaload, 1) := by decide +kernel
theorem dX0_raiseNextLot_29 : decode cX0_raiseNextLot 29 = .ok (.putfield 35, 3) := by decide +kernel
theorem dX0_raiseNextLot_32 : decode cX0_raiseNextLot 32 = .ok (.iconst 1, 1) := by decide +kernel
theorem dX0_raiseNextLot_33 : decode cX0_raiseNextLot 33 = .ok (.istore_n 2, 1) := by decide +kernel
theorem dX0_raiseNextLot_34 : decode cX0_raiseNextLot 34 = .ok (.iload_n 2, 1) := by decide +kernel
theorem dX0_raiseNextLot_35 : decode cX0_raiseNextLot 35 = .ok (.aload_n 0, 1) := by decide +kernel
theorem dX0_raiseNextLot_36 : decode cX0_raiseNextLot 36 = .ok (.getfield 20, 3) := by decide +kernel
theorem dX0_raiseNextLot_39 : decode cX0_raiseNextLot 39 = .ok (.arraylength, 1) := by decide +kernel
theorem dX0_raiseNextLot_40 : decode cX0_raiseNextLot 40 = .ok (.if_icmp .ge 23, 3) := by decide +kernel
theorem dX0_raiseNextLot_43 : decode cX0_raiseNextLot 43 = .ok (.aload_n 0, 1) := by decide +kernel
theorem dX0_raiseNextLot_44 : decode cX0_raiseNextLot 44 = .ok (.getfield 20, 3) := by decide +kernel
theorem dX0_raiseNextLot_47 : decode cX0_raiseNextLot 47 = .ok (.iload_n 2, 1) := by decide +kernel
theorem dX0_raiseNextLot_48 : decode cX0_raiseNextLot 48 = .ok (.iconst 1, 1) := by decide +kernel
theorem dX0_raiseNextLot_49 : decode cX0_raiseNextLot 49 = .ok (.isub, 1) := by decide +kernel
theorem dX0_raiseNextLot_50 : decode cX0_raiseNextLot 50 = .ok (.aload_n 0, 1) := by decide +kernel
theorem dX0_raiseNextLot_51 : decode cX0_raiseNextLot 51 = .ok (.getfield 20, 3) := by decide +kernel
theorem dX0_raiseNextLot_54 : decode cX0_raiseNextLot 54 = .ok (.iload_n 2, 1) := by decide +kernel
theorem dX0_raiseNextLot_55 : decode cX0_raiseNextLot 55 = .ok (.aaload, 1) := by decide +kernel
theorem dX0_raiseNextLot_56 : decode cX0_raiseNextLot 56 = .ok (.aastore, 1) := by decide +kernel
theorem dX0_raiseNextLot_57 : decode cX0_raiseNextLot 57 = .ok (.iinc 2 1, 3) := by decide +kernel
theorem dX0_raiseNextLot_60 : decode cX0_raiseNextLot 60 = .ok (.goto (-26), 3) := by decide +kernel
theorem dX0_raiseNextLot_63 : decode cX0_raiseNextLot 63 = .ok (.aload_n 0, 1) := by decide +kernel
theorem dX0_raiseNextLot_64 : decode cX0_raiseNextLot 64 = .ok (.getfield 20, 3) := by decide +kernel
theorem dX0_raiseNextLot_67 : decode cX0_raiseNextLot 67 = .ok (.aload_n 0, 1) := by decide +kernel
theorem dX0_raiseNextLot_68 : decode cX0_raiseNextLot 68 = .ok (.getfield 20, 3) := by decide +kernel
theorem dX0_raiseNextLot_71 : decode cX0_raiseNextLot 71 = .ok (.arraylength, 1) := by decide +kernel
theorem dX0_raiseNextLot_72 : decode cX0_raiseNextLot 72 = .ok (.iconst 1, 1) := by decide +kernel
theorem dX0_raiseNextLot_73 : decode cX0_raiseNextLot 73 = .ok (.isub, 1) := by decide +kernel
theorem dX0_raiseNextLot_74 : decode cX0_raiseNextLot 74 = .ok (.aload_n 1, 1) := by decide +kernel
theorem dX0_raiseNextLot_75 : decode cX0_raiseNextLot 75 = .ok (.aastore, 1) := by decide +kernel
theorem dX0_raiseNextLot_76 : decode cX0_raiseNextLot 76 = .ok (.aload_n 0, 1) := by decide +kernel
theorem dX0_raiseNextLot_77 : decode cX0_raiseNextLot 77 = .ok (.dup, 1) := by decide +kernel
theorem dX0_raiseNextLot_78 : decode cX0_raiseNextLot 78 = .ok (.getfield 47, 3) := by decide +kernel
theorem dX0_raiseNextLot_81 : decode cX0_raiseNextLot 81 = .ok (.iconst 1, 1) := by decide +kernel
theorem dX0_raiseNextLot_82 : decode cX0_raiseNextLot 82 = .ok (.isub, 1) := by decide +kernel
theorem dX0_raiseNextLot_83 : decode cX0_raiseNextLot 83 = .ok (.putfield 47, 3) := by decide +kernel
theorem dX0_raiseNextLot_86 : decode cX0_raiseNextLot 86 = .ok (.aload_n 0, 1) := by decide +kernel
theorem dX0_raiseNextLot_87 : decode cX0_raiseNextLot 87 = .ok (.iconst 1, 1) := by decide +kernel
theorem dX0_raiseNextLot_88 : decode cX0_raiseNextLot 88 = .ok (.putfield 56, 3) := by decide +kernel
theorem dX0_raiseNextLot_91 : decode cX0_raiseNextLot 91 = .ok (.aload_n 0, 1) := by decide +kernel
theorem dX0_raiseNextLot_92 : decode cX0_raiseNextLot 92 = .ok (.getfield 35, 3) := by decide +kernel
theorem dX0_raiseNextLot_95 : decode cX0_raiseNextLot 95 = .ok (.getfield 127, 3) := by decide +kernel
theorem dX0_raiseNextLot_98 : decode cX0_raiseNextLot 98 = .ok (.ireturn, 1) := by decide +kernel
theorem dX0_close_0 : decode cX0_close 0 = .ok (.aload_n 0, 1) := by decide +kernel
theorem dX0_close_1 : decode cX0_close 1 = .ok (.getfield 25, 3) := by decide +kernel
theorem dX0_close_4 : decode cX0_close 4 = .ok (.aload_n 0, 1) := by decide +kernel
theorem dX0_close_5 : decode cX0_close 5 = .ok (.getfield 25, 3) := by decide +kernel
theorem dX0_close_8 : decode cX0_close 8 = .ok (.arraylength, 1) := by decide +kernel
theorem dX0_close_9 : decode cX0_close 9 = .ok (.iconst 1, 1) := by decide +kernel
theorem dX0_close_10 : decode cX0_close 10 = .ok (.isub, 1) := by decide +kernel
theorem dX0_close_11 : decode cX0_close 11 = .ok (.aaload, 1) := by decide +kernel
theorem dX0_close_12 : decode cX0_close 12 = .ok (.astore_n 2, 1) := by decide +kernel
theorem dX0_close_13 : decode cX0_close 13 = .ok (.aload_n 0, 1) := by decide +kernel
theorem dX0_close_14 : decode cX0_close 14 = .ok (.getfield 25, 3) := by decide +kernel
theorem dX0_close_17 : decode cX0_close 17 = .ok (.arraylength, 1) := by decide +kernel
theorem dX0_close_18 : decode cX0_close 18 = .ok (.iconst 1, 1) := by decide +kernel
theorem dX0_close_19 : decode cX0_close 19 = .ok (.isub, 1) := by decide +kernel
theorem dX0_close_20 : decode cX0_close 20 = .ok (.istore_n 3, 1) := by decide +kernel
theorem dX0_close_21 : decode cX0_close 21 = .ok (.iload_n 3, 1) := by decide +kernel
theorem dX0_close_22 : decode cX0_close 22 = .ok (.ifCond .le 23, 3) := by decide +kernel
theorem dX0_close_25 : decode cX0_close 25 = .ok (.aload_n 0, 1) := by decide +kernel
theorem dX0_close_26 : decode cX0_close 26 = .ok (.getfield 25, 3) := by decide +kernel
theorem dX0_close_29 : decode cX0_close 29 = .ok (.iload_n 3, 1) := by decide +kernel
theorem dX0_close_30 : decode cX0_close 30 = .ok (.aload_n 0, 1) := by decide +kernel
theorem dX0_close_31 : decode cX0_close 31 = .ok (.getfield 25, 3) := by decide +kernel
theorem dX0_close_34 : decode cX0_close 34 = .ok (.iload_n 3, 1) := by decide +kernel
theorem dX0_close_35 : decode cX0_close 35 = .ok (.iconst 1, 1) := by decide +kernel
theorem dX0_close_36 : decode cX0_close 36 = .ok (.isub, 1) := by decide +kernel
theorem dX0_close_37 : decode cX0_close 37 = .ok (.aaload, 1) := by decide +kernel
theorem dX0_close_38 : decode cX0_close 38 = .ok (.aastore, 1) := by decide +kernel
theorem dX0_close_39 : decode cX0_close 39 = .ok (.iinc 3 (-1), 3) := by decide +kernel
theorem dX0_close_42 : decode cX0_close 42 = .ok (.goto (-21), 3) := by decide +kernel
theorem dX0_close_45 : decode cX0_close 45 = .ok (.aload_n 0, 1) := by decide +kernel
theorem dX0_close_46 : decode cX0_close 46 = .ok (.getfield 25, 3) := by decide +kernel
theorem dX0_close_49 : decode cX0_close 49 = .ok (.iconst 0, 1) := by decide +kernel
theorem dX0_close_50 : decode cX0_close 50 = .ok (.aload_n 0, 1) := by decide +kernel
theorem dX0_close_51 : decode cX0_close 51 = .ok (.getfield 35, 3) := by decide +kernel
theorem dX0_close_54 : decode cX0_close 54 = .ok (.aastore, 1) := by decide +kernel
theorem dX0_close_55 : decode cX0_close 55 = .ok (.aload_n 0, 1) := by decide +kernel
theorem dX0_close_56 : decode cX0_close 56 = .ok (.getfield 35, 3) := by decide +kernel
theorem dX0_close_59 : decode cX0_close 59 = .ok (.iload_n 1, 1) := by decide +kernel
theorem dX0_close_60 : decode cX0_close 60 = .ok (.putfield 130, 3) := by decide +kernel
theorem dX0_close_63 : decode cX0_close 63 = .ok (.aload_n 0, 1) := by decide +kernel
theorem dX0_close_64 : decode cX0_close 64 = .ok (.aload_n 2, 1) := by decide +kernel
theorem dX0_close_65 : decode cX0_close 65 = .ok (.putfield 35, 3) := by decide +kernel
theorem dX0_close_68 : decode cX0_close 68 = .ok (.aload_n 0, 1) := by decide +kernel
theorem dX0_close_69 : decode cX0_close 69 = .ok (.iconst 0, 1) := by decide +kernel
theorem dX0_close_70 : decode cX0_close 70 = .ok (.putfield 56, 3) := by decide +kernel
theorem dX0_close_73 : decode cX0_close 73 = .ok (.aload_n 0, 1) := by decide +kernel
theorem dX0_close_74 : decode cX0_close 74 = .ok (.getfield 28, 3) := by decide +kernel
theorem dX0_close_77 : decode cX0_close 77 = .ok (.iload_n 1, 1) := by decide +kernel
theorem dX0_close_78 : decode cX0_close 78 = .ok (.dup2, 1) := by decide +kernel
theorem dX0_close_79 : decode cX0_close 79 = .ok (.iaload, 1) := by decide +kernel
theorem dX0_close_80 : decode cX0_close 80 = .ok (.iconst 1, 1) := by decide +kernel
theorem dX0_close_81 : decode cX0_close 81 = .ok (.iadd, 1) := by decide +kernel
theorem dX0_close_82 : decode cX0_close 82 = .ok (.iastore, 1) := by decide +kernel
theorem dX0_close_83 : decode cX0_close 83 = .ok (.aload_n 0, 1) := by decide +kernel
theorem dX0_close_84 : decode cX0_close 84 = .ok (.getfield 53, 3) := by decide +kernel
theorem dX0_close_87 : decode cX0_close 87 = .ok (.aload_n 0, 1) := by decide +kernel
theorem dX0_close_88 : decode cX0_close 88 = .ok (.getfield 25, 3) := by decide +kernel
theorem dX0_close_91 : decode cX0_close 91 = .ok (.arraylength, 1) := by decide +kernel
theorem dX0_close_92 : decode cX0_close 92 = .ok (.if_icmp .ge 13, 3) := by decide +kernel
theorem dX0_close_95 : decode cX0_close 95 = .ok (.aload_n 0, 1) := by decide +kernel
theorem dX0_close_96 : decode cX0_close 96 = .ok (.dup, 1) := by decide +kernel
theorem dX0_close_97 : decode cX0_close 97 = .ok (.getfield 53, 3) := by decide +kernel
theorem dX0_close_100 : decode cX0_close 100 = .ok (.iconst 1, 1) := by decide +kernel
theorem dX0_close_101 : decode cX0_close 101 = .ok (.iadd, 1) := by decide +kernel
theorem dX0_close_102 : decode cX0_close 102 = .ok (.putfield 53, 3) := by decide +kernel
theorem dX0_close_105 : decode cX0_close 105 = .ok (.return_, 1) := by decide +kernel
theorem dX0_reasonAgainst_0 : decode cX0_reasonAgainst 0 = .ok (.aload_n 0, 1) := by decide +kernel
theorem dX0_reasonAgainst_1 : decode cX0_reasonAgainst 1 = .ok (.getfield 56, 3) := by decide +kernel
theorem dX0_reasonAgainst_4 : decode cX0_reasonAgainst 4 = .ok (.ifCond .ne 5, 3) := by decide +kernel
theorem dX0_reasonAgainst_7 : decode cX0_reasonAgainst 7 = .ok (.iconst 1, 1) := by decide +kernel
theorem dX0_reasonAgainst_8 : decode cX0_reasonAgainst 8 = .ok (.ireturn, 1) := by decide +kernel
theorem dX0_reasonAgainst_9 : decode cX0_reasonAgainst 9 = .ok (.aload_n 0, 1) := by decide +kernel
theorem dX0_reasonAgainst_10 : decode cX0_reasonAgainst 10 = .ok (.getfield 13, 3) := by decide +kernel
theorem dX0_reasonAgainst_13 : decode cX0_reasonAgainst 13 = .ok (.iload_n 1, 1) := by decide +kernel
theorem dX0_reasonAgainst_14 : decode cX0_reasonAgainst 14 = .ok (.aaload, 1) := by decide +kernel
theorem dX0_reasonAgainst_15 : decode cX0_reasonAgainst 15 = .ok (.invokevirtual 133, 3) := by decide +kernel
theorem dX0_reasonAgainst_18 : decode cX0_reasonAgainst 18 = .ok (.aload_n 0, 1) := by decide +kernel
theorem dX0_reasonAgainst_19 : decode cX0_reasonAgainst 19 = .ok (.getfield 32, 3) := by decide +kernel
theorem dX0_reasonAgainst_22 : decode cX0_reasonAgainst 22 = .ok (.iconst 0, 1) := by decide +kernel
theorem dX0_reasonAgainst_23 : decode cX0_reasonAgainst 23 = .ok (.iaload, 1) := by decide +kernel
theorem dX0_reasonAgainst_24 : decode cX0_reasonAgainst 24 = .ok (.if_icmp .ge 5, 3) := by decide +kernel
theorem dX0_reasonAgainst_27 : decode cX0_reasonAgainst 27 = .ok (.iconst 2, 1) := by decide +kernel
theorem dX0_reasonAgainst_28 : decode cX0_reasonAgainst 28 = .ok (.ireturn, 1) := by decide +kernel
theorem dX0_reasonAgainst_29 : decode cX0_reasonAgainst 29 = .ok (.aload_n 0, 1) := by decide +kernel
theorem dX0_reasonAgainst_30 : decode cX0_reasonAgainst 30 = .ok (.getfield 35, 3) := by decide +kernel
theorem dX0_reasonAgainst_33 : decode cX0_reasonAgainst 33 = .ok (.invokevirtual 137, 3) := by decide +kernel
theorem dX0_reasonAgainst_36 : decode cX0_reasonAgainst 36 = .ok (.ifCond .eq 16, 3) := by decide +kernel
theorem dX0_reasonAgainst_39 : decode cX0_reasonAgainst 39 = .ok (.aload_n 0, 1) := by decide +kernel
theorem dX0_reasonAgainst_40 : decode cX0_reasonAgainst 40 = .ok (.getfield 35, 3) := by decide +kernel
theorem dX0_reasonAgainst_43 : decode cX0_reasonAgainst 43 = .ok (.getfield 141, 3) := by decide +kernel
theorem dX0_reasonAgainst_46 : decode cX0_reasonAgainst 46 = .ok (.iload_n 1, 1) := by decide +kernel
theorem dX0_reasonAgainst_47 : decode cX0_reasonAgainst 47 = .ok (.if_icmp .ne 5, 3) := by decide +kernel
theorem dX0_reasonAgainst_50 : decode cX0_reasonAgainst 50 = .ok (.iconst 3, 1) := by decide +kernel
theorem dX0_reasonAgainst_51 : decode cX0_reasonAgainst 51 = .ok (.ireturn, 1) := by decide +kernel
theorem dX0_reasonAgainst_52 : decode cX0_reasonAgainst 52 = .ok (.aload_n 0, 1) := by decide +kernel
theorem dX0_reasonAgainst_53 : decode cX0_reasonAgainst 53 = .ok (.getfield 13, 3) := by decide +kernel
theorem dX0_reasonAgainst_56 : decode cX0_reasonAgainst 56 = .ok (.iload_n 1, 1) := by decide +kernel
theorem dX0_reasonAgainst_57 : decode cX0_reasonAgainst 57 = .ok (.aaload, 1) := by decide +kernel
theorem dX0_reasonAgainst_58 : decode cX0_reasonAgainst 58 = .ok (.getfield 144, 3) := by decide +kernel
theorem dX0_reasonAgainst_61 : decode cX0_reasonAgainst 61 = .ok (.aload_n 0, 1) := by decide +kernel
theorem dX0_reasonAgainst_62 : decode cX0_reasonAgainst 62 = .ok (.getfield 35, 3) := by decide +kernel
theorem dX0_reasonAgainst_65 : decode cX0_reasonAgainst 65 = .ok (.invokevirtual 147, 3) := by decide +kernel
theorem dX0_reasonAgainst_68 : decode cX0_reasonAgainst 68 = .ok (.if_icmp .ge 5, 3) := by decide +kernel
theorem dX0_reasonAgainst_71 : decode cX0_reasonAgainst 71 = .ok (.iconst 4, 1) := by decide +kernel
theorem dX0_reasonAgainst_72 : decode cX0_reasonAgainst 72 = .ok (.ireturn, 1) := by decide +kernel
theorem dX0_reasonAgainst_73 : decode cX0_reasonAgainst 73 = .ok (.iconst 0, 1) := by decide +kernel
theorem dX0_reasonAgainst_74 : decode cX0_reasonAgainst 74 = .ok (.ireturn, 1) := by decide +kernel
theorem dX0_takeCough_0 : decode cX0_takeCough 0 = .ok (.aload_n 0, 1) := by decide +kernel
theorem dX0_takeCough_1 : decode cX0_takeCough 1 = .ok (.iload_n 1, 1) := by decide +kernel
theorem dX0_takeCough_2 : decode cX0_takeCough 2 = .ok (.invokevirtual 113, 3) := by decide +kernel
theorem dX0_takeCough_5 : decode cX0_takeCough 5 = .ok (.ifCond .ne 6, 3) := by decide +kernel
theorem dX0_takeCough_8 : decode cX0_takeCough 8 = .ok (.ldc 102, 2) := by decide +kernel
theorem dX0_takeCough_10 : decode cX0_takeCough 10 = .ok (.ireturn, 1) := by decide +kernel
theorem dX0_takeCough_11 : decode cX0_takeCough 11 = .ok (.aload_n 0, 1) := by decide +kernel
theorem dX0_takeCough_12 : decode cX0_takeCough 12 = .ok (.dup, 1) := by decide +kernel
theorem dX0_takeCough_13 : decode cX0_takeCough 13 = .ok (.getfield 78, 3) := by decide +kernel
theorem dX0_takeCough_16 : decode cX0_takeCough 16 = .ok (.iconst 1, 1) := by decide +kernel
theorem dX0_takeCough_17 : decode cX0_takeCough 17 = .ok (.iadd, 1) := by decide +kernel
theorem dX0_takeCough_18 : decode cX0_takeCough 18 = .ok (.putfield 78, 3) := by decide +kernel
theorem dX0_takeCough_21 : decode cX0_takeCough 21 = .ok (.aload_n 0, 1) := by decide +kernel
theorem dX0_takeCough_22 : decode cX0_takeCough 22 = .ok (.getfield 13, 3) := by decide +kernel
theorem dX0_takeCough_25 : decode cX0_takeCough 25 = .ok (.iload_n 1, 1) := by decide +kernel
theorem dX0_takeCough_26 : decode cX0_takeCough 26 = .ok (.aaload, 1) := by decide +kernel
theorem dX0_takeCough_27 : decode cX0_takeCough 27 = .ok (.dup, 1) := by decide +kernel
theorem dX0_takeCough_28 : decode cX0_takeCough 28 = .ok (.getfield 150, 3) := by decide +kernel
theorem dX0_takeCough_31 : decode cX0_takeCough 31 = .ok (.iconst 1, 1) := by decide +kernel
theorem dX0_takeCough_32 : decode cX0_takeCough 32 = .ok (.iadd, 1) := by decide +kernel
theorem dX0_takeCough_33 : decode cX0_takeCough 33 = .ok (.putfield 150, 3) := by decide +kernel
theorem dX0_takeCough_36 : decode cX0_takeCough 36 = .ok (.aload_n 0, 1) := by decide +kernel
theorem dX0_takeCough_37 : decode cX0_takeCough 37 = .ok (.iload_n 1, 1) := by decide +kernel
theorem dX0_takeCough_38 : decode cX0_takeCough 38 = .ok (.invokevirtual 151, 3) := by decide +kernel
theorem dX0_takeCough_41 : decode cX0_takeCough 41 = .ok (.ifCond .eq 5, 3) := by decide +kernel
theorem dX0_takeCough_44 : decode cX0_takeCough 44 = .ok (.iconst 0, 1) := by decide +kernel
theorem dX0_takeCough_45 : decode cX0_takeCough 45 = .ok (.ireturn, 1) := by decide +kernel
theorem dX0_takeCough_46 : decode cX0_takeCough 46 = .ok (.aload_n 0, 1) := by decide +kernel
theorem dX0_takeCough_47 : decode cX0_takeCough 47 = .ok (.getfield 35, 3) := by decide +kernel
theorem dX0_takeCough_50 : decode cX0_takeCough 50 = .ok (.invokevirtual 147, 3) := by decide +kernel
theorem dX0_takeCough_53 : decode cX0_takeCough 53 = .ok (.istore_n 3, 1) := by decide +kernel
theorem dX0_takeCough_54 : decode cX0_takeCough 54 = .ok (.aload_n 0, 1) := by decide +kernel
theorem dX0_takeCough_55 : decode cX0_takeCough 55 = .ok (.getfield 35, 3) := by decide +kernel
theorem dX0_takeCough_58 : decode cX0_takeCough 58 = .ok (.iload_n 3, 1) := by decide +kernel
theorem dX0_takeCough_59 : decode cX0_takeCough 59 = .ok (.iload_n 1, 1) := by decide +kernel
theorem dX0_takeCough_60 : decode cX0_takeCough 60 = .ok (.iload_n 2, 1) := by decide +kernel
theorem dX0_takeCough_61 : decode cX0_takeCough 61 = .ok (.invokevirtual 155, 3) := by decide +kernel
theorem dX0_takeCough_64 : decode cX0_takeCough 64 = .ok (.aload_n 0, 1) := by decide +kernel
theorem dX0_takeCough_65 : decode cX0_takeCough 65 = .ok (.dup, 1) := by decide +kernel
theorem dX0_takeCough_66 : decode cX0_takeCough 66 = .ok (.getfield 81, 3) := by decide +kernel
theorem dX0_takeCough_69 : decode cX0_takeCough 69 = .ok (.iconst 1, 1) := by decide +kernel
theorem dX0_takeCough_70 : decode cX0_takeCough 70 = .ok (.iadd, 1) := by decide +kernel
theorem dX0_takeCough_71 : decode cX0_takeCough 71 = .ok (.putfield 81, 3) := by decide +kernel
theorem dX0_takeCough_74 : decode cX0_takeCough 74 = .ok (.aload_n 0, 1) := by decide +kernel
theorem dX0_takeCough_75 : decode cX0_takeCough 75 = .ok (.getfield 13, 3) := by decide +kernel
theorem dX0_takeCough_78 : decode cX0_takeCough 78 = .ok (.iload_n 1, 1) := by decide +kernel
theorem dX0_takeCough_79 : decode cX0_takeCough 79 = .ok (.aaload, 1) := by decide +kernel
theorem dX0_takeCough_80 : decode cX0_takeCough 80 = .ok (.dup, 1) := by decide +kernel
theorem dX0_takeCough_81 : decode cX0_takeCough 81 = .ok (.getfield 159, 3) := by decide +kernel
theorem dX0_takeCough_84 : decode cX0_takeCough 84 = .ok (.iconst 1, 1) := by decide +kernel
theorem dX0_takeCough_85 : decode cX0_takeCough 85 = .ok (.iadd, 1) := by decide +kernel
theorem dX0_takeCough_86 : decode cX0_takeCough 86 = .ok (.putfield 159, 3) := by decide +kernel
theorem dX0_takeCough_89 : decode cX0_takeCough 89 = .ok (.aload_n 0, 1) := by decide +kernel
theorem dX0_takeCough_90 : decode cX0_takeCough 90 = .ok (.getfield 13, 3) := by decide +kernel
theorem dX0_takeCough_93 : decode cX0_takeCough 93 = .ok (.iload_n 1, 1) := by decide +kernel
theorem dX0_takeCough_94 : decode cX0_takeCough 94 = .ok (.aaload, 1) := by decide +kernel
theorem dX0_takeCough_95 : decode cX0_takeCough 95 = .ok (.getfield 117, 3) := by decide +kernel
theorem dX0_takeCough_98 : decode cX0_takeCough 98 = .ok (.aload_n 0, 1) := by decide +kernel
theorem dX0_takeCough_99 : decode cX0_takeCough 99 = .ok (.getfield 13, 3) := by decide +kernel
theorem dX0_takeCough_102 : decode cX0_takeCough 102 = .ok (.iload_n 1, 1) := by decide +kernel
theorem dX0_takeCough_103 : decode cX0_takeCough 103 = .ok (.aaload, 1) := by decide +kernel
theorem dX0_takeCough_104 : decode cX0_takeCough 104 = .ok (.getfield 160, 3) := by decide +kernel
theorem dX0_takeCough_107 : decode cX0_takeCough 107 = .ok (.if_icmp .le 7, 3) := by decide +kernel
theorem dX0_takeCough_110 : decode cX0_takeCough 110 = .ok (.aload_n 0, 1) := by decide +kernel
theorem dX0_takeCough_111 : decode cX0_takeCough 111 = .ok (.invokevirtual 163, 3) := by decide +kernel
theorem dX0_takeCough_114 : decode cX0_takeCough 114 = .ok (.iload_n 3, 1) := by decide +kernel
theorem dX0_takeCough_115 : decode cX0_takeCough 115 = .ok (.ireturn, 1) := by decide +kernel
theorem dX0_doubtBid_0 : decode cX0_doubtBid 0 = .ok (.aload_n 0, 1) := by decide +kernel
theorem dX0_doubtBid_1 : decode cX0_doubtBid 1 = .ok (.dup, 1) := by decide +kernel
theorem dX0_doubtBid_2 : decode cX0_doubtBid 2 = .ok (.getfield 84, 3) := by decide +kernel
theorem dX0_doubtBid_5 : decode cX0_doubtBid 5 = .ok (.iconst 1, 1) := by decide +kernel
theorem dX0_doubtBid_6 : decode cX0_doubtBid 6 = .ok (.iadd, 1) := by decide +kernel
theorem dX0_doubtBid_7 : decode cX0_doubtBid 7 = .ok (.putfield 84, 3) := by decide +kernel
theorem dX0_doubtBid_10 : decode cX0_doubtBid 10 = .ok (.aload_n 0, 1) := by decide +kernel
theorem dX0_doubtBid_11 : decode cX0_doubtBid 11 = .ok (.getfield 35, 3) := by decide +kernel
theorem dX0_doubtBid_14 : decode cX0_doubtBid 14 = .ok (.dup, 1) := by decide +kernel
theorem dX0_doubtBid_15 : decode cX0_doubtBid 15 = .ok (.getfield 166, 3) := by decide +kernel
theorem dX0_doubtBid_18 : decode cX0_doubtBid 18 = .ok (.iconst 1, 1) := by decide +kernel
theorem dX0_doubtBid_19 : decode cX0_doubtBid 19 = .ok (.iadd, 1) := by decide +kernel
theorem dX0_doubtBid_20 : decode cX0_doubtBid 20 = .ok (.putfield 166, 3) := by decide +kernel
theorem dX0_doubtBid_23 : decode cX0_doubtBid 23 = .ok (.aload_n 0, 1) := by decide +kernel
theorem dX0_doubtBid_24 : decode cX0_doubtBid 24 = .ok (.getfield 35, 3) := by decide +kernel
theorem dX0_doubtBid_27 : decode cX0_doubtBid 27 = .ok (.getfield 166, 3) := by decide +kernel
theorem dX0_doubtBid_30 : decode cX0_doubtBid 30 = .ok (.aload_n 0, 1) := by decide +kernel
theorem dX0_doubtBid_31 : decode cX0_doubtBid 31 = .ok (.getfield 32, 3) := by decide +kernel
theorem dX0_doubtBid_34 : decode cX0_doubtBid 34 = .ok (.iconst 1, 1) := by decide +kernel
theorem dX0_doubtBid_35 : decode cX0_doubtBid 35 = .ok (.iaload, 1) := by decide +kernel
theorem dX0_doubtBid_36 : decode cX0_doubtBid 36 = .ok (.if_icmp .lt 8, 3) := by decide +kernel
theorem dX0_doubtBid_39 : decode cX0_doubtBid 39 = .ok (.aload_n 0, 1) := by decide +kernel
theorem dX0_doubtBid_40 : decode cX0_doubtBid 40 = .ok (.iconst 1, 1) := by decide +kernel
theorem dX0_doubtBid_41 : decode cX0_doubtBid 41 = .ok (.invokevirtual 167, 3) := by decide +kernel
theorem dX0_doubtBid_44 : decode cX0_doubtBid 44 = .ok (.return_, 1) := by decide +kernel
theorem dX0_isDueToCough_0 : decode cX0_isDueToCough 0 = .ok (.aload_n 0, 1) := by decide +kernel
theorem dX0_isDueToCough_1 : decode cX0_isDueToCough 1 = .ok (.getfield 13, 3) := by decide +kernel
theorem dX0_isDueToCough_4 : decode cX0_isDueToCough 4 = .ok (.iload_n 1, 1) := by decide +kernel
theorem dX0_isDueToCough_5 : decode cX0_isDueToCough 5 = .ok (.aaload, 1) := by decide +kernel
theorem dX0_isDueToCough_6 : decode cX0_isDueToCough 6 = .ok (.getfield 117, 3) := by decide +kernel
theorem dX0_isDueToCough_9 : decode cX0_isDueToCough 9 = .ok (.istore_n 2, 1) := by decide +kernel
theorem dX0_isDueToCough_10 : decode cX0_isDueToCough 10 = .ok (.bipush 7, 2) := by decide +kernel
theorem dX0_isDueToCough_12 : decode cX0_isDueToCough 12 = .ok (.iload_n 2, 1) := by decide +kernel
theorem dX0_isDueToCough_13 : decode cX0_isDueToCough 13 = .ok (.isub, 1) := by decide +kernel
theorem dX0_isDueToCough_14 : decode cX0_isDueToCough 14 = .ok (.istore_n 3, 1) := by decide +kernel
theorem dX0_isDueToCough_15 : decode cX0_isDueToCough 15 = .ok (.iload_n 2, 1) := by decide +kernel
theorem dX0_isDueToCough_16 : decode cX0_isDueToCough 16 = .ok (.ifCond .le 22, 3) := by decide +kernel
theorem dX0_isDueToCough_19 : decode cX0_isDueToCough 19 = .ok (.iload_n 3, 1) := by decide +kernel
theorem dX0_isDueToCough_20 : decode cX0_isDueToCough 20 = .ok (.ifCond .le 18, 3) := by decide +kernel
theorem dX0_isDueToCough_23 : decode cX0_isDueToCough 23 = .ok (.aload_n 0, 1) := by decide +kernel
theorem dX0_isDueToCough_24 : decode cX0_isDueToCough 24 = .ok (.getfield 66, 3) := by decide +kernel
theorem dX0_isDueToCough_27 : decode cX0_isDueToCough 27 = .ok (.iload_n 1, 1) := by decide +kernel
theorem dX0_isDueToCough_28 : decode cX0_isDueToCough 28 = .ok (.iadd, 1) := by decide +kernel
theorem dX0_isDueToCough_29 : decode cX0_isDueToCough 29 = .ok (.iload_n 3, 1) := by decide +kernel
theorem dX0_isDueToCough_30 : decode cX0_isDueToCough 30 = .ok (.irem, 1) := by decide +kernel
theorem dX0_isDueToCough_31 : decode cX0_isDueToCough 31 = .ok (.ifCond .ne 7, 3) := by decide +kernel
theorem dX0_isDueToCough_34 : decode cX0_isDueToCough 34 = .ok (.iconst 1, 1) := by decide +kernel
theorem dX0_isDueToCough_35 : decode cX0_isDueToCough 35 = .ok (.goto 4, 3) := by decide +kernel
theorem dX0_isDueToCough_38 : decode cX0_isDueToCough 38 = .ok (.iconst 0, 1) := by decide +kernel
theorem dX0_isDueToCough_39 : decode cX0_isDueToCough 39 = .ok (.ireturn, 1) := by decide +kernel
theorem dX0_passBeats_0 : decode cX0_passBeats 0 = .ok (.iload_n 1, 1) := by decide +kernel
theorem dX0_passBeats_1 : decode cX0_passBeats 1 = .ok (.iconst 1, 1) := by decide +kernel
theorem dX0_passBeats_2 : decode cX0_passBeats 2 = .ok (.bipush 50, 2) := by decide +kernel
theorem dX0_passBeats_4 : decode cX0_passBeats 4 = .ok (.invokestatic 98, 3) := by decide +kernel
theorem dX0_passBeats_7 : decode cX0_passBeats 7 = .ok (.ifCond .ne 6, 3) := by decide +kernel
theorem dX0_passBeats_10 : decode cX0_passBeats 10 = .ok (.ldc 102, 2) := by decide +kernel
theorem dX0_passBeats_12 : decode cX0_passBeats 12 = .ok (.ireturn, 1) := by decide +kernel
theorem dX0_passBeats_13 : decode cX0_passBeats 13 = .ok (.aload_n 0, 1) := by decide +kernel
theorem dX0_passBeats_14 : decode cX0_passBeats 14 = .ok (.getfield 66, 3) := by decide +kernel
theorem dX0_passBeats_17 : decode cX0_passBeats 17 = .ok (.iload_n 1, 1) := by decide +kernel
theorem dX0_passBeats_18 : decode cX0_passBeats 18 = .ok (.iadd, 1) := by decide +kernel
theorem dX0_passBeats_19 : decode cX0_passBeats 19 = .ok (.sipush 9999, 3) := by decide +kernel
theorem dX0_passBeats_22 : decode cX0_passBeats 22 = .ok (.if_icmp .le 6, 3) := by decide +kernel
theorem dX0_passBeats_25 : decode cX0_passBeats 25 = .ok (.ldc 108, 2) := by decide +kernel
theorem dX0_passBeats_27 : decode cX0_passBeats 27 = .ok (.ireturn, 1) := by decide +kernel
theorem dX0_passBeats_28 : decode cX0_passBeats 28 = .ok (.aload_n 0, 1) := by decide +kernel
theorem dX0_passBeats_29 : decode cX0_passBeats 29 = .ok (.getfield 56, 3) := by decide +kernel
theorem dX0_passBeats_32 : decode cX0_passBeats 32 = .ok (.istore_n 2, 1) := by decide +kernel
theorem dX0_passBeats_33 : decode cX0_passBeats 33 = .ok (.iconst 0, 1) := by decide +kernel
theorem dX0_passBeats_34 : decode cX0_passBeats 34 = .ok (.istore_n 3, 1) := by decide +kernel
theorem dX0_passBeats_35 : decode cX0_passBeats 35 = .ok (.iload_n 3, 1) := by decide +kernel
theorem dX0_passBeats_36 : decode cX0_passBeats 36 = .ok (.iload_n 1, 1) := by decide +kernel
theorem dX0_passBeats_37 : decode cX0_passBeats 37 = .ok (.if_icmp .ge 13, 3) := by decide +kernel
theorem dX0_passBeats_40 : decode cX0_passBeats 40 = .ok (.aload_n 0, 1) := by decide +kernel
theorem dX0_passBeats_41 : decode cX0_passBeats 41 = .ok (.invokevirtual 171, 3) := by decide +kernel
theorem dX0_passBeats_44 : decode cX0_passBeats 44 = .ok (.iinc 3 1, 3) := by decide +kernel
theorem dX0_passBeats_47 : decode cX0_passBeats 47 = .ok (.goto (-12), 3) := by decide +kernel
theorem dX0_passBeats_50 : decode cX0_passBeats 50 = .ok (.iload_n 2, 1) := by decide +kernel
theorem dX0_passBeats_51 : decode cX0_passBeats 51 = .ok (.ifCond .eq 14, 3) := by decide +kernel
theorem dX0_passBeats_54 : decode cX0_passBeats 54 = .ok (.aload_n 0, 1) := by decide +kernel
theorem dX0_passBeats_55 : decode cX0_passBeats 55 = .ok (.getfield 56, 3) := by decide +kernel
theorem dX0_passBeats_58 : decode cX0_passBeats 58 = .ok (.ifCond .ne 7, 3) := by decide +kernel
theorem dX0_passBeats_61 : decode cX0_passBeats 61 = .ok (.iconst 1, 1) := by decide +kernel
theorem dX0_passBeats_62 : decode cX0_passBeats 62 = .ok (.goto 4, 3) := by decide +kernel
theorem dX0_passBeats_65 : decode cX0_passBeats 65 = .ok (.iconst 0, 1) := by decide +kernel
theorem dX0_passBeats_66 : decode cX0_passBeats 66 = .ok (.ireturn, 1) := by decide +kernel
theorem dX0_passBeat_0 : decode cX0_passBeat 0 = .ok (.aload_n 0, 1) := by decide +kernel
theorem dX0_passBeat_1 : decode cX0_passBeat 1 = .ok (.getfield 56, 3) := by decide +kernel
theorem dX0_passBeat_4 : decode cX0_passBeat 4 = .ok (.ifCond .eq 34, 3) := by decide +kernel
theorem dX0_passBeat_7 : decode cX0_passBeat 7 = .ok (.iconst 0, 1) := by decide +kernel
theorem dX0_passBeat_8 : decode cX0_passBeat 8 = .ok (.istore_n 1, 1) := by decide +kernel
theorem dX0_passBeat_9 : decode cX0_passBeat 9 = .ok (.iload_n 1, 1) := by decide +kernel
theorem dX0_passBeat_10 : decode cX0_passBeat 10 = .ok (.aload_n 0, 1) := by decide +kernel
theorem dX0_passBeat_11 : decode cX0_passBeat 11 = .ok (.getfield 39, 3) := by decide +kernel
theorem dX0_passBeat_14 : decode cX0_passBeat 14 = .ok (.if_icmp .ge 24, 3) := by decide +kernel
theorem dX0_passBeat_17 : decode cX0_passBeat 17 = .ok (.aload_n 0, 1) := by decide +kernel
theorem dX0_passBeat_18 : decode cX0_passBeat 18 = .ok (.iload_n 1, 1) := by decide +kernel
theorem dX0_passBeat_19 : decode cX0_passBeat 19 = .ok (.invokevirtual 174, 3) := by decide +kernel
theorem dX0_passBeat_22 : decode cX0_passBeat 22 = .ok (.ifCond .eq 10, 3) := by decide +kernel
theorem dX0_passBeat_25 : decode cX0_passBeat 25 = .ok (.aload_n 0, 1) := by decide +kernel
theorem dX0_passBeat_26 : decode cX0_passBeat 26 = .ok (.iload_n 1, 1) := by decide +kernel
theorem dX0_passBeat_27 : decode cX0_passBeat 27 = .ok (.iconst 1, 1) := by decide +kernel
theorem dX0_passBeat_28 : decode cX0_passBeat 28 = .ok (.invokevirtual 177, 3) := by decide +kernel
theorem dX0_passBeat_31 : decode cX0_passBeat 31 = .ok (.pop, 1) := by decide +kernel
theorem dX0_passBeat_32 : decode cX0_passBeat 32 = .ok (.iinc 1 1, 3) := by decide +kernel
theorem dX0_passBeat_35 : decode cX0_passBeat 35 = .ok (.goto (-26), 3) := by decide +kernel
theorem dX0_passBeat_38 : decode cX0_passBeat 38 = .ok (.aload_n 0, 1) := by decide +kernel
theorem dX0_passBeat_39 : decode cX0_passBeat 39 = .ok (.dup, 1) := by decide +kernel
theorem dX0_passBeat_40 : decode cX0_passBeat 40 = .ok (.getfield 66, 3) := by decide +kernel
theorem dX0_passBeat_43 : decode cX0_passBeat 43 = .ok (.iconst 1, 1) := by decide +kernel
theorem dX0_passBeat_44 : decode cX0_passBeat 44 = .ok (.iadd, 1) := by decide +kernel
theorem dX0_passBeat_45 : decode cX0_passBeat 45 = .ok (.putfield 66, 3) := by decide +kernel
theorem dX0_passBeat_48 : decode cX0_passBeat 48 = .ok (.aload_n 0, 1) := by decide +kernel
theorem dX0_passBeat_49 : decode cX0_passBeat 49 = .ok (.getfield 56, 3) := by decide +kernel
theorem dX0_passBeat_52 : decode cX0_passBeat 52 = .ok (.ifCond .eq 7, 3) := by decide +kernel
theorem dX0_passBeat_55 : decode cX0_passBeat 55 = .ok (.aload_n 0, 1) := by decide +kernel
theorem dX0_passBeat_56 : decode cX0_passBeat 56 = .ok (.invokevirtual 181, 3) := by decide +kernel
theorem dX0_passBeat_59 : decode cX0_passBeat 59 = .ok (.return_, 1) := by decide +kernel
theorem dX0_hushOrHammer_0 : decode cX0_hushOrHammer 0 = .ok (.aload_n 0, 1) := by decide +kernel
theorem dX0_hushOrHammer_1 : decode cX0_hushOrHammer 1 = .ok (.getfield 35, 3) := by decide +kernel
theorem dX0_hushOrHammer_4 : decode cX0_hushOrHammer 4 = .ok (.aload_n 0, 1) := by decide +kernel
theorem dX0_hushOrHammer_5 : decode cX0_hushOrHammer 5 = .ok (.getfield 35, 3) := by decide +kernel
theorem dX0_hushOrHammer_8 : decode cX0_hushOrHammer 8 = .ok (.getfield 184, 3) := by decide +kernel
theorem dX0_hushOrHammer_11 : decode cX0_hushOrHammer 11 = .ok (.ifCond .eq 7, 3) := by decide +kernel
theorem dX0_hushOrHammer_14 : decode cX0_hushOrHammer 14 = .ok (.iconst 0, 1) := by decide +kernel
theorem dX0_hushOrHammer_15 : decode cX0_hushOrHammer 15 = .ok (.goto 12, 3) := by decide +kernel
theorem dX0_hushOrHammer_18 : decode cX0_hushOrHammer 18 = .ok (.aload_n 0, 1) := by decide +kernel
theorem dX0_hushOrHammer_19 : decode cX0_hushOrHammer 19 = .ok (.getfield 35, 3) := by decide +kernel
theorem dX0_hushOrHammer_22 : decode cX0_hushOrHammer 22 = .ok (.getfield 187, 3) := by decide +kernel
theorem dX0_hushOrHammer_25 : decode cX0_hushOrHammer 25 = .ok (.iconst 1, 1) := by decide +kernel
theorem dX0_hushOrHammer_26 : decode cX0_hushOrHammer 26 = .ok (.iadd, 1) := by decide +kernel
theorem dX0_hushOrHammer_27 : decode cX0_hushOrHammer 27 = .ok (.putfield 187, 3) := by decide +kernel
theorem dX0_hushOrHammer_30 : decode cX0_hushOrHammer 30 = .ok (.aload_n 0, 1) := by decide +kernel
theorem dX0_hushOrHammer_31 : decode cX0_hushOrHammer 31 = .ok (.getfield 35, 3) := by decide +kernel
theorem dX0_hushOrHammer_34 : decode cX0_hushOrHammer 34 = .ok (.iconst 0, 1) := by decide +kernel
theorem dX0_hushOrHammer_35 : decode cX0_hushOrHammer 35 = .ok (.putfield 184, 3) := by decide +kernel
theorem dX0_hushOrHammer_38 : decode cX0_hushOrHammer 38 = .ok (.aload_n 0, 1) := by decide +kernel
theorem dX0_hushOrHammer_39 : decode cX0_hushOrHammer 39 = .ok (.getfield 35, 3) := by decide +kernel
theorem dX0_hushOrHammer_42 : decode cX0_hushOrHammer 42 = .ok (.getfield 187, 3) := by decide +kernel
theorem dX0_hushOrHammer_45 : decode cX0_hushOrHammer 45 = .ok (.aload_n 0, 1) := by decide +kernel
theorem dX0_hushOrHammer_46 : decode cX0_hushOrHammer 46 = .ok (.getfield 32, 3) := by decide +kernel
theorem dX0_hushOrHammer_49 : decode cX0_hushOrHammer 49 = .ok (.iconst 2, 1) := by decide +kernel
theorem dX0_hushOrHammer_50 : decode cX0_hushOrHammer 50 = .ok (.iaload, 1) := by decide +kernel
theorem dX0_hushOrHammer_51 : decode cX0_hushOrHammer 51 = .ok (.if_icmp .lt 7, 3) := by decide +kernel
theorem dX0_hushOrHammer_54 : decode cX0_hushOrHammer 54 = .ok (.aload_n 0, 1) := by decide +kernel
theorem dX0_hushOrHammer_55 : decode cX0_hushOrHammer 55 = .ok (.invokevirtual 190, 3) := by decide +kernel
theorem dX0_hushOrHammer_58 : decode cX0_hushOrHammer 58 = .ok (.return_, 1) := by decide +kernel
theorem dX0_letHammerFall_0 : decode cX0_letHammerFall 0 = .ok (.aload_n 0, 1) := by decide +kernel
theorem dX0_letHammerFall_1 : decode cX0_letHammerFall 1 = .ok (.getfield 35, 3) := by decide +kernel
theorem dX0_letHammerFall_4 : decode cX0_letHammerFall 4 = .ok (.invokevirtual 137, 3) := by decide +kernel
theorem dX0_letHammerFall_7 : decode cX0_letHammerFall 7 = .ok (.ifCond .eq 17, 3) := by decide +kernel
theorem dX0_letHammerFall_10 : decode cX0_letHammerFall 10 = .ok (.aload_n 0, 1) := by decide +kernel
theorem dX0_letHammerFall_11 : decode cX0_letHammerFall 11 = .ok (.aload_n 0, 1) := by decide +kernel
theorem dX0_letHammerFall_12 : decode cX0_letHammerFall 12 = .ok (.getfield 35, 3) := by decide +kernel
theorem dX0_letHammerFall_15 : decode cX0_letHammerFall 15 = .ok (.getfield 141, 3) := by decide +kernel
theorem dX0_letHammerFall_18 : decode cX0_letHammerFall 18 = .ok (.invokevirtual 113, 3) := by decide +kernel
theorem dX0_letHammerFall_21 : decode cX0_letHammerFall 21 = .ok (.ifCond .ne 11, 3) := by decide +kernel
theorem dX0_letHammerFall_24 : decode cX0_letHammerFall 24 = .ok (.aload_n 0, 1) := by decide +kernel
theorem dX0_letHammerFall_25 : decode cX0_letHammerFall 25 = .ok (.iconst 2, 1) := by decide +kernel
theorem dX0_letHammerFall_26 : decode cX0_letHammerFall 26 = .ok (.invokevirtual 167, 3) := by decide +kernel
theorem dX0_letHammerFall_29 : decode cX0_letHammerFall 29 = .ok (.goto 64, 3) := by decide +kernel
theorem dX0_letHammerFall_32 : decode cX0_letHammerFall 32 = .ok (.aload_n 0, 1) := by decide +kernel
theorem dX0_letHammerFall_33 : decode cX0_letHammerFall 33 = .ok (.getfield 35, 3) := by decide +kernel
theorem dX0_letHammerFall_36 : decode cX0_letHammerFall 36 = .ok (.getfield 193, 3) := by decide +kernel
theorem dX0_letHammerFall_39 : decode cX0_letHammerFall 39 = .ok (.ifCond .eq 11, 3) := by decide +kernel
theorem dX0_letHammerFall_42 : decode cX0_letHammerFall 42 = .ok (.aload_n 0, 1) := by decide +kernel
theorem dX0_letHammerFall_43 : decode cX0_letHammerFall 43 = .ok (.iconst 3, 1) := by decide +kernel
theorem dX0_letHammerFall_44 : decode cX0_letHammerFall 44 = .ok (.invokevirtual 167, 3) := by decide +kernel
theorem dX0_letHammerFall_47 : decode cX0_letHammerFall 47 = .ok (.goto 46, 3) := by decide +kernel
theorem dX0_letHammerFall_50 : decode cX0_letHammerFall 50 = .ok (.aload_n 0, 1) := by decide +kernel
theorem dX0_letHammerFall_51 : decode cX0_letHammerFall 51 = .ok (.dup, 1) := by decide +kernel
theorem dX0_letHammerFall_52 : decode cX0_letHammerFall 52 = .ok (.getfield 75, 3) := by decide +kernel
theorem dX0_letHammerFall_55 : decode cX0_letHammerFall 55 = .ok (.aload_n 0, 1) := by decide +kernel
theorem dX0_letHammerFall_56 : decode cX0_letHammerFall 56 = .ok (.getfield 35, 3) := by decide +kernel
theorem dX0_letHammerFall_59 : decode cX0_letHammerFall 59 = .ok (.getfield 196, 3) := by decide +kernel
theorem dX0_letHammerFall_62 : decode cX0_letHammerFall 62 = .ok (.iadd, 1) := by decide +kernel
theorem dX0_letHammerFall_63 : decode cX0_letHammerFall 63 = .ok (.putfield 75, 3) := by decide +kernel
theorem dX0_letHammerFall_66 : decode cX0_letHammerFall 66 = .ok (.aload_n 0, 1) := by decide +kernel
theorem dX0_letHammerFall_67 : decode cX0_letHammerFall 67 = .ok (.getfield 13, 3) := by decide +kernel
theorem dX0_letHammerFall_70 : decode cX0_letHammerFall 70 = .ok (.aload_n 0, 1) := by decide +kernel
theorem dX0_letHammerFall_71 : decode cX0_letHammerFall 71 = .ok (.getfield 35, 3) := by decide +kernel
theorem dX0_letHammerFall_74 : decode cX0_letHammerFall 74 = .ok (.getfield 141, 3) := by decide +kernel
theorem dX0_letHammerFall_77 : decode cX0_letHammerFall 77 = .ok (.aaload, 1) := by decide +kernel
theorem dX0_letHammerFall_78 : decode cX0_letHammerFall 78 = .ok (.aload_n 0, 1) := by decide +kernel
theorem dX0_letHammerFall_79 : decode cX0_letHammerFall 79 = .ok (.getfield 35, 3) := by decide +kernel
theorem dX0_letHammerFall_82 : decode cX0_letHammerFall 82 = .ok (.getfield 196, 3) := by decide +kernel
theorem dX0_letHammerFall_85 : decode cX0_letHammerFall 85 = .ok (.invokevirtual 199, 3) := by decide +kernel
theorem dX0_letHammerFall_88 : decode cX0_letHammerFall 88 = .ok (.aload_n 0, 1) := by decide +kernel
theorem dX0_letHammerFall_89 : decode cX0_letHammerFall 89 = .ok (.iconst 0, 1) := by decide +kernel
theorem dX0_letHammerFall_90 : decode cX0_letHammerFall 90 = .ok (.invokevirtual 167, 3) := by decide +kernel
theorem dX0_letHammerFall_93 : decode cX0_letHammerFall 93 = .ok (.return_, 1) := by decide +kernel
theorem dX0_passNight_0 : decode cX0_passNight 0 = .ok (.aload_n 0, 1) := by decide +kernel
theorem dX0_passNight_1 : decode cX0_passNight 1 = .ok (.getfield 56, 3) := by decide +kernel
theorem dX0_passNight_4 : decode cX0_passNight 4 = .ok (.ifCond .eq 6, 3) := by decide +kernel
theorem dX0_passNight_7 : decode cX0_passNight 7 = .ok (.ldc 107, 2) := by decide +kernel
theorem dX0_passNight_9 : decode cX0_passNight 9 = .ok (.ireturn, 1) := by decide +kernel
theorem dX0_passNight_10 : decode cX0_passNight 10 = .ok (.aload_n 0, 1) := by decide +kernel
theorem dX0_passNight_11 : decode cX0_passNight 11 = .ok (.getfield 69, 3) := by decide +kernel
theorem dX0_passNight_14 : decode cX0_passNight 14 = .ok (.sipush 999, 3) := by decide +kernel
theorem dX0_passNight_17 : decode cX0_passNight 17 = .ok (.if_icmp .lt 6, 3) := by decide +kernel
theorem dX0_passNight_20 : decode cX0_passNight 20 = .ok (.ldc 108, 2) := by decide +kernel
theorem dX0_passNight_22 : decode cX0_passNight 22 = .ok (.ireturn, 1) := by decide +kernel
theorem dX0_passNight_23 : decode cX0_passNight 23 = .ok (.aload_n 0, 1) := by decide +kernel
theorem dX0_passNight_24 : decode cX0_passNight 24 = .ok (.invokevirtual 202, 3) := by decide +kernel
theorem dX0_passNight_27 : decode cX0_passNight 27 = .ok (.aload_n 0, 1) := by decide +kernel
theorem dX0_passNight_28 : decode cX0_passNight 28 = .ok (.dup, 1) := by decide +kernel
theorem dX0_passNight_29 : decode cX0_passNight 29 = .ok (.getfield 69, 3) := by decide +kernel
theorem dX0_passNight_32 : decode cX0_passNight 32 = .ok (.iconst 1, 1) := by decide +kernel
theorem dX0_passNight_33 : decode cX0_passNight 33 = .ok (.iadd, 1) := by decide +kernel
theorem dX0_passNight_34 : decode cX0_passNight 34 = .ok (.putfield 69, 3) := by decide +kernel
theorem dX0_passNight_37 : decode cX0_passNight 37 = .ok (.aload_n 0, 1) := by decide +kernel
theorem dX0_passNight_38 : decode cX0_passNight 38 = .ok (.invokevirtual 205, 3) := by decide +kernel
theorem dX0_passNight_41 : decode cX0_passNight 41 = .ok (.invokestatic 208, 3) := by decide +kernel
theorem dX0_passNight_44 : decode cX0_passNight 44 = .ok (.ireturn, 1) := by decide +kernel
theorem dX0_spreadColds_0 : decode cX0_spreadColds 0 = .ok (.iconst 0, 1) := by decide +kernel
theorem dX0_spreadColds_1 : decode cX0_spreadColds 1 = .ok (.istore_n 1, 1) := by decide +kernel
theorem dX0_spreadColds_2 : decode cX0_spreadColds 2 = .ok (.iconst 0, 1) := by decide +kernel
theorem dX0_spreadColds_3 : decode cX0_spreadColds 3 = .ok (.istore_n 2, 1) := by decide +kernel
theorem dX0_spreadColds_4 : decode cX0_spreadColds 4 = .ok (.iload_n 2, 1) := by decide +kernel
theorem dX0_spreadColds_5 : decode cX0_spreadColds 5 = .ok (.aload_n 0, 1) := by decide +kernel
theorem dX0_spreadColds_6 : decode cX0_spreadColds 6 = .ok (.getfield 39, 3) := by decide +kernel
theorem dX0_spreadColds_9 : decode cX0_spreadColds 9 = .ok (.if_icmp .ge 28, 3) := by decide +kernel
theorem dX0_spreadColds_12 : decode cX0_spreadColds 12 = .ok (.aload_n 0, 1) := by decide +kernel
theorem dX0_spreadColds_13 : decode cX0_spreadColds 13 = .ok (.aload_n 0, 1) := by decide +kernel
theorem dX0_spreadColds_14 : decode cX0_spreadColds 14 = .ok (.getfield 13, 3) := by decide +kernel
theorem dX0_spreadColds_17 : decode cX0_spreadColds 17 = .ok (.iload_n 2, 1) := by decide +kernel
theorem dX0_spreadColds_18 : decode cX0_spreadColds 18 = .ok (.aaload, 1) := by decide +kernel
theorem dX0_spreadColds_19 : decode cX0_spreadColds 19 = .ok (.invokevirtual 213, 3) := by decide +kernel
theorem dX0_spreadColds_22 : decode cX0_spreadColds 22 = .ok (.ifCond .eq 9, 3) := by decide +kernel
theorem dX0_spreadColds_25 : decode cX0_spreadColds 25 = .ok (.iload_n 1, 1) := by decide +kernel
theorem dX0_spreadColds_26 : decode cX0_spreadColds 26 = .ok (.iconst 1, 1) := by decide +kernel
theorem dX0_spreadColds_27 : decode cX0_spreadColds 27 = .ok (.iload_n 2, 1) := by decide +kernel
theorem dX0_spreadColds_28 : decode cX0_spreadColds 28 = .ok (.ishl, 1) := by decide +kernel
theorem dX0_spreadColds_29 : decode cX0_spreadColds 29 = .ok (.ior, 1) := by decide +kernel
theorem dX0_spreadColds_30 : decode cX0_spreadColds 30 = .ok (.istore_n 1, 1) := by decide +kernel
theorem dX0_spreadColds_31 : decode cX0_spreadColds 31 = .ok (.iinc 2 1, 3) := by decide +kernel
theorem dX0_spreadColds_34 : decode cX0_spreadColds 34 = .ok (.goto (-30), 3) := by decide +kernel
theorem dX0_spreadColds_37 : decode cX0_spreadColds 37 = .ok (.iconst 0, 1) := by decide +kernel
theorem dX0_spreadColds_38 : decode cX0_spreadColds 38 = .ok (.istore_n 2, 1) := by decide +kernel
theorem dX0_spreadColds_39 : decode cX0_spreadColds 39 = .ok (.iload_n 2, 1) := by decide +kernel
theorem dX0_spreadColds_40 : decode cX0_spreadColds 40 = .ok (.aload_n 0, 1) := by decide +kernel
theorem dX0_spreadColds_41 : decode cX0_spreadColds 41 = .ok (.getfield 39, 3) := by decide +kernel
theorem dX0_spreadColds_44 : decode cX0_spreadColds 44 = .ok (.if_icmp .ge 63, 3) := by decide +kernel
theorem dX0_spreadColds_47 : decode cX0_spreadColds 47 = .ok (.aload_n 0, 1) := by decide +kernel
theorem dX0_spreadColds_48 : decode cX0_spreadColds 48 = .ok (.getfield 13, 3) := by decide +kernel
theorem dX0_spreadColds_51 : decode cX0_spreadColds 51 = .ok (.iload_n 2, 1) := by decide +kernel
theorem dX0_spreadColds_52 : decode cX0_spreadColds 52 = .ok (.aaload, 1) := by decide +kernel
theorem dX0_spreadColds_53 : decode cX0_spreadColds 53 = .ok (.getfield 117, 3) := by decide +kernel
theorem dX0_spreadColds_56 : decode cX0_spreadColds 56 = .ok (.istore_n 3, 1) := by decide +kernel
theorem dX0_spreadColds_57 : decode cX0_spreadColds 57 = .ok (.iload_n 1, 1) := by decide +kernel
theorem dX0_spreadColds_58 : decode cX0_spreadColds 58 = .ok (.iload_n 2, 1) := by decide +kernel
theorem dX0_spreadColds_59 : decode cX0_spreadColds 59 = .ok (.ishr, 1) := by decide +kernel
theorem dX0_spreadColds_60 : decode cX0_spreadColds 60 = .ok (.iconst 1, 1) := by decide +kernel
theorem dX0_spreadColds_61 : decode cX0_spreadColds 61 = .ok (.iand, 1) := by decide +kernel
theorem dX0_spreadColds_62 : decode cX0_spreadColds 62 = .ok (.iconst 1, 1) := by decide +kernel
theorem dX0_spreadColds_63 : decode cX0_spreadColds 63 = .ok (.if_icmp .ne 22, 3) := by decide +kernel
theorem dX0_spreadColds_66 : decode cX0_spreadColds 66 = .ok (.aload_n 0, 1) := by decide +kernel
theorem dX0_spreadColds_67 : decode cX0_spreadColds 67 = .ok (.getfield 13, 3) := by decide +kernel
theorem dX0_spreadColds_70 : decode cX0_spreadColds 70 = .ok (.iload_n 2, 1) := by decide +kernel
theorem dX0_spreadColds_71 : decode cX0_spreadColds 71 = .ok (.aaload, 1) := by decide +kernel
theorem dX0_spreadColds_72 : decode cX0_spreadColds 72 = .ok (.iload_n 3, 1) := by decide +kernel
theorem dX0_spreadColds_73 : decode cX0_spreadColds 73 = .ok (.iconst 1, 1) := by decide +kernel
theorem dX0_spreadColds_74 : decode cX0_spreadColds 74 = .ok (.iadd, 1) := by decide +kernel
theorem dX0_spreadColds_75 : decode cX0_spreadColds 75 = .ok (.iconst 5, 1) := by decide +kernel
theorem dX0_spreadColds_76 : decode cX0_spreadColds 76 = .ok (.invokestatic 217, 3) := by decide +kernel
theorem dX0_spreadColds_79 : decode cX0_spreadColds 79 = .ok (.putfield 117, 3) := by decide +kernel
theorem dX0_spreadColds_82 : decode cX0_spreadColds 82 = .ok (.goto 19, 3) := by decide +kernel
theorem dX0_spreadColds_85 : decode cX0_spreadColds 85 = .ok (.aload_n 0, 1) := by decide +kernel
theorem dX0_spreadColds_86 : decode cX0_spreadColds 86 = .ok (.getfield 13, 3) := by decide +kernel
theorem dX0_spreadColds_89 : decode cX0_spreadColds 89 = .ok (.iload_n 2, 1) := by decide +kernel
theorem dX0_spreadColds_90 : decode cX0_spreadColds 90 = .ok (.aaload, 1) := by decide +kernel
theorem dX0_spreadColds_91 : decode cX0_spreadColds 91 = .ok (.iload_n 3, 1) := by decide +kernel
theorem dX0_spreadColds_92 : decode cX0_spreadColds 92 = .ok (.iconst 1, 1) := by decide +kernel
theorem dX0_spreadColds_93 : decode cX0_spreadColds 93 = .ok (.isub, 1) := by decide +kernel
theorem dX0_spreadColds_94 : decode cX0_spreadColds 94 = .ok (.iconst 0, 1) := by decide +kernel
theorem dX0_spreadColds_95 : decode cX0_spreadColds 95 = .ok (.invokestatic 222, 3) := by decide +kernel
theorem dX0_spreadColds_98 : decode cX0_spreadColds 98 = .ok (.putfield 117, 3) := by decide +kernel
theorem dX0_spreadColds_101 : decode cX0_spreadColds 101 = .ok (.iinc 2 1, 3) := by decide +kernel
theorem dX0_spreadColds_104 : decode cX0_spreadColds 104 = .ok (.goto (-65), 3) := by decide +kernel
theorem dX0_spreadColds_107 : decode cX0_spreadColds 107 = .ok (.return_, 1) := by decide +kernel
theorem dX0_sitsBesideCold_0 : decode cX0_sitsBesideCold 0 = .ok (.iconst 0, 1) := by decide +kernel
theorem dX0_sitsBesideCold_1 : decode cX0_sitsBesideCold 1 = .ok (.istore_n 2, 1) := by decide +kernel
theorem dX0_sitsBesideCold_2 : decode cX0_sitsBesideCold 2 = .ok (.iload_n 2, 1) := by decide +kernel
theorem dX0_sitsBesideCold_3 : decode cX0_sitsBesideCold 3 = .ok (.aload_n 0, 1) := by decide +kernel
theorem dX0_sitsBesideCold_4 : decode cX0_sitsBesideCold 4 = .ok (.getfield 39, 3) := by decide +kernel
theorem dX0_sitsBesideCold_7 : decode cX0_sitsBesideCold 7 = .ok (.if_icmp .ge 39, 3) := by decide +kernel
theorem dX0_sitsBesideCold_10 : decode cX0_sitsBesideCold 10 = .ok (.aload_n 0, 1) := by decide +kernel
theorem dX0_sitsBesideCold_11 : decode cX0_sitsBesideCold 11 = .ok (.getfield 13, 3) := by decide +kernel
theorem dX0_sitsBesideCold_14 : decode cX0_sitsBesideCold 14 = .ok (.iload_n 2, 1) := by decide +kernel
theorem dX0_sitsBesideCold_15 : decode cX0_sitsBesideCold 15 = .ok (.aaload, 1) := by decide +kernel
theorem dX0_sitsBesideCold_16 : decode cX0_sitsBesideCold 16 = .ok (.astore_n 3, 1) := by decide +kernel
theorem dX0_sitsBesideCold_17 : decode cX0_sitsBesideCold 17 = .ok (.aload_n 3, 1) := by decide +kernel
theorem dX0_sitsBesideCold_18 : decode cX0_sitsBesideCold 18 = .ok (.aload_n 1, 1) := by decide +kernel
theorem dX0_sitsBesideCold_19 : decode cX0_sitsBesideCold 19 = .ok (.invokevirtual 225, 3) := by decide +kernel
theorem dX0_sitsBesideCold_22 : decode cX0_sitsBesideCold 22 = .ok (.ifCond .eq 18, 3) := by decide +kernel
theorem dX0_sitsBesideCold_25 : decode cX0_sitsBesideCold 25 = .ok (.aload_n 3, 1) := by decide +kernel
theorem dX0_sitsBesideCold_26 : decode cX0_sitsBesideCold 26 = .ok (.getfield 117, 3) := by decide +kernel
theorem dX0_sitsBesideCold_29 : decode cX0_sitsBesideCold 29 = .ok (.aload_n 3, 1) := by decide +kernel
theorem dX0_sitsBesideCold_30 : decode cX0_sitsBesideCold 30 = .ok (.getfield 120, 3) := by decide +kernel
theorem dX0_sitsBesideCold_33 : decode cX0_sitsBesideCold 33 = .ok (.isub, 1) := by decide +kernel
theorem dX0_sitsBesideCold_34 : decode cX0_sitsBesideCold 34 = .ok (.iconst 2, 1) := by decide +kernel
theorem dX0_sitsBesideCold_35 : decode cX0_sitsBesideCold 35 = .ok (.if_icmp .lt 5, 3) := by decide +kernel
theorem dX0_sitsBesideCold_38 : decode cX0_sitsBesideCold 38 = .ok (.iconst 1, 1) := by decide +kernel
theorem dX0_sitsBesideCold_39 : decode cX0_sitsBesideCold 39 = .ok (.ireturn, 1) := by decide +kernel
theorem dX0_sitsBesideCold_40 : decode cX0_sitsBesideCold 40 = .ok (.iinc 2 1, 3) := by decide +kernel
theorem dX0_sitsBesideCold_43 : decode cX0_sitsBesideCold 43 = .ok (.goto (-41), 3) := by decide +kernel
theorem dX0_sitsBesideCold_46 : decode cX0_sitsBesideCold 46 = .ok (.iconst 0, 1) := by decide +kernel
theorem dX0_sitsBesideCold_47 : decode cX0_sitsBesideCold 47 = .ok (.ireturn, 1) := by decide +kernel
theorem dX0_coinsGoneFromPurses_0 : decode cX0_coinsGoneFromPurses 0 = .ok (.iconst 0, 1) := by decide +kernel
theorem dX0_coinsGoneFromPurses_1 : decode cX0_coinsGoneFromPurses 1 = .ok (.istore_n 1, 1) := by decide +kernel
theorem dX0_coinsGoneFromPurses_2 : decode cX0_coinsGoneFromPurses 2 = .ok (.iconst 0, 1) := by decide +kernel
theorem dX0_coinsGoneFromPurses_3 : decode cX0_coinsGoneFromPurses 3 = .ok (.istore_n 2, 1) := by decide +kernel
theorem dX0_coinsGoneFromPurses_4 : decode cX0_coinsGoneFromPurses 4 = .ok (.iload_n 2, 1) := by decide +kernel
theorem dX0_coinsGoneFromPurses_5 : decode cX0_coinsGoneFromPurses 5 = .ok (.aload_n 0, 1) := by decide +kernel
theorem dX0_coinsGoneFromPurses_6 : decode cX0_coinsGoneFromPurses 6 = .ok (.getfield 39, 3) := by decide +kernel
theorem dX0_coinsGoneFromPurses_9 : decode cX0_coinsGoneFromPurses 9 = .ok (.if_icmp .ge 31, 3) := by decide +kernel
theorem dX0_coinsGoneFromPurses_12 : decode cX0_coinsGoneFromPurses 12 = .ok (.iload_n 1, 1) := by decide +kernel
theorem dX0_coinsGoneFromPurses_13 : decode cX0_coinsGoneFromPurses 13 = .ok (.aload_n 0, 1) := by decide +kernel
theorem dX0_coinsGoneFromPurses_14 : decode cX0_coinsGoneFromPurses 14 = .ok (.getfield 13, 3) := by decide +kernel
theorem dX0_coinsGoneFromPurses_17 : decode cX0_coinsGoneFromPurses 17 = .ok (.iload_n 2, 1) := by decide +kernel
theorem dX0_coinsGoneFromPurses_18 : decode cX0_coinsGoneFromPurses 18 = .ok (.aaload, 1) := by decide +kernel
theorem dX0_coinsGoneFromPurses_19 : decode cX0_coinsGoneFromPurses 19 = .ok (.getfield 228, 3) := by decide +kernel
theorem dX0_coinsGoneFromPurses_22 : decode cX0_coinsGoneFromPurses 22 = .ok (.aload_n 0, 1) := by decide +kernel
theorem dX0_coinsGoneFromPurses_23 : decode cX0_coinsGoneFromPurses 23 = .ok (.getfield 13, 3) := by decide +kernel
theorem dX0_coinsGoneFromPurses_26 : decode cX0_coinsGoneFromPurses 26 = .ok (.iload_n 2, 1) := by decide +kernel
theorem dX0_coinsGoneFromPurses_27 : decode cX0_coinsGoneFromPurses 27 = .ok (.aaload, 1) := by decide +kernel
theorem dX0_coinsGoneFromPurses_28 : decode cX0_coinsGoneFromPurses 28 = .ok (.getfield 144, 3) := by decide +kernel
theorem dX0_coinsGoneFromPurses_31 : decode cX0_coinsGoneFromPurses 31 = .ok (.isub, 1) := by decide +kernel
theorem dX0_coinsGoneFromPurses_32 : decode cX0_coinsGoneFromPurses 32 = .ok (.iadd, 1) := by decide +kernel
theorem dX0_coinsGoneFromPurses_33 : decode cX0_coinsGoneFromPurses 33 = .ok (.istore_n 1, 1) := by decide +kernel
theorem dX0_coinsGoneFromPurses_34 : decode cX0_coinsGoneFromPurses 34 = .ok (.iinc 2 1, 3) := by decide +kernel
theorem dX0_coinsGoneFromPurses_37 : decode cX0_coinsGoneFromPurses 37 = .ok (.goto (-33), 3) := by decide +kernel
theorem dX0_coinsGoneFromPurses_40 : decode cX0_coinsGoneFromPurses 40 = .ok (.iload_n 1, 1) := by decide +kernel
theorem dX0_coinsGoneFromPurses_41 : decode cX0_coinsGoneFromPurses 41 = .ok (.ireturn, 1) := by decide +kernel
theorem dX0_total_0 : decode cX0_total 0 = .ok (.iload_n 1, 1) := by decide +kernel
theorem dX0_total_1 : decode cX0_total 1 = .ok (.tableswitch 229 0 22 #[107, 112, 117, 122, 135, 140, 147, 154, 161, 166, 171, 176, 181, 186, 191, 196, 229, 229, 201, 229, 208, 215, 222], 107) := by decide +kernel
theorem dX0_total_108 : decode cX0_total 108 = .ok (.aload_n 0, 1) := by decide +kernel
theorem dX0_total_109 : decode cX0_total 109 = .ok (.getfield 66, 3) := by decide +kernel
theorem dX0_total_112 : decode cX0_total 112 = .ok (.ireturn, 1) := by decide +kernel
theorem dX0_total_113 : decode cX0_total 113 = .ok (.aload_n 0, 1) := by decide +kernel
theorem dX0_total_114 : decode cX0_total 114 = .ok (.getfield 39, 3) := by decide +kernel
theorem dX0_total_117 : decode cX0_total 117 = .ok (.ireturn, 1) := by decide +kernel
theorem dX0_total_118 : decode cX0_total 118 = .ok (.aload_n 0, 1) := by decide +kernel
theorem dX0_total_119 : decode cX0_total 119 = .ok (.getfield 47, 3) := by decide +kernel
theorem dX0_total_122 : decode cX0_total 122 = .ok (.ireturn, 1) := by decide +kernel
theorem dX0_total_123 : decode cX0_total 123 = .ok (.aload_n 0, 1) := by decide +kernel
theorem dX0_total_124 : decode cX0_total 124 = .ok (.getfield 56, 3) := by decide +kernel
theorem dX0_total_127 : decode cX0_total 127 = .ok (.ifCond .eq 7, 3) := by decide +kernel
theorem dX0_total_130 : decode cX0_total 130 = .ok (.iconst 1, 1) := by decide +kernel
theorem dX0_total_131 : decode cX0_total 131 = .ok (.goto 4, 3) := by decide +kernel
theorem dX0_total_134 : decode cX0_total 134 = .ok (.iconst 0, 1) := by decide +kernel
theorem dX0_total_135 : decode cX0_total 135 = .ok (.ireturn, 1) := by decide +kernel
theorem dX0_total_136 : decode cX0_total 136 = .ok (.aload_n 0, 1) := by decide +kernel
theorem dX0_total_137 : decode cX0_total 137 = .ok (.getfield 72, 3) := by decide +kernel
theorem dX0_total_140 : decode cX0_total 140 = .ok (.ireturn, 1) := by decide +kernel
theorem dX0_total_141 : decode cX0_total 141 = .ok (.aload_n 0, 1) := by decide +kernel
theorem dX0_total_142 : decode cX0_total 142 = .ok (.getfield 28, 3) := by decide +kernel
theorem dX0_total_145 : decode cX0_total 145 = .ok (.iconst 0, 1) := by decide +kernel
theorem dX0_total_146 : decode cX0_total 146 = .ok (.iaload, 1) := by decide +kernel
theorem dX0_total_147 : decode cX0_total 147 = .ok (.ireturn, 1) := by decide +kernel
theorem dX0_total_148 : decode cX0_total 148 = .ok (.aload_n 0, 1) := by decide +kernel
theorem dX0_total_149 : decode cX0_total 149 = .ok (.getfield 28, 3) := by decide +kernel
theorem dX0_total_152 : decode cX0_total 152 = .ok (.iconst 1, 1) := by decide +kernel
theorem dX0_total_153 : decode cX0_total 153 = .ok (.iaload, 1) := by decide +kernel
theorem dX0_total_154 : decode cX0_total 154 = .ok (.ireturn, 1) := by decide +kernel
theorem dX0_total_155 : decode cX0_total 155 = .ok (.aload_n 0, 1) := by decide +kernel
theorem dX0_total_156 : decode cX0_total 156 = .ok (.getfield 28, 3) := by decide +kernel
theorem dX0_total_159 : decode cX0_total 159 = .ok (.iconst 2, 1) := by decide +kernel
theorem dX0_total_160 : decode cX0_total 160 = .ok (.iaload, 1) := by decide +kernel
theorem dX0_total_161 : decode cX0_total 161 = .ok (.ireturn, 1) := by decide +kernel
theorem dX0_total_162 : decode cX0_total 162 = .ok (.aload_n 0, 1) := by decide +kernel
theorem dX0_total_163 : decode cX0_total 163 = .ok (.getfield 75, 3) := by decide +kernel
theorem dX0_total_166 : decode cX0_total 166 = .ok (.ireturn, 1) := by decide +kernel
theorem dX0_total_167 : decode cX0_total 167 = .ok (.aload_n 0, 1) := by decide +kernel
theorem dX0_total_168 : decode cX0_total 168 = .ok (.invokevirtual 231, 3) := by decide +kernel
theorem dX0_total_171 : decode cX0_total 171 = .ok (.ireturn, 1) := by decide +kernel
theorem dX0_total_172 : decode cX0_total 172 = .ok (.aload_n 0, 1) := by decide +kernel
theorem dX0_total_173 : decode cX0_total 173 = .ok (.getfield 78, 3) := by decide +kernel
theorem dX0_total_176 : decode cX0_total 176 = .ok (.ireturn, 1) := by decide +kernel
theorem dX0_total_177 : decode cX0_total 177 = .ok (.aload_n 0, 1) := by decide +kernel
theorem dX0_total_178 : decode cX0_total 178 = .ok (.getfield 81, 3) := by decide +kernel
theorem dX0_total_181 : decode cX0_total 181 = .ok (.ireturn, 1) := by decide +kernel
theorem dX0_total_182 : decode cX0_total 182 = .ok (.aload_n 0, 1) := by decide +kernel
theorem dX0_total_183 : decode cX0_total 183 = .ok (.getfield 84, 3) := by decide +kernel
theorem dX0_total_186 : decode cX0_total 186 = .ok (.ireturn, 1) := by decide +kernel
theorem dX0_total_187 : decode cX0_total 187 = .ok (.aload_n 0, 1) := by decide +kernel
theorem dX0_total_188 : decode cX0_total 188 = .ok (.invokevirtual 205, 3) := by decide +kernel
theorem dX0_total_191 : decode cX0_total 191 = .ok (.ireturn, 1) := by decide +kernel
theorem dX0_total_192 : decode cX0_total 192 = .ok (.aload_n 0, 1) := by decide +kernel
theorem dX0_total_193 : decode cX0_total 193 = .ok (.getfield 69, 3) := by decide +kernel
theorem dX0_total_196 : decode cX0_total 196 = .ok (.ireturn, 1) := by decide +kernel
theorem dX0_total_197 : decode cX0_total 197 = .ok (.aload_n 0, 1) := by decide +kernel
theorem dX0_total_198 : decode cX0_total 198 = .ok (.getfield 53, 3) := by decide +kernel
theorem dX0_total_201 : decode cX0_total 201 = .ok (.ireturn, 1) := by decide +kernel
theorem dX0_total_202 : decode cX0_total 202 = .ok (.aload_n 0, 1) := by decide +kernel
theorem dX0_total_203 : decode cX0_total 203 = .ok (.getfield 28, 3) := by decide +kernel
theorem dX0_total_206 : decode cX0_total 206 = .ok (.iconst 3, 1) := by decide +kernel
theorem dX0_total_207 : decode cX0_total 207 = .ok (.iaload, 1) := by decide +kernel
theorem dX0_total_208 : decode cX0_total 208 = .ok (.ireturn, 1) := by decide +kernel
theorem dX0_total_209 : decode cX0_total 209 = .ok (.aload_n 0, 1) := by decide +kernel
theorem dX0_total_210 : decode cX0_total 210 = .ok (.getfield 32, 3) := by decide +kernel
theorem dX0_total_213 : decode cX0_total 213 = .ok (.iconst 0, 1) := by decide +kernel
theorem dX0_total_214 : decode cX0_total 214 = .ok (.iaload, 1) := by decide +kernel
theorem dX0_total_215 : decode cX0_total 215 = .ok (.ireturn, 1) := by decide +kernel
theorem dX0_total_216 : decode cX0_total 216 = .ok (.aload_n 0, 1) := by decide +kernel
theorem dX0_total_217 : decode cX0_total 217 = .ok (.getfield 32, 3) := by decide +kernel
theorem dX0_total_220 : decode cX0_total 220 = .ok (.iconst 1, 1) := by decide +kernel
theorem dX0_total_221 : decode cX0_total 221 = .ok (.iaload, 1) := by decide +kernel
theorem dX0_total_222 : decode cX0_total 222 = .ok (.ireturn, 1) := by decide +kernel
theorem dX0_total_223 : decode cX0_total 223 = .ok (.aload_n 0, 1) := by decide +kernel
theorem dX0_total_224 : decode cX0_total 224 = .ok (.getfield 32, 3) := by decide +kernel
theorem dX0_total_227 : decode cX0_total 227 = .ok (.iconst 2, 1) := by decide +kernel
theorem dX0_total_228 : decode cX0_total 228 = .ok (.iaload, 1) := by decide +kernel
theorem dX0_total_229 : decode cX0_total 229 = .ok (.ireturn, 1) := by decide +kernel
theorem dX0_total_230 : decode cX0_total 230 = .ok (.ldc 102, 2) := by decide +kernel
theorem dX0_total_232 : decode cX0_total 232 = .ok (.ireturn, 1) := by decide +kernel
theorem dX0_carryOut_0 : decode cX0_carryOut 0 = .ok (.aload_n 2, 1) := by decide +kernel
theorem dX0_carryOut_1 : decode cX0_carryOut 1 = .ok (.arraylength, 1) := by decide +kernel
theorem dX0_carryOut_2 : decode cX0_carryOut 2 = .ok (.iconst 4, 1) := by decide +kernel
theorem dX0_carryOut_3 : decode cX0_carryOut 3 = .ok (.if_icmp .ge 6, 3) := by decide +kernel
theorem dX0_carryOut_6 : decode cX0_carryOut 6 = .ok (.ldc 102, 2) := by decide +kernel
theorem dX0_carryOut_8 : decode cX0_carryOut 8 = .ok (.ireturn, 1) := by decide +kernel
theorem dX0_carryOut_9 : decode cX0_carryOut 9 = .ok (.iload_n 1, 1) := by decide +kernel
theorem dX0_carryOut_10 : decode cX0_carryOut 10 = .ok (.tableswitch 160 98 117 #[142, 122, 160, 160, 160, 160, 160, 160, 160, 160, 111, 131, 155, 160, 94, 160, 160, 160, 160, 150], 94) := by decide +kernel
theorem dX0_carryOut_104 : decode cX0_carryOut 104 = .ok (.aload_n 0, 1) := by decide +kernel
theorem dX0_carryOut_105 : decode cX0_carryOut 105 = .ok (.aload_n 2, 1) := by decide +kernel
theorem dX0_carryOut_106 : decode cX0_carryOut 106 = .ok (.iconst 0, 1) := by decide +kernel
theorem dX0_carryOut_107 : decode cX0_carryOut 107 = .ok (.iaload, 1) := by decide +kernel
theorem dX0_carryOut_108 : decode cX0_carryOut 108 = .ok (.aload_n 2, 1) := by decide +kernel
theorem dX0_carryOut_109 : decode cX0_carryOut 109 = .ok (.iconst 1, 1) := by decide +kernel
theorem dX0_carryOut_110 : decode cX0_carryOut 110 = .ok (.iaload, 1) := by decide +kernel
theorem dX0_carryOut_111 : decode cX0_carryOut 111 = .ok (.aload_n 2, 1) := by decide +kernel
theorem dX0_carryOut_112 : decode cX0_carryOut 112 = .ok (.iconst 2, 1) := by decide +kernel
theorem dX0_carryOut_113 : decode cX0_carryOut 113 = .ok (.iaload, 1) := by decide +kernel
theorem dX0_carryOut_114 : decode cX0_carryOut 114 = .ok (.aload_n 2, 1) := by decide +kernel
theorem dX0_carryOut_115 : decode cX0_carryOut 115 = .ok (.iconst 3, 1) := by decide +kernel
theorem dX0_carryOut_116 : decode cX0_carryOut 116 = .ok (.iaload, 1) := by decide +kernel
theorem dX0_carryOut_117 : decode cX0_carryOut 117 = .ok (.invokevirtual 234, 3) := by decide +kernel
theorem dX0_carryOut_120 : decode cX0_carryOut 120 = .ok (.ireturn, 1) := by decide +kernel
theorem dX0_carryOut_121 : decode cX0_carryOut 121 = .ok (.aload_n 0, 1) := by decide +kernel
theorem dX0_carryOut_122 : decode cX0_carryOut 122 = .ok (.aload_n 2, 1) := by decide +kernel
theorem dX0_carryOut_123 : decode cX0_carryOut 123 = .ok (.iconst 0, 1) := by decide +kernel
theorem dX0_carryOut_124 : decode cX0_carryOut 124 = .ok (.iaload, 1) := by decide +kernel
theorem dX0_carryOut_125 : decode cX0_carryOut 125 = .ok (.aload_n 2, 1) := by decide +kernel
theorem dX0_carryOut_126 : decode cX0_carryOut 126 = .ok (.iconst 1, 1) := by decide +kernel
theorem dX0_carryOut_127 : decode cX0_carryOut 127 = .ok (.iaload, 1) := by decide +kernel
theorem dX0_carryOut_128 : decode cX0_carryOut 128 = .ok (.invokevirtual 238, 3) := by decide +kernel
theorem dX0_carryOut_131 : decode cX0_carryOut 131 = .ok (.ireturn, 1) := by decide +kernel
theorem dX0_carryOut_132 : decode cX0_carryOut 132 = .ok (.aload_n 0, 1) := by decide +kernel
theorem dX0_carryOut_133 : decode cX0_carryOut 133 = .ok (.aload_n 2, 1) := by decide +kernel
theorem dX0_carryOut_134 : decode cX0_carryOut 134 = .ok (.iconst 0, 1) := by decide +kernel
theorem dX0_carryOut_135 : decode cX0_carryOut 135 = .ok (.iaload, 1) := by decide +kernel
theorem dX0_carryOut_136 : decode cX0_carryOut 136 = .ok (.iconst 0, 1) := by decide +kernel
theorem dX0_carryOut_137 : decode cX0_carryOut 137 = .ok (.invokevirtual 177, 3) := by decide +kernel
theorem dX0_carryOut_140 : decode cX0_carryOut 140 = .ok (.ireturn, 1) := by decide +kernel
theorem dX0_carryOut_141 : decode cX0_carryOut 141 = .ok (.aload_n 0, 1) := by decide +kernel
theorem dX0_carryOut_142 : decode cX0_carryOut 142 = .ok (.aload_n 2, 1) := by decide +kernel
theorem dX0_carryOut_143 : decode cX0_carryOut 143 = .ok (.iconst 0, 1) := by decide +kernel
theorem dX0_carryOut_144 : decode cX0_carryOut 144 = .ok (.iaload, 1) := by decide +kernel
theorem dX0_carryOut_145 : decode cX0_carryOut 145 = .ok (.aload_n 2, 1) := by decide +kernel
theorem dX0_carryOut_146 : decode cX0_carryOut 146 = .ok (.iconst 1, 1) := by decide +kernel
theorem dX0_carryOut_147 : decode cX0_carryOut 147 = .ok (.iaload, 1) := by decide +kernel
theorem dX0_carryOut_148 : decode cX0_carryOut 148 = .ok (.invokevirtual 241, 3) := by decide +kernel
theorem dX0_carryOut_151 : decode cX0_carryOut 151 = .ok (.ireturn, 1) := by decide +kernel
theorem dX0_carryOut_152 : decode cX0_carryOut 152 = .ok (.aload_n 0, 1) := by decide +kernel
theorem dX0_carryOut_153 : decode cX0_carryOut 153 = .ok (.aload_n 2, 1) := by decide +kernel
theorem dX0_carryOut_154 : decode cX0_carryOut 154 = .ok (.iconst 0, 1) := by decide +kernel
theorem dX0_carryOut_155 : decode cX0_carryOut 155 = .ok (.iaload, 1) := by decide +kernel
theorem dX0_carryOut_156 : decode cX0_carryOut 156 = .ok (.invokevirtual 244, 3) := by decide +kernel
theorem dX0_carryOut_159 : decode cX0_carryOut 159 = .ok (.ireturn, 1) := by decide +kernel
theorem dX0_carryOut_160 : decode cX0_carryOut 160 = .ok (.aload_n 0, 1) := by decide +kernel
theorem dX0_carryOut_161 : decode cX0_carryOut 161 = .ok (.invokevirtual 247, 3) := by decide +kernel
theorem dX0_carryOut_164 : decode cX0_carryOut 164 = .ok (.ireturn, 1) := by decide +kernel
theorem dX0_carryOut_165 : decode cX0_carryOut 165 = .ok (.aload_n 0, 1) := by decide +kernel
theorem dX0_carryOut_166 : decode cX0_carryOut 166 = .ok (.invokevirtual 250, 3) := by decide +kernel
theorem dX0_carryOut_169 : decode cX0_carryOut 169 = .ok (.ireturn, 1) := by decide +kernel
theorem dX0_carryOut_170 : decode cX0_carryOut 170 = .ok (.ldc 102, 2) := by decide +kernel
theorem dX0_carryOut_172 : decode cX0_carryOut 172 = .ok (.ireturn, 1) := by decide +kernel
theorem dX1_init_0 : decode cX1_init 0 = .ok (.aload_n 0, 1) := by decide +kernel
theorem dX1_init_1 : decode cX1_init 1 = .ok (.invokespecial 3, 3) := by decide +kernel
theorem dX1_init_4 : decode cX1_init 4 = .ok (.return_, 1) := by decide +kernel
theorem dX1_sitDown_0 : decode cX1_sitDown 0 = .ok (.aload_n 0, 1) := by decide +kernel
theorem dX1_sitDown_1 : decode cX1_sitDown 1 = .ok (.iload_n 1, 1) := by decide +kernel
theorem dX1_sitDown_2 : decode cX1_sitDown 2 = .ok (.putfield 9, 3) := by decide +kernel
theorem dX1_sitDown_5 : decode cX1_sitDown 5 = .ok (.aload_n 0, 1) := by decide +kernel
theorem dX1_sitDown_6 : decode cX1_sitDown 6 = .ok (.iload_n 2, 1) := by decide +kernel
theorem dX1_sitDown_7 : decode cX1_sitDown 7 = .ok (.putfield 15, 3) := by decide +kernel
theorem dX1_sitDown_10 : decode cX1_sitDown 10 = .ok (.aload_n 0, 1) := by decide +kernel
theorem dX1_sitDown_11 : decode cX1_sitDown 11 = .ok (.iload_n 3, 1) := by decide +kernel
theorem dX1_sitDown_12 : decode cX1_sitDown 12 = .ok (.putfield 18, 3) := by decide +kernel
theorem dX1_sitDown_15 : decode cX1_sitDown 15 = .ok (.aload_n 0, 1) := by decide +kernel
theorem dX1_sitDown_16 : decode cX1_sitDown 16 = .ok (.iload_n 3, 1) := by decide +kernel
theorem dX1_sitDown_17 : decode cX1_sitDown 17 = .ok (.putfield 21, 3) := by decide +kernel
theorem dX1_sitDown_20 : decode cX1_sitDown 20 = .ok (.aload_n 0, 1) := by decide +kernel
theorem dX1_sitDown_21 : decode cX1_sitDown 21 = .ok (.iload 4, 2) := by decide +kernel
theorem dX1_sitDown_23 : decode cX1_sitDown 23 = .ok (.putfield 24, 3) := by decide +kernel
theorem dX1_sitDown_26 : decode cX1_sitDown 26 = .ok (.aload_n 0, 1) := by decide +kernel
theorem dX1_sitDown_27 : decode cX1_sitDown 27 = .ok (.iconst 0, 1) := by decide +kernel
theorem dX1_sitDown_28 : decode cX1_sitDown 28 = .ok (.putfield 27, 3) := by decide +kernel
theorem dX1_sitDown_31 : decode cX1_sitDown 31 = .ok (.aload_n 0, 1) := by decide +kernel
theorem dX1_sitDown_32 : decode cX1_sitDown 32 = .ok (.iconst 0, 1) := by decide +kernel
theorem dX1_sitDown_33 : decode cX1_sitDown 33 = .ok (.putfield 30, 3) := by decide +kernel
theorem dX1_sitDown_36 : decode cX1_sitDown 36 = .ok (.aload_n 0, 1) := by decide +kernel
theorem dX1_sitDown_37 : decode cX1_sitDown 37 = .ok (.iconst 0, 1) := by decide +kernel
theorem dX1_sitDown_38 : decode cX1_sitDown 38 = .ok (.putfield 33, 3) := by decide +kernel
theorem dX1_sitDown_41 : decode cX1_sitDown 41 = .ok (.aload_n 0, 1) := by decide +kernel
theorem dX1_sitDown_42 : decode cX1_sitDown 42 = .ok (.iconst 0, 1) := by decide +kernel
theorem dX1_sitDown_43 : decode cX1_sitDown 43 = .ok (.putfield 36, 3) := by decide +kernel
theorem dX1_sitDown_46 : decode cX1_sitDown 46 = .ok (.aload_n 0, 1) := by decide +kernel
theorem dX1_sitDown_47 : decode cX1_sitDown 47 = .ok (.iconst 0, 1) := by decide +kernel
theorem dX1_sitDown_48 : decode cX1_sitDown 48 = .ok (.putfield 39, 3) := by decide +kernel
theorem dX1_sitDown_51 : decode cX1_sitDown 51 = .ok (.aload_n 0, 1) := by decide +kernel
theorem dX1_sitDown_52 : decode cX1_sitDown 52 = .ok (.iconst 0, 1) := by decide +kernel
theorem dX1_sitDown_53 : decode cX1_sitDown 53 = .ok (.putfield 42, 3) := by decide +kernel
theorem dX1_sitDown_56 : decode cX1_sitDown 56 = .ok (.return_, 1) := by decide +kernel
theorem dX1_copyFrom_0 : decode cX1_copyFrom 0 = .ok (.aload_n 0, 1) := by decide +kernel
theorem dX1_copyFrom_1 : decode cX1_copyFrom 1 = .ok (.aload_n 1, 1) := by decide +kernel
theorem dX1_copyFrom_2 : decode cX1_copyFrom 2 = .ok (.getfield 9, 3) := by decide +kernel
theorem dX1_copyFrom_5 : decode cX1_copyFrom 5 = .ok (.putfield 9, 3) := by decide +kernel
theorem dX1_copyFrom_8 : decode cX1_copyFrom 8 = .ok (.aload_n 0, 1) := by decide +kernel
theorem dX1_copyFrom_9 : decode cX1_copyFrom 9 = .ok (.aload_n 1, 1) := by decide +kernel
theorem dX1_copyFrom_10 : decode cX1_copyFrom 10 = .ok (.getfield 15, 3) := by decide +kernel
theorem dX1_copyFrom_13 : decode cX1_copyFrom 13 = .ok (.putfield 15, 3) := by decide +kernel
theorem dX1_copyFrom_16 : decode cX1_copyFrom 16 = .ok (.aload_n 0, 1) := by decide +kernel
theorem dX1_copyFrom_17 : decode cX1_copyFrom 17 = .ok (.aload_n 1, 1) := by decide +kernel
theorem dX1_copyFrom_18 : decode cX1_copyFrom 18 = .ok (.getfield 18, 3) := by decide +kernel
theorem dX1_copyFrom_21 : decode cX1_copyFrom 21 = .ok (.putfield 18, 3) := by decide +kernel
theorem dX1_copyFrom_24 : decode cX1_copyFrom 24 = .ok (.aload_n 0, 1) := by decide +kernel
theorem dX1_copyFrom_25 : decode cX1_copyFrom 25 = .ok (.aload_n 1, 1) := by decide +kernel
theorem dX1_copyFrom_26 : decode cX1_copyFrom 26 = .ok (.getfield 21, 3) := by decide +kernel
theorem dX1_copyFrom_29 : decode cX1_copyFrom 29 = .ok (.putfield 21, 3) := by decide +kernel
theorem dX1_copyFrom_32 : decode cX1_copyFrom 32 = .ok (.aload_n 0, 1) := by decide +kernel
theorem dX1_copyFrom_33 : decode cX1_copyFrom 33 = .ok (.aload_n 1, 1) := by decide +kernel
theorem dX1_copyFrom_34 : decode cX1_copyFrom 34 = .ok (.getfield 24, 3) := by decide +kernel
theorem dX1_copyFrom_37 : decode cX1_copyFrom 37 = .ok (.putfield 24, 3) := by decide +kernel
theorem dX1_copyFrom_40 : decode cX1_copyFrom 40 = .ok (.aload_n 0, 1) := by decide +kernel
theorem dX1_copyFrom_41 : decode cX1_copyFrom 41 = .ok (.aload_n 1, 1) := by decide +kernel
theorem dX1_copyFrom_42 : decode cX1_copyFrom 42 = .ok (.getfield 27, 3) := by decide +kernel
theorem dX1_copyFrom_45 : decode cX1_copyFrom 45 = .ok (.putfield 27, 3) := by decide +kernel
theorem dX1_copyFrom_48 : decode cX1_copyFrom 48 = .ok (.aload_n 0, 1) := by decide +kernel
theorem dX1_copyFrom_49 : decode cX1_copyFrom 49 = .ok (.aload_n 1, 1) := by decide +kernel
theorem dX1_copyFrom_50 : decode cX1_copyFrom 50 = .ok (.getfield 30, 3) := by decide +kernel
theorem dX1_copyFrom_53 : decode cX1_copyFrom 53 = .ok (.putfield 30, 3) := by decide +kernel
theorem dX1_copyFrom_56 : decode cX1_copyFrom 56 = .ok (.aload_n 0, 1) := by decide +kernel
theorem dX1_copyFrom_57 : decode cX1_copyFrom 57 = .ok (.aload_n 1, 1) := by decide +kernel
theorem dX1_copyFrom_58 : decode cX1_copyFrom 58 = .ok (.getfield 33, 3) := by decide +kernel
theorem dX1_copyFrom_61 : decode cX1_copyFrom 61 = .ok (.putfield 33, 3) := by decide +kernel
theorem dX1_copyFrom_64 : decode cX1_copyFrom 64 = .ok (.aload_n 0, 1) := by decide +kernel
theorem dX1_copyFrom_65 : decode cX1_copyFrom 65 = .ok (.aload_n 1, 1) := by decide +kernel
theorem dX1_copyFrom_66 : decode cX1_copyFrom 66 = .ok (.getfield 36, 3) := by decide +kernel
theorem dX1_copyFrom_69 : decode cX1_copyFrom 69 = .ok (.putfield 36, 3) := by decide +kernel
theorem dX1_copyFrom_72 : decode cX1_copyFrom 72 = .ok (.aload_n 0, 1) := by decide +kernel
theorem dX1_copyFrom_73 : decode cX1_copyFrom 73 = .ok (.aload_n 1, 1) := by decide +kernel
theorem dX1_copyFrom_74 : decode cX1_copyFrom 74 = .ok (.getfield 39, 3) := by decide +kernel
theorem dX1_copyFrom_77 : decode cX1_copyFrom 77 = .ok (.putfield 39, 3) := by decide +kernel
theorem dX1_copyFrom_80 : decode cX1_copyFrom 80 = .ok (.aload_n 0, 1) := by decide +kernel
theorem dX1_copyFrom_81 : decode cX1_copyFrom 81 = .ok (.aload_n 1, 1) := by decide +kernel
theorem dX1_copyFrom_82 : decode cX1_copyFrom 82 = .ok (.getfield 42, 3) := by decide +kernel
theorem dX1_copyFrom_85 : decode cX1_copyFrom 85 = .ok (.putfield 42, 3) := by decide +kernel
theorem dX1_copyFrom_88 : decode cX1_copyFrom 88 = .ok (.return_, 1) := by decide +kernel
theorem dX1_loudness_0 : decode cX1_loudness 0 = .ok (.aload_n 0, 1) := by decide +kernel
theorem dX1_loudness_1 : decode cX1_loudness 1 = .ok (.getfield 24, 3) := by decide +kernel
theorem dX1_loudness_4 : decode cX1_loudness 4 = .ok (.aload_n 0, 1) := by decide +kernel
theorem dX1_loudness_5 : decode cX1_loudness 5 = .ok (.getfield 27, 3) := by decide +kernel
theorem dX1_loudness_8 : decode cX1_loudness 8 = .ok (.iadd, 1) := by decide +kernel
theorem dX1_loudness_9 : decode cX1_loudness 9 = .ok (.aload_n 0, 1) := by decide +kernel
theorem dX1_loudness_10 : decode cX1_loudness 10 = .ok (.getfield 30, 3) := by decide +kernel
theorem dX1_loudness_13 : decode cX1_loudness 13 = .ok (.isub, 1) := by decide +kernel
theorem dX1_loudness_14 : decode cX1_loudness 14 = .ok (.aload_n 0, 1) := by decide +kernel
theorem dX1_loudness_15 : decode cX1_loudness 15 = .ok (.getfield 9, 3) := by decide +kernel
theorem dX1_loudness_18 : decode cX1_loudness 18 = .ok (.isub, 1) := by decide +kernel
theorem dX1_loudness_19 : decode cX1_loudness 19 = .ok (.ireturn, 1) := by decide +kernel
theorem dX1_isBeside_0 : decode cX1_isBeside 0 = .ok (.aload_n 0, 1) := by decide +kernel
theorem dX1_isBeside_1 : decode cX1_isBeside 1 = .ok (.getfield 9, 3) := by decide +kernel
theorem dX1_isBeside_4 : decode cX1_isBeside 4 = .ok (.aload_n 1, 1) := by decide +kernel
theorem dX1_isBeside_5 : decode cX1_isBeside 5 = .ok (.getfield 9, 3) := by decide +kernel
theorem dX1_isBeside_8 : decode cX1_isBeside 8 = .ok (.if_icmp .ne 33, 3) := by decide +kernel
theorem dX1_isBeside_11 : decode cX1_isBeside 11 = .ok (.aload_n 0, 1) := by decide +kernel
theorem dX1_isBeside_12 : decode cX1_isBeside 12 = .ok (.getfield 15, 3) := by decide +kernel
theorem dX1_isBeside_15 : decode cX1_isBeside 15 = .ok (.aload_n 1, 1) := by decide +kernel
theorem dX1_isBeside_16 : decode cX1_isBeside 16 = .ok (.getfield 15, 3) := by decide +kernel
theorem dX1_isBeside_19 : decode cX1_isBeside 19 = .ok (.iconst 1, 1) := by decide +kernel
theorem dX1_isBeside_20 : decode cX1_isBeside 20 = .ok (.isub, 1) := by decide +kernel
theorem dX1_isBeside_21 : decode cX1_isBeside 21 = .ok (.if_icmp .eq 16, 3) := by decide +kernel
theorem dX1_isBeside_24 : decode cX1_isBeside 24 = .ok (.aload_n 0, 1) := by decide +kernel
theorem dX1_isBeside_25 : decode cX1_isBeside 25 = .ok (.getfield 15, 3) := by decide +kernel
theorem dX1_isBeside_28 : decode cX1_isBeside 28 = .ok (.aload_n 1, 1) := by decide +kernel
theorem dX1_isBeside_29 : decode cX1_isBeside 29 = .ok (.getfield 15, 3) := by decide +kernel
theorem dX1_isBeside_32 : decode cX1_isBeside 32 = .ok (.iconst 1, 1) := by decide +kernel
theorem dX1_isBeside_33 : decode cX1_isBeside 33 = .ok (.iadd, 1) := by decide +kernel
theorem dX1_isBeside_34 : decode cX1_isBeside 34 = .ok (.if_icmp .ne 7, 3) := by decide +kernel
theorem dX1_isBeside_37 : decode cX1_isBeside 37 = .ok (.iconst 1, 1) := by decide +kernel
theorem dX1_isBeside_38 : decode cX1_isBeside 38 = .ok (.goto 4, 3) := by decide +kernel
theorem dX1_isBeside_41 : decode cX1_isBeside 41 = .ok (.iconst 0, 1) := by decide +kernel
theorem dX1_isBeside_42 : decode cX1_isBeside 42 = .ok (.ireturn, 1) := by decide +kernel
theorem dX1_pay_0 : decode cX1_pay 0 = .ok (.aload_n 0, 1) := by decide +kernel
theorem dX1_pay_1 : decode cX1_pay 1 = .ok (.dup, 1) := by decide +kernel
theorem dX1_pay_2 : decode cX1_pay 2 = .ok (.getfield 18, 3) := by decide +kernel
theorem dX1_pay_5 : decode cX1_pay 5 = .ok (.iload_n 1, 1) := by decide +kernel
theorem dX1_pay_6 : decode cX1_pay 6 = .ok (.isub, 1) := by decide +kernel
theorem dX1_pay_7 : decode cX1_pay 7 = .ok (.putfield 18, 3) := by decide +kernel
theorem dX1_pay_10 : decode cX1_pay 10 = .ok (.aload_n 0, 1) := by decide +kernel
theorem dX1_pay_11 : decode cX1_pay 11 = .ok (.dup, 1) := by decide +kernel
theorem dX1_pay_12 : decode cX1_pay 12 = .ok (.getfield 42, 3) := by decide +kernel
theorem dX1_pay_15 : decode cX1_pay 15 = .ok (.iload_n 1, 1) := by decide +kernel
theorem dX1_pay_16 : decode cX1_pay 16 = .ok (.iadd, 1) := by decide +kernel
theorem dX1_pay_17 : decode cX1_pay 17 = .ok (.putfield 42, 3) := by decide +kernel
theorem dX1_pay_20 : decode cX1_pay 20 = .ok (.aload_n 0, 1) := by decide +kernel
theorem dX1_pay_21 : decode cX1_pay 21 = .ok (.dup, 1) := by decide +kernel
theorem dX1_pay_22 : decode cX1_pay 22 = .ok (.getfield 39, 3) := by decide +kernel
theorem dX1_pay_25 : decode cX1_pay 25 = .ok (.iconst 1, 1) := by decide +kernel
theorem dX1_pay_26 : decode cX1_pay 26 = .ok (.iadd, 1) := by decide +kernel
theorem dX1_pay_27 : decode cX1_pay 27 = .ok (.putfield 39, 3) := by decide +kernel
theorem dX1_pay_30 : decode cX1_pay 30 = .ok (.return_, 1) := by decide +kernel
theorem dX1_tell_0 : decode cX1_tell 0 = .ok (.iload_n 1, 1) := by decide +kernel
theorem dX1_tell_1 : decode cX1_tell 1 = .ok (.tableswitch 117 0 10 #[59, 64, 69, 74, 79, 84, 89, 97, 102, 107, 112], 59) := by decide +kernel
theorem dX1_tell_60 : decode cX1_tell 60 = .ok (.aload_n 0, 1) := by decide +kernel
theorem dX1_tell_61 : decode cX1_tell 61 = .ok (.getfield 9, 3) := by decide +kernel
theorem dX1_tell_64 : decode cX1_tell 64 = .ok (.ireturn, 1) := by decide +kernel
theorem dX1_tell_65 : decode cX1_tell 65 = .ok (.aload_n 0, 1) := by decide +kernel
theorem dX1_tell_66 : decode cX1_tell 66 = .ok (.getfield 15, 3) := by decide +kernel
theorem dX1_tell_69 : decode cX1_tell 69 = .ok (.ireturn, 1) := by decide +kernel
theorem dX1_tell_70 : decode cX1_tell 70 = .ok (.aload_n 0, 1) := by decide +kernel
theorem dX1_tell_71 : decode cX1_tell 71 = .ok (.getfield 18, 3) := by decide +kernel
theorem dX1_tell_74 : decode cX1_tell 74 = .ok (.ireturn, 1) := by decide +kernel
theorem dX1_tell_75 : decode cX1_tell 75 = .ok (.aload_n 0, 1) := by decide +kernel
theorem dX1_tell_76 : decode cX1_tell 76 = .ok (.getfield 24, 3) := by decide +kernel
theorem dX1_tell_79 : decode cX1_tell 79 = .ok (.ireturn, 1) := by decide +kernel
theorem dX1_tell_80 : decode cX1_tell 80 = .ok (.aload_n 0, 1) := by decide +kernel
theorem dX1_tell_81 : decode cX1_tell 81 = .ok (.getfield 27, 3) := by decide +kernel
theorem dX1_tell_84 : decode cX1_tell 84 = .ok (.ireturn, 1) := by decide +kernel
theorem dX1_tell_85 : decode cX1_tell 85 = .ok (.aload_n 0, 1) := by decide +kernel
theorem dX1_tell_86 : decode cX1_tell 86 = .ok (.getfield 30, 3) := by decide +kernel
theorem dX1_tell_89 : decode cX1_tell 89 = .ok (.ireturn, 1) := by decide +kernel
theorem dX1_tell_90 : decode cX1_tell 90 = .ok (.bipush 100, 2) := by decide +kernel
theorem dX1_tell_92 : decode cX1_tell 92 = .ok (.aload_n 0, 1) := by decide +kernel
theorem dX1_tell_93 : decode cX1_tell 93 = .ok (.invokevirtual 45, 3) := by decide +kernel
theorem dX1_tell_96 : decode cX1_tell 96 = .ok (.iadd, 1) := by decide +kernel
theorem dX1_tell_97 : decode cX1_tell 97 = .ok (.ireturn, 1) := by decide +kernel
theorem dX1_tell_98 : decode cX1_tell 98 = .ok (.aload_n 0, 1) := by decide +kernel
theorem dX1_tell_99 : decode cX1_tell 99 = .ok (.getfield 33, 3) := by decide +kernel
theorem dX1_tell_102 : decode cX1_tell 102 = .ok (.ireturn, 1) := by decide +kernel
theorem dX1_tell_103 : decode cX1_tell 103 = .ok (.aload_n 0, 1) := by decide +kernel
theorem dX1_tell_104 : decode cX1_tell 104 = .ok (.getfield 36, 3) := by decide +kernel
theorem dX1_tell_107 : decode cX1_tell 107 = .ok (.ireturn, 1) := by decide +kernel
theorem dX1_tell_108 : decode cX1_tell 108 = .ok (.aload_n 0, 1) := by decide +kernel
theorem dX1_tell_109 : decode cX1_tell 109 = .ok (.getfield 39, 3) := by decide +kernel
theorem dX1_tell_112 : decode cX1_tell 112 = .ok (.ireturn, 1) := by decide +kernel
theorem dX1_tell_113 : decode cX1_tell 113 = .ok (.aload_n 0, 1) := by decide +kernel
theorem dX1_tell_114 : decode cX1_tell 114 = .ok (.getfield 42, 3) := by decide +kernel
theorem dX1_tell_117 : decode cX1_tell 117 = .ok (.ireturn, 1) := by decide +kernel
theorem dX1_tell_118 : decode cX1_tell 118 = .ok (.ldc 49, 2) := by decide +kernel
theorem dX1_tell_120 : decode cX1_tell 120 = .ok (.ireturn, 1) := by decide +kernel
theorem dX2_init_0 : decode cX2_init 0 = .ok (.aload_n 0, 1) := by decide +kernel
theorem dX2_init_1 : decode cX2_init 1 = .ok (.invokespecial 3, 3) := by decide +kernel
theorem dX2_init_4 : decode cX2_init 4 = .ok (.return_, 1) := by decide +kernel
theorem dX2_come_0 : decode cX2_come 0 = .ok (.aload_n 0, 1) := by decide +kernel
theorem dX2_come_1 : decode cX2_come 1 = .ok (.iload_n 1, 1) := by decide +kernel
theorem dX2_come_2 : decode cX2_come 2 = .ok (.putfield 9, 3) := by decide +kernel
theorem dX2_come_5 : decode cX2_come 5 = .ok (.aload_n 0, 1) := by decide +kernel
theorem dX2_come_6 : decode cX2_come 6 = .ok (.iload_n 2, 1) := by decide +kernel
theorem dX2_come_7 : decode cX2_come 7 = .ok (.putfield 15, 3) := by decide +kernel
theorem dX2_come_10 : decode cX2_come 10 = .ok (.aload_n 0, 1) := by decide +kernel
theorem dX2_come_11 : decode cX2_come 11 = .ok (.iconst 0, 1) := by decide +kernel
theorem dX2_come_12 : decode cX2_come 12 = .ok (.putfield 18, 3) := by decide +kernel
theorem dX2_come_15 : decode cX2_come 15 = .ok (.aload_n 0, 1) := by decide +kernel
theorem dX2_come_16 : decode cX2_come 16 = .ok (.iconst (-1), 1) := by decide +kernel
theorem dX2_come_17 : decode cX2_come 17 = .ok (.putfield 21, 3) := by decide +kernel
theorem dX2_come_20 : decode cX2_come 20 = .ok (.aload_n 0, 1) := by decide +kernel
theorem dX2_come_21 : decode cX2_come 21 = .ok (.iconst 0, 1) := by decide +kernel
theorem dX2_come_22 : decode cX2_come 22 = .ok (.putfield 24, 3) := by decide +kernel
theorem dX2_come_25 : decode cX2_come 25 = .ok (.aload_n 0, 1) := by decide +kernel
theorem dX2_come_26 : decode cX2_come 26 = .ok (.iconst 0, 1) := by decide +kernel
theorem dX2_come_27 : decode cX2_come 27 = .ok (.putfield 28, 3) := by decide +kernel
theorem dX2_come_30 : decode cX2_come 30 = .ok (.aload_n 0, 1) := by decide +kernel
theorem dX2_come_31 : decode cX2_come 31 = .ok (.iconst 0, 1) := by decide +kernel
theorem dX2_come_32 : decode cX2_come 32 = .ok (.putfield 31, 3) := by decide +kernel
theorem dX2_come_35 : decode cX2_come 35 = .ok (.aload_n 0, 1) := by decide +kernel
theorem dX2_come_36 : decode cX2_come 36 = .ok (.iconst 0, 1) := by decide +kernel
theorem dX2_come_37 : decode cX2_come 37 = .ok (.putfield 34, 3) := by decide +kernel
theorem dX2_come_40 : decode cX2_come 40 = .ok (.aload_n 0, 1) := by decide +kernel
theorem dX2_come_41 : decode cX2_come 41 = .ok (.iconst 0, 1) := by decide +kernel
theorem dX2_come_42 : decode cX2_come 42 = .ok (.putfield 37, 3) := by decide +kernel
theorem dX2_come_45 : decode cX2_come 45 = .ok (.aload_n 0, 1) := by decide +kernel
theorem dX2_come_46 : decode cX2_come 46 = .ok (.iconst 0, 1) := by decide +kernel
theorem dX2_come_47 : decode cX2_come 47 = .ok (.putfield 40, 3) := by decide +kernel
theorem dX2_come_50 : decode cX2_come 50 = .ok (.return_, 1) := by decide +kernel
theorem dX2_copyFrom_0 : decode cX2_copyFrom 0 = .ok (.aload_n 0, 1) := by decide +kernel
theorem dX2_copyFrom_1 : decode cX2_copyFrom 1 = .ok (.aload_n 1, 1) := by decide +kernel
theorem dX2_copyFrom_2 : decode cX2_copyFrom 2 = .ok (.getfield 9, 3) := by decide +kernel
theorem dX2_copyFrom_5 : decode cX2_copyFrom 5 = .ok (.putfield 9, 3) := by decide +kernel
theorem dX2_copyFrom_8 : decode cX2_copyFrom 8 = .ok (.aload_n 0, 1) := by decide +kernel
theorem dX2_copyFrom_9 : decode cX2_copyFrom 9 = .ok (.aload_n 1, 1) := by decide +kernel
theorem dX2_copyFrom_10 : decode cX2_copyFrom 10 = .ok (.getfield 15, 3) := by decide +kernel
theorem dX2_copyFrom_13 : decode cX2_copyFrom 13 = .ok (.putfield 15, 3) := by decide +kernel
theorem dX2_copyFrom_16 : decode cX2_copyFrom 16 = .ok (.aload_n 0, 1) := by decide +kernel
theorem dX2_copyFrom_17 : decode cX2_copyFrom 17 = .ok (.aload_n 1, 1) := by decide +kernel
theorem dX2_copyFrom_18 : decode cX2_copyFrom 18 = .ok (.getfield 18, 3) := by decide +kernel
theorem dX2_copyFrom_21 : decode cX2_copyFrom 21 = .ok (.putfield 18, 3) := by decide +kernel
theorem dX2_copyFrom_24 : decode cX2_copyFrom 24 = .ok (.aload_n 0, 1) := by decide +kernel
theorem dX2_copyFrom_25 : decode cX2_copyFrom 25 = .ok (.aload_n 1, 1) := by decide +kernel
theorem dX2_copyFrom_26 : decode cX2_copyFrom 26 = .ok (.getfield 21, 3) := by decide +kernel
theorem dX2_copyFrom_29 : decode cX2_copyFrom 29 = .ok (.putfield 21, 3) := by decide +kernel
theorem dX2_copyFrom_32 : decode cX2_copyFrom 32 = .ok (.aload_n 0, 1) := by decide +kernel
theorem dX2_copyFrom_33 : decode cX2_copyFrom 33 = .ok (.aload_n 1, 1) := by decide +kernel
theorem dX2_copyFrom_34 : decode cX2_copyFrom 34 = .ok (.getfield 24, 3) := by decide +kernel
theorem dX2_copyFrom_37 : decode cX2_copyFrom 37 = .ok (.putfield 24, 3) := by decide +kernel
theorem dX2_copyFrom_40 : decode cX2_copyFrom 40 = .ok (.aload_n 0, 1) := by decide +kernel
theorem dX2_copyFrom_41 : decode cX2_copyFrom 41 = .ok (.aload_n 1, 1) := by decide +kernel
theorem dX2_copyFrom_42 : decode cX2_copyFrom 42 = .ok (.getfield 28, 3) := by decide +kernel
theorem dX2_copyFrom_45 : decode cX2_copyFrom 45 = .ok (.putfield 28, 3) := by decide +kernel
theorem dX2_copyFrom_48 : decode cX2_copyFrom 48 = .ok (.aload_n 0, 1) := by decide +kernel
theorem dX2_copyFrom_49 : decode cX2_copyFrom 49 = .ok (.aload_n 1, 1) := by decide +kernel
theorem dX2_copyFrom_50 : decode cX2_copyFrom 50 = .ok (.getfield 31, 3) := by decide +kernel
theorem dX2_copyFrom_53 : decode cX2_copyFrom 53 = .ok (.putfield 31, 3) := by decide +kernel
theorem dX2_copyFrom_56 : decode cX2_copyFrom 56 = .ok (.aload_n 0, 1) := by decide +kernel
theorem dX2_copyFrom_57 : decode cX2_copyFrom 57 = .ok (.aload_n 1, 1) := by decide +kernel
theorem dX2_copyFrom_58 : decode cX2_copyFrom 58 = .ok (.getfield 34, 3) := by decide +kernel
theorem dX2_copyFrom_61 : decode cX2_copyFrom 61 = .ok (.putfield 34, 3) := by decide +kernel
theorem dX2_copyFrom_64 : decode cX2_copyFrom 64 = .ok (.aload_n 0, 1) := by decide +kernel
theorem dX2_copyFrom_65 : decode cX2_copyFrom 65 = .ok (.aload_n 1, 1) := by decide +kernel
theorem dX2_copyFrom_66 : decode cX2_copyFrom 66 = .ok (.getfield 37, 3) := by decide +kernel
theorem dX2_copyFrom_69 : decode cX2_copyFrom 69 = .ok (.putfield 37, 3) := by decide +kernel
theorem dX2_copyFrom_72 : decode cX2_copyFrom 72 = .ok (.aload_n 0, 1) := by decide +kernel
theorem dX2_copyFrom_73 : decode cX2_copyFrom 73 = .ok (.aload_n 1, 1) := by decide +kernel
theorem dX2_copyFrom_74 : decode cX2_copyFrom 74 = .ok (.getfield 40, 3) := by decide +kernel
theorem dX2_copyFrom_77 : decode cX2_copyFrom 77 = .ok (.putfield 40, 3) := by decide +kernel
theorem dX2_copyFrom_80 : decode cX2_copyFrom 80 = .ok (.return_, 1) := by decide +kernel
theorem dX2_hasBid_0 : decode cX2_hasBid 0 = .ok (.aload_n 0, 1) := by decide +kernel
theorem dX2_hasBid_1 : decode cX2_hasBid 1 = .ok (.getfield 31, 3) := by decide +kernel
theorem dX2_hasBid_4 : decode cX2_hasBid 4 = .ok (.ifCond .le 7, 3) := by decide +kernel
theorem dX2_hasBid_7 : decode cX2_hasBid 7 = .ok (.iconst 1, 1) := by decide +kernel
theorem dX2_hasBid_8 : decode cX2_hasBid 8 = .ok (.goto 4, 3) := by decide +kernel
theorem dX2_hasBid_11 : decode cX2_hasBid 11 = .ok (.iconst 0, 1) := by decide +kernel
theorem dX2_hasBid_12 : decode cX2_hasBid 12 = .ok (.ireturn, 1) := by decide +kernel
theorem dX2_asked_0 : decode cX2_asked 0 = .ok (.aload_n 0, 1) := by decide +kernel
theorem dX2_asked_1 : decode cX2_asked 1 = .ok (.getfield 31, 3) := by decide +kernel
theorem dX2_asked_4 : decode cX2_asked 4 = .ok (.ifCond .le 15, 3) := by decide +kernel
theorem dX2_asked_7 : decode cX2_asked 7 = .ok (.aload_n 0, 1) := by decide +kernel
theorem dX2_asked_8 : decode cX2_asked 8 = .ok (.getfield 18, 3) := by decide +kernel
theorem dX2_asked_11 : decode cX2_asked 11 = .ok (.aload_n 0, 1) := by decide +kernel
theorem dX2_asked_12 : decode cX2_asked 12 = .ok (.getfield 15, 3) := by decide +kernel
theorem dX2_asked_15 : decode cX2_asked 15 = .ok (.iadd, 1) := by decide +kernel
theorem dX2_asked_16 : decode cX2_asked 16 = .ok (.goto 7, 3) := by decide +kernel
theorem dX2_asked_19 : decode cX2_asked 19 = .ok (.aload_n 0, 1) := by decide +kernel
theorem dX2_asked_20 : decode cX2_asked 20 = .ok (.getfield 9, 3) := by decide +kernel
theorem dX2_asked_23 : decode cX2_asked 23 = .ok (.ireturn, 1) := by decide +kernel
theorem dX2_takeBid_0 : decode cX2_takeBid 0 = .ok (.aload_n 0, 1) := by decide +kernel
theorem dX2_takeBid_1 : decode cX2_takeBid 1 = .ok (.iload_n 1, 1) := by decide +kernel
theorem dX2_takeBid_2 : decode cX2_takeBid 2 = .ok (.putfield 18, 3) := by decide +kernel
theorem dX2_takeBid_5 : decode cX2_takeBid 5 = .ok (.aload_n 0, 1) := by decide +kernel
theorem dX2_takeBid_6 : decode cX2_takeBid 6 = .ok (.iload_n 2, 1) := by decide +kernel
theorem dX2_takeBid_7 : decode cX2_takeBid 7 = .ok (.putfield 21, 3) := by decide +kernel
theorem dX2_takeBid_10 : decode cX2_takeBid 10 = .ok (.aload_n 0, 1) := by decide +kernel
theorem dX2_takeBid_11 : decode cX2_takeBid 11 = .ok (.iload_n 3, 1) := by decide +kernel
theorem dX2_takeBid_12 : decode cX2_takeBid 12 = .ok (.putfield 24, 3) := by decide +kernel
theorem dX2_takeBid_15 : decode cX2_takeBid 15 = .ok (.aload_n 0, 1) := by decide +kernel
theorem dX2_takeBid_16 : decode cX2_takeBid 16 = .ok (.iconst 1, 1) := by decide +kernel
theorem dX2_takeBid_17 : decode cX2_takeBid 17 = .ok (.putfield 28, 3) := by decide +kernel
theorem dX2_takeBid_20 : decode cX2_takeBid 20 = .ok (.aload_n 0, 1) := by decide +kernel
theorem dX2_takeBid_21 : decode cX2_takeBid 21 = .ok (.dup, 1) := by decide +kernel
theorem dX2_takeBid_22 : decode cX2_takeBid 22 = .ok (.getfield 31, 3) := by decide +kernel
theorem dX2_takeBid_25 : decode cX2_takeBid 25 = .ok (.iconst 1, 1) := by decide +kernel
theorem dX2_takeBid_26 : decode cX2_takeBid 26 = .ok (.iadd, 1) := by decide +kernel
theorem dX2_takeBid_27 : decode cX2_takeBid 27 = .ok (.putfield 31, 3) := by decide +kernel
theorem dX2_takeBid_30 : decode cX2_takeBid 30 = .ok (.return_, 1) := by decide +kernel
theorem dX2_tellUp_0 : decode cX2_tellUp 0 = .ok (.iload_n 1, 1) := by decide +kernel
theorem dX2_tellUp_1 : decode cX2_tellUp 1 = .ok (.tableswitch 128 0 8 #[51, 56, 61, 78, 95, 100, 105, 110, 115], 51) := by decide +kernel
theorem dX2_tellUp_52 : decode cX2_tellUp 52 = .ok (.aload_n 0, 1) := by decide +kernel
theorem dX2_tellUp_53 : decode cX2_tellUp 53 = .ok (.getfield 9, 3) := by decide +kernel
theorem dX2_tellUp_56 : decode cX2_tellUp 56 = .ok (.ireturn, 1) := by decide +kernel
theorem dX2_tellUp_57 : decode cX2_tellUp 57 = .ok (.aload_n 0, 1) := by decide +kernel
theorem dX2_tellUp_58 : decode cX2_tellUp 58 = .ok (.getfield 15, 3) := by decide +kernel
theorem dX2_tellUp_61 : decode cX2_tellUp 61 = .ok (.ireturn, 1) := by decide +kernel
theorem dX2_tellUp_62 : decode cX2_tellUp 62 = .ok (.aload_n 0, 1) := by decide +kernel
theorem dX2_tellUp_63 : decode cX2_tellUp 63 = .ok (.invokevirtual 43, 3) := by decide +kernel
theorem dX2_tellUp_66 : decode cX2_tellUp 66 = .ok (.ifCond .eq 10, 3) := by decide +kernel
theorem dX2_tellUp_69 : decode cX2_tellUp 69 = .ok (.aload_n 0, 1) := by decide +kernel
theorem dX2_tellUp_70 : decode cX2_tellUp 70 = .ok (.getfield 18, 3) := by decide +kernel
theorem dX2_tellUp_73 : decode cX2_tellUp 73 = .ok (.goto 5, 3) := by decide +kernel
theorem dX2_tellUp_76 : decode cX2_tellUp 76 = .ok (.ldc 47, 2) := by decide +kernel
theorem dX2_tellUp_78 : decode cX2_tellUp 78 = .ok (.ireturn, 1) := by decide +kernel
theorem dX2_tellUp_79 : decode cX2_tellUp 79 = .ok (.aload_n 0, 1) := by decide +kernel
theorem dX2_tellUp_80 : decode cX2_tellUp 80 = .ok (.invokevirtual 43, 3) := by decide +kernel
theorem dX2_tellUp_83 : decode cX2_tellUp 83 = .ok (.ifCond .eq 10, 3) := by decide +kernel
theorem dX2_tellUp_86 : decode cX2_tellUp 86 = .ok (.aload_n 0, 1) := by decide +kernel
theorem dX2_tellUp_87 : decode cX2_tellUp 87 = .ok (.getfield 21, 3) := by decide +kernel
theorem dX2_tellUp_90 : decode cX2_tellUp 90 = .ok (.goto 5, 3) := by decide +kernel
theorem dX2_tellUp_93 : decode cX2_tellUp 93 = .ok (.ldc 47, 2) := by decide +kernel
theorem dX2_tellUp_95 : decode cX2_tellUp 95 = .ok (.ireturn, 1) := by decide +kernel
theorem dX2_tellUp_96 : decode cX2_tellUp 96 = .ok (.aload_n 0, 1) := by decide +kernel
theorem dX2_tellUp_97 : decode cX2_tellUp 97 = .ok (.getfield 34, 3) := by decide +kernel
theorem dX2_tellUp_100 : decode cX2_tellUp 100 = .ok (.ireturn, 1) := by decide +kernel
theorem dX2_tellUp_101 : decode cX2_tellUp 101 = .ok (.aload_n 0, 1) := by decide +kernel
theorem dX2_tellUp_102 : decode cX2_tellUp 102 = .ok (.getfield 37, 3) := by decide +kernel
theorem dX2_tellUp_105 : decode cX2_tellUp 105 = .ok (.ireturn, 1) := by decide +kernel
theorem dX2_tellUp_106 : decode cX2_tellUp 106 = .ok (.aload_n 0, 1) := by decide +kernel
theorem dX2_tellUp_107 : decode cX2_tellUp 107 = .ok (.invokevirtual 48, 3) := by decide +kernel
theorem dX2_tellUp_110 : decode cX2_tellUp 110 = .ok (.ireturn, 1) := by decide +kernel
theorem dX2_tellUp_111 : decode cX2_tellUp 111 = .ok (.aload_n 0, 1) := by decide +kernel
theorem dX2_tellUp_112 : decode cX2_tellUp 112 = .ok (.getfield 31, 3) := by decide +kernel
theorem dX2_tellUp_115 : decode cX2_tellUp 115 = .ok (.ireturn, 1) := by decide +kernel
theorem dX2_tellUp_116 : decode cX2_tellUp 116 = .ok (.aload_n 0, 1) := by decide +kernel
theorem dX2_tellUp_117 : decode cX2_tellUp 117 = .ok (.getfield 24, 3) := by decide +kernel
theorem dX2_tellUp_120 : decode cX2_tellUp 120 = .ok (.ifCond .eq 7, 3) := by decide +kernel
theorem dX2_tellUp_123 : decode cX2_tellUp 123 = .ok (.iconst 1, 1) := by decide +kernel
theorem dX2_tellUp_124 : decode cX2_tellUp 124 = .ok (.goto 4, 3) := by decide +kernel
theorem dX2_tellUp_127 : decode cX2_tellUp 127 = .ok (.iconst 0, 1) := by decide +kernel
theorem dX2_tellUp_128 : decode cX2_tellUp 128 = .ok (.ireturn, 1) := by decide +kernel
theorem dX2_tellUp_129 : decode cX2_tellUp 129 = .ok (.ldc 52, 2) := by decide +kernel
theorem dX2_tellUp_131 : decode cX2_tellUp 131 = .ok (.ireturn, 1) := by decide +kernel
theorem dX2_tellGone_0 : decode cX2_tellGone 0 = .ok (.iload_n 1, 1) := by decide +kernel
theorem dX2_tellGone_1 : decode cX2_tellGone 1 = .ok (.tableswitch 72 0 4 #[35, 40, 45, 62, 67], 35) := by decide +kernel
theorem dX2_tellGone_36 : decode cX2_tellGone 36 = .ok (.aload_n 0, 1) := by decide +kernel
theorem dX2_tellGone_37 : decode cX2_tellGone 37 = .ok (.getfield 40, 3) := by decide +kernel
theorem dX2_tellGone_40 : decode cX2_tellGone 40 = .ok (.ireturn, 1) := by decide +kernel
theorem dX2_tellGone_41 : decode cX2_tellGone 41 = .ok (.aload_n 0, 1) := by decide +kernel
theorem dX2_tellGone_42 : decode cX2_tellGone 42 = .ok (.getfield 18, 3) := by decide +kernel
theorem dX2_tellGone_45 : decode cX2_tellGone 45 = .ok (.ireturn, 1) := by decide +kernel
theorem dX2_tellGone_46 : decode cX2_tellGone 46 = .ok (.aload_n 0, 1) := by decide +kernel
theorem dX2_tellGone_47 : decode cX2_tellGone 47 = .ok (.invokevirtual 43, 3) := by decide +kernel
theorem dX2_tellGone_50 : decode cX2_tellGone 50 = .ok (.ifCond .eq 10, 3) := by decide +kernel
theorem dX2_tellGone_53 : decode cX2_tellGone 53 = .ok (.aload_n 0, 1) := by decide +kernel
theorem dX2_tellGone_54 : decode cX2_tellGone 54 = .ok (.getfield 21, 3) := by decide +kernel
theorem dX2_tellGone_57 : decode cX2_tellGone 57 = .ok (.goto 5, 3) := by decide +kernel
theorem dX2_tellGone_60 : decode cX2_tellGone 60 = .ok (.ldc 47, 2) := by decide +kernel
theorem dX2_tellGone_62 : decode cX2_tellGone 62 = .ok (.ireturn, 1) := by decide +kernel
theorem dX2_tellGone_63 : decode cX2_tellGone 63 = .ok (.aload_n 0, 1) := by decide +kernel
theorem dX2_tellGone_64 : decode cX2_tellGone 64 = .ok (.getfield 34, 3) := by decide +kernel
theorem dX2_tellGone_67 : decode cX2_tellGone 67 = .ok (.ireturn, 1) := by decide +kernel
theorem dX2_tellGone_68 : decode cX2_tellGone 68 = .ok (.aload_n 0, 1) := by decide +kernel
theorem dX2_tellGone_69 : decode cX2_tellGone 69 = .ok (.getfield 31, 3) := by decide +kernel
theorem dX2_tellGone_72 : decode cX2_tellGone 72 = .ok (.ireturn, 1) := by decide +kernel
theorem dX2_tellGone_73 : decode cX2_tellGone 73 = .ok (.ldc 52, 2) := by decide +kernel
theorem dX2_tellGone_75 : decode cX2_tellGone 75 = .ok (.ireturn, 1) := by decide +kernel
theorem dX3_init_0 : decode cX3_init 0 = .ok (.aload_n 0, 1) := by decide +kernel
theorem dX3_init_1 : decode cX3_init 1 = .ok (.invokespecial 3, 3) := by decide +kernel
theorem dX3_init_4 : decode cX3_init 4 = .ok (.aload_n 0, 1) := by decide +kernel
theorem dX3_init_5 : decode cX3_init 5 = .ok (.bipush 60, 2) := by decide +kernel
theorem dX3_init_7 : decode cX3_init 7 = .ok (.newarray .char, 2) := by decide +kernel
theorem dX3_init_9 : decode cX3_init 9 = .ok (.putfield 11, 3) := by decide +kernel
theorem dX3_init_12 : decode cX3_init 12 = .ok (.aload_n 0, 1) := by decide +kernel
theorem dX3_init_13 : decode cX3_init 13 = .ok (.iconst 4, 1) := by decide +kernel
theorem dX3_init_14 : decode cX3_init 14 = .ok (.newarray .int, 2) := by decide +kernel
theorem dX3_init_16 : decode cX3_init 16 = .ok (.putfield 15, 3) := by decide +kernel
theorem dX3_init_19 : decode cX3_init 19 = .ok (.aload_n 0, 1) := by decide +kernel
theorem dX3_init_20 : decode cX3_init 20 = .ok (.iconst (-1), 1) := by decide +kernel
theorem dX3_init_21 : decode cX3_init 21 = .ok (.putfield 19, 3) := by decide +kernel
theorem dX3_init_24 : decode cX3_init 24 = .ok (.return_, 1) := by decide +kernel
theorem dX3_append_0 : decode cX3_append 0 = .ok (.iload_n 1, 1) := by decide +kernel
theorem dX3_append_1 : decode cX3_append 1 = .ok (.bipush 32, 2) := by decide +kernel
theorem dX3_append_3 : decode cX3_append 3 = .ok (.bipush 126, 2) := by decide +kernel
theorem dX3_append_5 : decode cX3_append 5 = .ok (.invokestatic 23, 3) := by decide +kernel
theorem dX3_append_8 : decode cX3_append 8 = .ok (.ifCond .ne 6, 3) := by decide +kernel
theorem dX3_append_11 : decode cX3_append 11 = .ok (.ldc 27, 2) := by decide +kernel
theorem dX3_append_13 : decode cX3_append 13 = .ok (.ireturn, 1) := by decide +kernel
theorem dX3_append_14 : decode cX3_append 14 = .ok (.aload_n 0, 1) := by decide +kernel
theorem dX3_append_15 : decode cX3_append 15 = .ok (.getfield 28, 3) := by decide +kernel
theorem dX3_append_18 : decode cX3_append 18 = .ok (.aload_n 0, 1) := by decide +kernel
theorem dX3_append_19 : decode cX3_append 19 = .ok (.getfield 11, 3) := by decide +kernel
theorem dX3_append_22 : decode cX3_append 22 = .ok (.arraylength, 1) := by decide +kernel
theorem dX3_append_23 : decode cX3_append 23 = .ok (.if_icmp .lt 6, 3) := by decide +kernel
theorem dX3_append_26 : decode cX3_append 26 = .ok (.ldc 31, 2) := by decide +kernel
theorem dX3_append_28 : decode cX3_append 28 = .ok (.ireturn, 1) := by decide +kernel
theorem dX3_append_29 : decode cX3_append 29 = .ok (.aload_n 0, 1) := by decide +kernel
theorem dX3_append_30 : decode cX3_append 30 = .ok (.getfield 11, 3) := by decide +kernel
theorem dX3_append_33 : decode cX3_append 33 = .ok (.aload_n 0, 1) := by decide +kernel
theorem dX3_append_34 : decode cX3_append 34 = .ok (.getfield 28, 3) := by decide +kernel
theorem dX3_append_37 : decode cX3_append 37 = .ok (.iload_n 1, 1) := by decide +kernel
theorem dX3_append_38 : decode cX3_append 38 = .ok (.i2c, 1) := by decide +kernel
theorem dX3_append_39 : decode cX3_append 39 = .ok (.castore, 1) := by decide +kernel
theorem dX3_append_40 : decode cX3_append 40 = .ok (.aload_n 0, 1) := by decide +kernel
theorem dX3_append_41 : decode cX3_append 41 = .ok (.dup, 1) := by decide +kernel
theorem dX3_append_42 : decode cX3_append 42 = .ok (.getfield 28, 3) := by decide +kernel
theorem dX3_append_45 : decode cX3_append 45 = .ok (.iconst 1, 1) := by decide +kernel
theorem dX3_append_46 : decode cX3_append 46 = .ok (.iadd, 1) := by decide +kernel
theorem dX3_append_47 : decode cX3_append 47 = .ok (.putfield 28, 3) := by decide +kernel
theorem dX3_append_50 : decode cX3_append 50 = .ok (.aload_n 0, 1) := by decide +kernel
theorem dX3_append_51 : decode cX3_append 51 = .ok (.getfield 28, 3) := by decide +kernel
theorem dX3_append_54 : decode cX3_append 54 = .ok (.ireturn, 1) := by decide +kernel
theorem dX3_hasFault_0 : decode cX3_hasFault 0 = .ok (.aload_n 0, 1) := by decide +kernel
theorem dX3_hasFault_1 : decode cX3_hasFault 1 = .ok (.getfield 19, 3) := by decide +kernel
theorem dX3_hasFault_4 : decode cX3_hasFault 4 = .ok (.iconst (-1), 1) := by decide +kernel
theorem dX3_hasFault_5 : decode cX3_hasFault 5 = .ok (.if_icmp .eq 7, 3) := by decide +kernel
theorem dX3_hasFault_8 : decode cX3_hasFault 8 = .ok (.iconst 1, 1) := by decide +kernel
theorem dX3_hasFault_9 : decode cX3_hasFault 9 = .ok (.goto 4, 3) := by decide +kernel
theorem dX3_hasFault_12 : decode cX3_hasFault 12 = .ok (.iconst 0, 1) := by decide +kernel
theorem dX3_hasFault_13 : decode cX3_hasFault 13 = .ok (.ireturn, 1) := by decide +kernel
theorem dX3_performOn_0 : decode cX3_performOn 0 = .ok (.aload_n 0, 1) := by decide +kernel
theorem dX3_performOn_1 : decode cX3_performOn 1 = .ok (.iconst 0, 1) := by decide +kernel
theorem dX3_performOn_2 : decode cX3_performOn 2 = .ok (.putfield 32, 3) := by decide +kernel
theorem dX3_performOn_5 : decode cX3_performOn 5 = .ok (.aload_n 0, 1) := by decide +kernel
theorem dX3_performOn_6 : decode cX3_performOn 6 = .ok (.iconst 0, 1) := by decide +kernel
theorem dX3_performOn_7 : decode cX3_performOn 7 = .ok (.putfield 35, 3) := by decide +kernel
theorem dX3_performOn_10 : decode cX3_performOn 10 = .ok (.aload_n 0, 1) := by decide +kernel
theorem dX3_performOn_11 : decode cX3_performOn 11 = .ok (.iconst (-1), 1) := by decide +kernel
theorem dX3_performOn_12 : decode cX3_performOn 12 = .ok (.putfield 19, 3) := by decide +kernel
theorem dX3_performOn_15 : decode cX3_performOn 15 = .ok (.iconst 0, 1) := by decide +kernel
theorem dX3_performOn_16 : decode cX3_performOn 16 = .ok (.istore_n 2, 1) := by decide +kernel
theorem dX3_performOn_17 : decode cX3_performOn 17 = .ok (.iload_n 2, 1) := by decide +kernel
theorem dX3_performOn_18 : decode cX3_performOn 18 = .ok (.bipush 60, 2) := by decide +kernel
theorem dX3_performOn_20 : decode cX3_performOn 20 = .ok (.if_icmp .ge 90, 3) := by decide +kernel
theorem dX3_performOn_23 : decode cX3_performOn 23 = .ok (.aload_n 0, 1) := by decide +kernel
theorem dX3_performOn_24 : decode cX3_performOn 24 = .ok (.getfield 32, 3) := by decide +kernel
theorem dX3_performOn_27 : decode cX3_performOn 27 = .ok (.aload_n 0, 1) := by decide +kernel
theorem dX3_performOn_28 : decode cX3_performOn 28 = .ok (.getfield 28, 3) := by decide +kernel
theorem dX3_performOn_31 : decode cX3_performOn 31 = .ok (.if_icmp .ge 79, 3) := by decide +kernel
theorem dX3_performOn_34 : decode cX3_performOn 34 = .ok (.aload_n 0, 1) := by decide +kernel
theorem dX3_performOn_35 : decode cX3_performOn 35 = .ok (.invokevirtual 38, 3) := by decide +kernel
theorem dX3_performOn_38 : decode cX3_performOn 38 = .ok (.ifCond .ne 72, 3) := by decide +kernel
theorem dX3_performOn_41 : decode cX3_performOn 41 = .ok (.aload_n 0, 1) := by decide +kernel
theorem dX3_performOn_42 : decode cX3_performOn 42 = .ok (.getfield 32, 3) := by decide +kernel
theorem dX3_performOn_45 : decode cX3_performOn 45 = .ok (.istore_n 3, 1) := by decide +kernel
theorem dX3_performOn_46 : decode cX3_performOn 46 = .ok (.aload_n 0, 1) := by decide +kernel
theorem dX3_performOn_47 : decode cX3_performOn 47 = .ok (.invokevirtual 42, 3) := by decide +kernel
theorem dX3_performOn_50 : decode cX3_performOn 50 = .ok (.ifCond .ne 16, 3) := by decide +kernel
theorem dX3_performOn_53 : decode cX3_performOn 53 = .ok (.aload_n 0, 1) := by decide +kernel
theorem dX3_performOn_54 : decode cX3_performOn 54 = .ok (.iload_n 3, 1) := by decide +kernel
theorem dX3_performOn_55 : decode cX3_performOn 55 = .ok (.iconst 1, 1) := by decide +kernel
theorem dX3_performOn_56 : decode cX3_performOn 56 = .ok (.aload_n 0, 1) := by decide +kernel
theorem dX3_performOn_57 : decode cX3_performOn 57 = .ok (.getfield 32, 3) := by decide +kernel
theorem dX3_performOn_60 : decode cX3_performOn 60 = .ok (.iload_n 3, 1) := by decide +kernel
theorem dX3_performOn_61 : decode cX3_performOn 61 = .ok (.isub, 1) := by decide +kernel
theorem dX3_performOn_62 : decode cX3_performOn 62 = .ok (.invokevirtual 45, 3) := by decide +kernel
theorem dX3_performOn_65 : decode cX3_performOn 65 = .ok (.return_, 1) := by decide +kernel
theorem dX3_performOn_66 : decode cX3_performOn 66 = .ok (.aload_n 1, 1) := by decide +kernel
theorem dX3_performOn_67 : decode cX3_performOn 67 = .ok (.aload_n 0, 1) := by decide +kernel
theorem dX3_performOn_68 : decode cX3_performOn 68 = .ok (.getfield 49, 3) := by decide +kernel
theorem dX3_performOn_71 : decode cX3_performOn 71 = .ok (.aload_n 0, 1) := by decide +kernel
theorem dX3_performOn_72 : decode cX3_performOn 72 = .ok (.getfield 15, 3) := by decide +kernel
theorem dX3_performOn_75 : decode cX3_performOn 75 = .ok (.invokevirtual 53, 3) := by decide +kernel
theorem dX3_performOn_78 : decode cX3_performOn 78 = .ok (.istore 4, 2) := by decide +kernel
theorem dX3_performOn_80 : decode cX3_performOn 80 = .ok (.iload 4, 2) := by decide +kernel
theorem dX3_performOn_82 : decode cX3_performOn 82 = .ok (.ifCond .ge 12, 3) := by decide +kernel
theorem dX3_performOn_85 : decode cX3_performOn 85 = .ok (.aload_n 0, 1) := by decide +kernel
theorem dX3_performOn_86 : decode cX3_performOn 86 = .ok (.iload_n 3, 1) := by decide +kernel
theorem dX3_performOn_87 : decode cX3_performOn 87 = .ok (.iconst 2, 1) := by decide +kernel
theorem dX3_performOn_88 : decode cX3_performOn 88 = .ok (.iload 4, 2) := by decide +kernel
theorem dX3_performOn_90 : decode cX3_performOn 90 = .ok (.invokevirtual 45, 3) := by decide +kernel
theorem dX3_performOn_93 : decode cX3_performOn 93 = .ok (.return_, 1) := by decide +kernel
theorem dX3_performOn_94 : decode cX3_performOn 94 = .ok (.aload_n 0, 1) := by decide +kernel
theorem dX3_performOn_95 : decode cX3_performOn 95 = .ok (.dup, 1) := by decide +kernel
theorem dX3_performOn_96 : decode cX3_performOn 96 = .ok (.getfield 35, 3) := by decide +kernel
theorem dX3_performOn_99 : decode cX3_performOn 99 = .ok (.iconst 1, 1) := by decide +kernel
theorem dX3_performOn_100 : decode cX3_performOn 100 = .ok (.iadd, 1) := by decide +kernel
theorem dX3_performOn_101 : decode cX3_performOn 101 = .ok (.putfield 35, 3) := by decide +kernel
theorem dX3_performOn_104 : decode cX3_performOn 104 = .ok (.iinc 2 1, 3) := by decide +kernel
theorem dX3_performOn_107 : decode cX3_performOn 107 = .ok (.goto (-90), 3) := by decide +kernel
theorem dX3_performOn_110 : decode cX3_performOn 110 = .ok (.return_, 1) := by decide +kernel
theorem dX3_noteFault_0 : decode cX3_noteFault 0 = .ok (.aload_n 0, 1) := by decide +kernel
theorem dX3_noteFault_1 : decode cX3_noteFault 1 = .ok (.iload_n 1, 1) := by decide +kernel
theorem dX3_noteFault_2 : decode cX3_noteFault 2 = .ok (.putfield 19, 3) := by decide +kernel
theorem dX3_noteFault_5 : decode cX3_noteFault 5 = .ok (.aload_n 0, 1) := by decide +kernel
theorem dX3_noteFault_6 : decode cX3_noteFault 6 = .ok (.iload_n 2, 1) := by decide +kernel
theorem dX3_noteFault_7 : decode cX3_noteFault 7 = .ok (.putfield 59, 3) := by decide +kernel
theorem dX3_noteFault_10 : decode cX3_noteFault 10 = .ok (.aload_n 0, 1) := by decide +kernel
theorem dX3_noteFault_11 : decode cX3_noteFault 11 = .ok (.iload_n 3, 1) := by decide +kernel
theorem dX3_noteFault_12 : decode cX3_noteFault 12 = .ok (.putfield 62, 3) := by decide +kernel
theorem dX3_noteFault_15 : decode cX3_noteFault 15 = .ok (.return_, 1) := by decide +kernel
theorem dX3_numbersOf_0 : decode cX3_numbersOf 0 = .ok (.iload_n 0, 1) := by decide +kernel
theorem dX3_numbersOf_1 : decode cX3_numbersOf 1 = .ok (.tableswitch 103 98 117 #[99, 99, 103, 103, 103, 103, 103, 103, 103, 103, 97, 97, 101, 103, 95, 103, 103, 103, 103, 101], 95) := by decide +kernel
theorem dX3_numbersOf_96 : decode cX3_numbersOf 96 = .ok (.iconst 4, 1) := by decide +kernel
theorem dX3_numbersOf_97 : decode cX3_numbersOf 97 = .ok (.ireturn, 1) := by decide +kernel
theorem dX3_numbersOf_98 : decode cX3_numbersOf 98 = .ok (.iconst 2, 1) := by decide +kernel
theorem dX3_numbersOf_99 : decode cX3_numbersOf 99 = .ok (.ireturn, 1) := by decide +kernel
theorem dX3_numbersOf_100 : decode cX3_numbersOf 100 = .ok (.iconst 1, 1) := by decide +kernel
theorem dX3_numbersOf_101 : decode cX3_numbersOf 101 = .ok (.ireturn, 1) := by decide +kernel
theorem dX3_numbersOf_102 : decode cX3_numbersOf 102 = .ok (.iconst 0, 1) := by decide +kernel
theorem dX3_numbersOf_103 : decode cX3_numbersOf 103 = .ok (.ireturn, 1) := by decide +kernel
theorem dX3_numbersOf_104 : decode cX3_numbersOf 104 = .ok (.iconst (-1), 1) := by decide +kernel
theorem dX3_numbersOf_105 : decode cX3_numbersOf 105 = .ok (.ireturn, 1) := by decide +kernel
theorem dX3_readOrder_0 : decode cX3_readOrder 0 = .ok (.aload_n 0, 1) := by decide +kernel
theorem dX3_readOrder_1 : decode cX3_readOrder 1 = .ok (.aload_n 0, 1) := by decide +kernel
theorem dX3_readOrder_2 : decode cX3_readOrder 2 = .ok (.invokevirtual 65, 3) := by decide +kernel
theorem dX3_readOrder_5 : decode cX3_readOrder 5 = .ok (.putfield 49, 3) := by decide +kernel
theorem dX3_readOrder_8 : decode cX3_readOrder 8 = .ok (.aload_n 0, 1) := by decide +kernel
theorem dX3_readOrder_9 : decode cX3_readOrder 9 = .ok (.getfield 49, 3) := by decide +kernel
theorem dX3_readOrder_12 : decode cX3_readOrder 12 = .ok (.invokestatic 69, 3) := by decide +kernel
theorem dX3_readOrder_15 : decode cX3_readOrder 15 = .ok (.istore_n 1, 1) := by decide +kernel
theorem dX3_readOrder_16 : decode cX3_readOrder 16 = .ok (.iload_n 1, 1) := by decide +kernel
theorem dX3_readOrder_17 : decode cX3_readOrder 17 = .ok (.iconst (-1), 1) := by decide +kernel
theorem dX3_readOrder_18 : decode cX3_readOrder 18 = .ok (.if_icmp .ne 5, 3) := by decide +kernel
theorem dX3_readOrder_21 : decode cX3_readOrder 21 = .ok (.iconst 0, 1) := by decide +kernel
theorem dX3_readOrder_22 : decode cX3_readOrder 22 = .ok (.ireturn, 1) := by decide +kernel
theorem dX3_readOrder_23 : decode cX3_readOrder 23 = .ok (.aload_n 0, 1) := by decide +kernel
theorem dX3_readOrder_24 : decode cX3_readOrder 24 = .ok (.dup, 1) := by decide +kernel
theorem dX3_readOrder_25 : decode cX3_readOrder 25 = .ok (.getfield 32, 3) := by decide +kernel
theorem dX3_readOrder_28 : decode cX3_readOrder 28 = .ok (.iconst 1, 1) := by decide +kernel
theorem dX3_readOrder_29 : decode cX3_readOrder 29 = .ok (.iadd, 1) := by decide +kernel
theorem dX3_readOrder_30 : decode cX3_readOrder 30 = .ok (.putfield 32, 3) := by decide +kernel
theorem dX3_readOrder_33 : decode cX3_readOrder 33 = .ok (.iconst 0, 1) := by decide +kernel
theorem dX3_readOrder_34 : decode cX3_readOrder 34 = .ok (.istore_n 2, 1) := by decide +kernel
theorem dX3_readOrder_35 : decode cX3_readOrder 35 = .ok (.iload_n 2, 1) := by decide +kernel
theorem dX3_readOrder_36 : decode cX3_readOrder 36 = .ok (.iload_n 1, 1) := by decide +kernel
theorem dX3_readOrder_37 : decode cX3_readOrder 37 = .ok (.if_icmp .ge 43, 3) := by decide +kernel
theorem dX3_readOrder_40 : decode cX3_readOrder 40 = .ok (.iload_n 2, 1) := by decide +kernel
theorem dX3_readOrder_41 : decode cX3_readOrder 41 = .ok (.aload_n 0, 1) := by decide +kernel
theorem dX3_readOrder_42 : decode cX3_readOrder 42 = .ok (.getfield 15, 3) := by decide +kernel
theorem dX3_readOrder_45 : decode cX3_readOrder 45 = .ok (.arraylength, 1) := by decide +kernel
theorem dX3_readOrder_46 : decode cX3_readOrder 46 = .ok (.if_icmp .ge 34, 3) := by decide +kernel
theorem dX3_readOrder_49 : decode cX3_readOrder 49 = .ok (.iload_n 2, 1) := by decide +kernel
theorem dX3_readOrder_50 : decode cX3_readOrder 50 = .ok (.ifCond .le 14, 3) := by decide +kernel
theorem dX3_readOrder_53 : decode cX3_readOrder 53 = .ok (.aload_n 0, 1) := by decide +kernel
theorem dX3_readOrder_54 : decode cX3_readOrder 54 = .ok (.bipush 44, 2) := by decide +kernel
theorem dX3_readOrder_56 : decode cX3_readOrder 56 = .ok (.invokevirtual 73, 3) := by decide +kernel
theorem dX3_readOrder_59 : decode cX3_readOrder 59 = .ok (.ifCond .ne 5, 3) := by decide +kernel
theorem dX3_readOrder_62 : decode cX3_readOrder 62 = .ok (.iconst 0, 1) := by decide +kernel
theorem dX3_readOrder_63 : decode cX3_readOrder 63 = .ok (.ireturn, 1) := by decide +kernel
theorem dX3_readOrder_64 : decode cX3_readOrder 64 = .ok (.aload_n 0, 1) := by decide +kernel
theorem dX3_readOrder_65 : decode cX3_readOrder 65 = .ok (.iload_n 2, 1) := by decide +kernel
theorem dX3_readOrder_66 : decode cX3_readOrder 66 = .ok (.invokevirtual 77, 3) := by decide +kernel
theorem dX3_readOrder_69 : decode cX3_readOrder 69 = .ok (.ifCond .ne 5, 3) := by decide +kernel
theorem dX3_readOrder_72 : decode cX3_readOrder 72 = .ok (.iconst 0, 1) := by decide +kernel
theorem dX3_readOrder_73 : decode cX3_readOrder 73 = .ok (.ireturn, 1) := by decide +kernel
theorem dX3_readOrder_74 : decode cX3_readOrder 74 = .ok (.iinc 2 1, 3) := by decide +kernel
theorem dX3_readOrder_77 : decode cX3_readOrder 77 = .ok (.goto (-42), 3) := by decide +kernel
theorem dX3_readOrder_80 : decode cX3_readOrder 80 = .ok (.aload_n 0, 1) := by decide +kernel
theorem dX3_readOrder_81 : decode cX3_readOrder 81 = .ok (.bipush 59, 2) := by decide +kernel
theorem dX3_readOrder_83 : decode cX3_readOrder 83 = .ok (.invokevirtual 73, 3) := by decide +kernel
theorem dX3_readOrder_86 : decode cX3_readOrder 86 = .ok (.ireturn, 1) := by decide +kernel
theorem dX3_next_0 : decode cX3_next 0 = .ok (.aload_n 0, 1) := by decide +kernel
theorem dX3_next_1 : decode cX3_next 1 = .ok (.getfield 32, 3) := by decide +kernel
theorem dX3_next_4 : decode cX3_next 4 = .ok (.ifCond .lt 26, 3) := by decide +kernel
theorem dX3_next_7 : decode cX3_next 7 = .ok (.aload_n 0, 1) := by decide +kernel
theorem dX3_next_8 : decode cX3_next 8 = .ok (.getfield 32, 3) := by decide +kernel
theorem dX3_next_11 : decode cX3_next 11 = .ok (.aload_n 0, 1) := by decide +kernel
theorem dX3_next_12 : decode cX3_next 12 = .ok (.getfield 28, 3) := by decide +kernel
theorem dX3_next_15 : decode cX3_next 15 = .ok (.if_icmp .ge 15, 3) := by decide +kernel
theorem dX3_next_18 : decode cX3_next 18 = .ok (.aload_n 0, 1) := by decide +kernel
theorem dX3_next_19 : decode cX3_next 19 = .ok (.getfield 11, 3) := by decide +kernel
theorem dX3_next_22 : decode cX3_next 22 = .ok (.aload_n 0, 1) := by decide +kernel
theorem dX3_next_23 : decode cX3_next 23 = .ok (.getfield 32, 3) := by decide +kernel
theorem dX3_next_26 : decode cX3_next 26 = .ok (.caload, 1) := by decide +kernel
theorem dX3_next_27 : decode cX3_next 27 = .ok (.goto 4, 3) := by decide +kernel
theorem dX3_next_30 : decode cX3_next 30 = .ok (.iconst 0, 1) := by decide +kernel
theorem dX3_next_31 : decode cX3_next 31 = .ok (.ireturn, 1) := by decide +kernel
theorem dX3_readCharacter_0 : decode cX3_readCharacter 0 = .ok (.aload_n 0, 1) := by decide +kernel
theorem dX3_readCharacter_1 : decode cX3_readCharacter 1 = .ok (.invokevirtual 65, 3) := by decide +kernel
theorem dX3_readCharacter_4 : decode cX3_readCharacter 4 = .ok (.iload_n 1, 1) := by decide +kernel
theorem dX3_readCharacter_5 : decode cX3_readCharacter 5 = .ok (.if_icmp .eq 5, 3) := by decide +kernel
theorem dX3_readCharacter_8 : decode cX3_readCharacter 8 = .ok (.iconst 0, 1) := by decide +kernel
theorem dX3_readCharacter_9 : decode cX3_readCharacter 9 = .ok (.ireturn, 1) := by decide +kernel
theorem dX3_readCharacter_10 : decode cX3_readCharacter 10 = .ok (.aload_n 0, 1) := by decide +kernel
theorem dX3_readCharacter_11 : decode cX3_readCharacter 11 = .ok (.dup, 1) := by decide +kernel
theorem dX3_readCharacter_12 : decode cX3_readCharacter 12 = .ok (.getfield 32, 3) := by decide +kernel
theorem dX3_readCharacter_15 : decode cX3_readCharacter 15 = .ok (.iconst 1, 1) := by decide +kernel
theorem dX3_readCharacter_16 : decode cX3_readCharacter 16 = .ok (.iadd, 1) := by decide +kernel
theorem dX3_readCharacter_17 : decode cX3_readCharacter 17 = .ok (.putfield 32, 3) := by decide +kernel
theorem dX3_readCharacter_20 : decode cX3_readCharacter 20 = .ok (.iconst 1, 1) := by decide +kernel
theorem dX3_readCharacter_21 : decode cX3_readCharacter 21 = .ok (.ireturn, 1) := by decide +kernel
theorem dX3_readNumber_0 : decode cX3_readNumber 0 = .ok (.iconst 0, 1) := by decide +kernel
theorem dX3_readNumber_1 : decode cX3_readNumber 1 = .ok (.istore_n 2, 1) := by decide +kernel
theorem dX3_readNumber_2 : decode cX3_readNumber 2 = .ok (.iconst 0, 1) := by decide +kernel
theorem dX3_readNumber_3 : decode cX3_readNumber 3 = .ok (.istore_n 3, 1) := by decide +kernel
theorem dX3_readNumber_4 : decode cX3_readNumber 4 = .ok (.iload_n 3, 1) := by decide +kernel
theorem dX3_readNumber_5 : decode cX3_readNumber 5 = .ok (.iconst 3, 1) := by decide +kernel
theorem dX3_readNumber_6 : decode cX3_readNumber 6 = .ok (.if_icmp .ge 46, 3) := by decide +kernel
theorem dX3_readNumber_9 : decode cX3_readNumber 9 = .ok (.aload_n 0, 1) := by decide +kernel
theorem dX3_readNumber_10 : decode cX3_readNumber 10 = .ok (.invokevirtual 65, 3) := by decide +kernel
theorem dX3_readNumber_13 : decode cX3_readNumber 13 = .ok (.bipush 48, 2) := by decide +kernel
theorem dX3_readNumber_15 : decode cX3_readNumber 15 = .ok (.bipush 57, 2) := by decide +kernel
theorem dX3_readNumber_17 : decode cX3_readNumber 17 = .ok (.invokestatic 23, 3) := by decide +kernel
theorem dX3_readNumber_20 : decode cX3_readNumber 20 = .ok (.ifCond .eq 32, 3) := by decide +kernel
theorem dX3_readNumber_23 : decode cX3_readNumber 23 = .ok (.iload_n 2, 1) := by decide +kernel
theorem dX3_readNumber_24 : decode cX3_readNumber 24 = .ok (.bipush 10, 2) := by decide +kernel
theorem dX3_readNumber_26 : decode cX3_readNumber 26 = .ok (.imul, 1) := by decide +kernel
theorem dX3_readNumber_27 : decode cX3_readNumber 27 = .ok (.aload_n 0, 1) := by decide +kernel
theorem dX3_readNumber_28 : decode cX3_readNumber 28 = .ok (.invokevirtual 65, 3) := by decide +kernel
theorem dX3_readNumber_31 : decode cX3_readNumber 31 = .ok (.bipush 48, 2) := by decide +kernel
theorem dX3_readNumber_33 : decode cX3_readNumber 33 = .ok (.isub, 1) := by decide +kernel
theorem dX3_readNumber_34 : decode cX3_readNumber 34 = .ok (.iadd, 1) := by decide +kernel
theorem dX3_readNumber_35 : decode cX3_readNumber 35 = .ok (.istore_n 2, 1) := by decide +kernel
theorem dX3_readNumber_36 : decode cX3_readNumber 36 = .ok (.aload_n 0, 1) := by decide +kernel
theorem dX3_readNumber_37 : decode cX3_readNumber 37 = .ok (.dup, 1) := by decide +kernel
theorem dX3_readNumber_38 : decode cX3_readNumber 38 = .ok (.getfield 32, 3) := by decide +kernel
theorem dX3_readNumber_41 : decode cX3_readNumber 41 = .ok (.iconst 1, 1) := by decide +kernel
theorem dX3_readNumber_42 : decode cX3_readNumber 42 = .ok (.iadd, 1) := by decide +kernel
theorem dX3_readNumber_43 : decode cX3_readNumber 43 = .ok (.putfield 32, 3) := by decide +kernel
theorem dX3_readNumber_46 : decode cX3_readNumber 46 = .ok (.iinc 3 1, 3) := by decide +kernel
theorem dX3_readNumber_49 : decode cX3_readNumber 49 = .ok (.goto (-45), 3) := by decide +kernel
theorem dX3_readNumber_52 : decode cX3_readNumber 52 = .ok (.aload_n 0, 1) := by decide +kernel
theorem dX3_readNumber_53 : decode cX3_readNumber 53 = .ok (.getfield 15, 3) := by decide +kernel
theorem dX3_readNumber_56 : decode cX3_readNumber 56 = .ok (.iload_n 1, 1) := by decide +kernel
theorem dX3_readNumber_57 : decode cX3_readNumber 57 = .ok (.iload_n 2, 1) := by decide +kernel
theorem dX3_readNumber_58 : decode cX3_readNumber 58 = .ok (.iastore, 1) := by decide +kernel
theorem dX3_readNumber_59 : decode cX3_readNumber 59 = .ok (.iload_n 3, 1) := by decide +kernel
theorem dX3_readNumber_60 : decode cX3_readNumber 60 = .ok (.ifCond .le 7, 3) := by decide +kernel
theorem dX3_readNumber_63 : decode cX3_readNumber 63 = .ok (.iconst 1, 1) := by decide +kernel
theorem dX3_readNumber_64 : decode cX3_readNumber 64 = .ok (.goto 4, 3) := by decide +kernel
theorem dX3_readNumber_67 : decode cX3_readNumber 67 = .ok (.iconst 0, 1) := by decide +kernel
theorem dX3_readNumber_68 : decode cX3_readNumber 68 = .ok (.ireturn, 1) := by decide +kernel
theorem dX4_init_0 : decode cX4_init 0 = .ok (.aload_n 0, 1) := by decide +kernel
theorem dX4_init_1 : decode cX4_init 1 = .ok (.invokespecial 1, 3) := by decide +kernel
theorem dX4_init_4 : decode cX4_init 4 = .ok (.aload_n 0, 1) := by decide +kernel
theorem dX4_init_5 : decode cX4_init 5 = .ok (.iconst 4, 1) := by decide +kernel
theorem dX4_init_6 : decode cX4_init 6 = .ok (.anewarray 9, 3) := by decide +kernel
theorem dX4_init_9 : decode cX4_init 9 = .ok (.putfield 11, 3) := by decide +kernel
theorem dX4_init_12 : decode cX4_init 12 = .ok (.iconst 0, 1) := by decide +kernel
theorem dX4_init_13 : decode cX4_init 13 = .ok (.istore_n 1, 1) := by decide +kernel
theorem dX4_init_14 : decode cX4_init 14 = .ok (.iload_n 1, 1) := by decide +kernel
theorem dX4_init_15 : decode cX4_init 15 = .ok (.aload_n 0, 1) := by decide +kernel
theorem dX4_init_16 : decode cX4_init 16 = .ok (.getfield 11, 3) := by decide +kernel
theorem dX4_init_19 : decode cX4_init 19 = .ok (.arraylength, 1) := by decide +kernel
theorem dX4_init_20 : decode cX4_init 20 = .ok (.if_icmp .ge 22, 3) := by decide +kernel
theorem dX4_init_23 : decode cX4_init 23 = .ok (.aload_n 0, 1) := by decide +kernel
theorem dX4_init_24 : decode cX4_init 24 = .ok (.getfield 11, 3) := by decide +kernel
theorem dX4_init_27 : decode cX4_init 27 = .ok (.iload_n 1, 1) := by decide +kernel
theorem dX4_init_28 : decode cX4_init 28 = .ok (.new 9, 3) := by decide +kernel
theorem dX4_init_31 : decode cX4_init 31 = .ok (.dup, 1) := by decide +kernel
theorem dX4_init_32 : decode cX4_init 32 = .ok (.invokespecial 15, 3) := by decide +kernel
theorem dX4_init_35 : decode cX4_init 35 = .ok (.aastore, 1) := by decide +kernel
theorem dX4_init_36 : decode cX4_init 36 = .ok (.iinc 1 1, 3) := by decide +kernel
theorem dX4_init_39 : decode cX4_init 39 = .ok (.goto (-25), 3) := by decide +kernel
theorem dX4_init_42 : decode cX4_init 42 = .ok (.aload_n 0, 1) := by decide +kernel
theorem dX4_init_43 : decode cX4_init 43 = .ok (.new 16, 3) := by decide +kernel
theorem dX4_init_46 : decode cX4_init 46 = .ok (.dup, 1) := by decide +kernel
theorem dX4_init_47 : decode cX4_init 47 = .ok (.invokespecial 18, 3) := by decide +kernel
theorem dX4_init_50 : decode cX4_init 50 = .ok (.putfield 19, 3) := by decide +kernel
theorem dX4_init_53 : decode cX4_init 53 = .ok (.aload_n 0, 1) := by decide +kernel
theorem dX4_init_54 : decode cX4_init 54 = .ok (.iconst 0, 1) := by decide +kernel
theorem dX4_init_55 : decode cX4_init 55 = .ok (.putfield 23, 3) := by decide +kernel
theorem dX4_init_58 : decode cX4_init 58 = .ok (.aload_n 0, 1) := by decide +kernel
theorem dX4_init_59 : decode cX4_init 59 = .ok (.new 9, 3) := by decide +kernel
theorem dX4_init_62 : decode cX4_init 62 = .ok (.dup, 1) := by decide +kernel
theorem dX4_init_63 : decode cX4_init 63 = .ok (.invokespecial 15, 3) := by decide +kernel
theorem dX4_init_66 : decode cX4_init 66 = .ok (.putfield 27, 3) := by decide +kernel
theorem dX4_init_69 : decode cX4_init 69 = .ok (.aload_n 0, 1) := by decide +kernel
theorem dX4_init_70 : decode cX4_init 70 = .ok (.new 9, 3) := by decide +kernel
theorem dX4_init_73 : decode cX4_init 73 = .ok (.dup, 1) := by decide +kernel
theorem dX4_init_74 : decode cX4_init 74 = .ok (.invokespecial 15, 3) := by decide +kernel
theorem dX4_init_77 : decode cX4_init 77 = .ok (.putfield 31, 3) := by decide +kernel
theorem dX4_init_80 : decode cX4_init 80 = .ok (.return_, 1) := by decide +kernel
theorem dX4_bidder_0 : decode cX4_bidder 0 = .ok (.aload_n 0, 1) := by decide +kernel
theorem dX4_bidder_1 : decode cX4_bidder 1 = .ok (.getfield 31, 3) := by decide +kernel
theorem dX4_bidder_4 : decode cX4_bidder 4 = .ok (.aload_n 0, 1) := by decide +kernel
theorem dX4_bidder_5 : decode cX4_bidder 5 = .ok (.getfield 27, 3) := by decide +kernel
theorem dX4_bidder_8 : decode cX4_bidder 8 = .ok (.invokevirtual 34, 3) := by decide +kernel
theorem dX4_bidder_11 : decode cX4_bidder 11 = .ok (.aload_n 0, 1) := by decide +kernel
theorem dX4_bidder_12 : decode cX4_bidder 12 = .ok (.aload_n 0, 1) := by decide +kernel
theorem dX4_bidder_13 : decode cX4_bidder 13 = .ok (.getfield 31, 3) := by decide +kernel
theorem dX4_bidder_16 : decode cX4_bidder 16 = .ok (.iload_n 1, 1) := by decide +kernel
theorem dX4_bidder_17 : decode cX4_bidder 17 = .ok (.iload_n 2, 1) := by decide +kernel
theorem dX4_bidder_18 : decode cX4_bidder 18 = .ok (.iload_n 3, 1) := by decide +kernel
theorem dX4_bidder_19 : decode cX4_bidder 19 = .ok (.iload 4, 2) := by decide +kernel
theorem dX4_bidder_21 : decode cX4_bidder 21 = .ok (.invokevirtual 38, 3) := by decide +kernel
theorem dX4_bidder_24 : decode cX4_bidder 24 = .ok (.invokevirtual 42, 3) := by decide +kernel
theorem dX4_bidder_27 : decode cX4_bidder 27 = .ok (.ireturn, 1) := by decide +kernel
theorem dX4_catches_0 : decode cX4_catches 0 = .ok (.aload_n 0, 1) := by decide +kernel
theorem dX4_catches_1 : decode cX4_catches 1 = .ok (.getfield 31, 3) := by decide +kernel
theorem dX4_catches_4 : decode cX4_catches 4 = .ok (.aload_n 0, 1) := by decide +kernel
theorem dX4_catches_5 : decode cX4_catches 5 = .ok (.getfield 27, 3) := by decide +kernel
theorem dX4_catches_8 : decode cX4_catches 8 = .ok (.invokevirtual 34, 3) := by decide +kernel
theorem dX4_catches_11 : decode cX4_catches 11 = .ok (.aload_n 0, 1) := by decide +kernel
theorem dX4_catches_12 : decode cX4_catches 12 = .ok (.aload_n 0, 1) := by decide +kernel
theorem dX4_catches_13 : decode cX4_catches 13 = .ok (.getfield 31, 3) := by decide +kernel
theorem dX4_catches_16 : decode cX4_catches 16 = .ok (.iload_n 1, 1) := by decide +kernel
theorem dX4_catches_17 : decode cX4_catches 17 = .ok (.iload_n 2, 1) := by decide +kernel
theorem dX4_catches_18 : decode cX4_catches 18 = .ok (.invokevirtual 46, 3) := by decide +kernel
theorem dX4_catches_21 : decode cX4_catches 21 = .ok (.invokevirtual 42, 3) := by decide +kernel
theorem dX4_catches_24 : decode cX4_catches 24 = .ok (.ireturn, 1) := by decide +kernel
theorem dX4_muffle_0 : decode cX4_muffle 0 = .ok (.aload_n 0, 1) := by decide +kernel
theorem dX4_muffle_1 : decode cX4_muffle 1 = .ok (.getfield 31, 3) := by decide +kernel
theorem dX4_muffle_4 : decode cX4_muffle 4 = .ok (.aload_n 0, 1) := by decide +kernel
theorem dX4_muffle_5 : decode cX4_muffle 5 = .ok (.getfield 27, 3) := by decide +kernel
theorem dX4_muffle_8 : decode cX4_muffle 8 = .ok (.invokevirtual 34, 3) := by decide +kernel
theorem dX4_muffle_11 : decode cX4_muffle 11 = .ok (.aload_n 0, 1) := by decide +kernel
theorem dX4_muffle_12 : decode cX4_muffle 12 = .ok (.aload_n 0, 1) := by decide +kernel
theorem dX4_muffle_13 : decode cX4_muffle 13 = .ok (.getfield 31, 3) := by decide +kernel
theorem dX4_muffle_16 : decode cX4_muffle 16 = .ok (.iload_n 1, 1) := by decide +kernel
theorem dX4_muffle_17 : decode cX4_muffle 17 = .ok (.iload_n 2, 1) := by decide +kernel
theorem dX4_muffle_18 : decode cX4_muffle 18 = .ok (.invokevirtual 50, 3) := by decide +kernel
theorem dX4_muffle_21 : decode cX4_muffle 21 = .ok (.invokevirtual 42, 3) := by decide +kernel
theorem dX4_muffle_24 : decode cX4_muffle 24 = .ok (.ireturn, 1) := by decide +kernel
theorem dX4_lot_0 : decode cX4_lot 0 = .ok (.aload_n 0, 1) := by decide +kernel
theorem dX4_lot_1 : decode cX4_lot 1 = .ok (.getfield 31, 3) := by decide +kernel
theorem dX4_lot_4 : decode cX4_lot 4 = .ok (.aload_n 0, 1) := by decide +kernel
theorem dX4_lot_5 : decode cX4_lot 5 = .ok (.getfield 27, 3) := by decide +kernel
theorem dX4_lot_8 : decode cX4_lot 8 = .ok (.invokevirtual 34, 3) := by decide +kernel
theorem dX4_lot_11 : decode cX4_lot 11 = .ok (.aload_n 0, 1) := by decide +kernel
theorem dX4_lot_12 : decode cX4_lot 12 = .ok (.aload_n 0, 1) := by decide +kernel
theorem dX4_lot_13 : decode cX4_lot 13 = .ok (.getfield 31, 3) := by decide +kernel
theorem dX4_lot_16 : decode cX4_lot 16 = .ok (.iload_n 1, 1) := by decide +kernel
theorem dX4_lot_17 : decode cX4_lot 17 = .ok (.iload_n 2, 1) := by decide +kernel
theorem dX4_lot_18 : decode cX4_lot 18 = .ok (.invokevirtual 53, 3) := by decide +kernel
theorem dX4_lot_21 : decode cX4_lot 21 = .ok (.invokevirtual 42, 3) := by decide +kernel
theorem dX4_lot_24 : decode cX4_lot 24 = .ok (.ireturn, 1) := by decide +kernel
theorem dX4_putUp_0 : decode cX4_putUp 0 = .ok (.aload_n 0, 1) := by decide +kernel
theorem dX4_putUp_1 : decode cX4_putUp 1 = .ok (.getfield 31, 3) := by decide +kernel
theorem dX4_putUp_4 : decode cX4_putUp 4 = .ok (.aload_n 0, 1) := by decide +kernel
theorem dX4_putUp_5 : decode cX4_putUp 5 = .ok (.getfield 27, 3) := by decide +kernel
theorem dX4_putUp_8 : decode cX4_putUp 8 = .ok (.invokevirtual 34, 3) := by decide +kernel
theorem dX4_putUp_11 : decode cX4_putUp 11 = .ok (.aload_n 0, 1) := by decide +kernel
theorem dX4_putUp_12 : decode cX4_putUp 12 = .ok (.aload_n 0, 1) := by decide +kernel
theorem dX4_putUp_13 : decode cX4_putUp 13 = .ok (.getfield 31, 3) := by decide +kernel
theorem dX4_putUp_16 : decode cX4_putUp 16 = .ok (.invokevirtual 56, 3) := by decide +kernel
theorem dX4_putUp_19 : decode cX4_putUp 19 = .ok (.invokevirtual 42, 3) := by decide +kernel
theorem dX4_putUp_22 : decode cX4_putUp 22 = .ok (.ireturn, 1) := by decide +kernel
theorem dX4_cough_0 : decode cX4_cough 0 = .ok (.aload_n 0, 1) := by decide +kernel
theorem dX4_cough_1 : decode cX4_cough 1 = .ok (.getfield 31, 3) := by decide +kernel
theorem dX4_cough_4 : decode cX4_cough 4 = .ok (.aload_n 0, 1) := by decide +kernel
theorem dX4_cough_5 : decode cX4_cough 5 = .ok (.getfield 27, 3) := by decide +kernel
theorem dX4_cough_8 : decode cX4_cough 8 = .ok (.invokevirtual 34, 3) := by decide +kernel
theorem dX4_cough_11 : decode cX4_cough 11 = .ok (.aload_n 0, 1) := by decide +kernel
theorem dX4_cough_12 : decode cX4_cough 12 = .ok (.aload_n 0, 1) := by decide +kernel
theorem dX4_cough_13 : decode cX4_cough 13 = .ok (.getfield 31, 3) := by decide +kernel
theorem dX4_cough_16 : decode cX4_cough 16 = .ok (.iload_n 1, 1) := by decide +kernel
theorem dX4_cough_17 : decode cX4_cough 17 = .ok (.iconst 0, 1) := by decide +kernel
theorem dX4_cough_18 : decode cX4_cough 18 = .ok (.invokevirtual 60, 3) := by decide +kernel
theorem dX4_cough_21 : decode cX4_cough 21 = .ok (.invokevirtual 42, 3) := by decide +kernel
theorem dX4_cough_24 : decode cX4_cough 24 = .ok (.ireturn, 1) := by decide +kernel
theorem dX4_beats_0 : decode cX4_beats 0 = .ok (.aload_n 0, 1) := by decide +kernel
theorem dX4_beats_1 : decode cX4_beats 1 = .ok (.getfield 31, 3) := by decide +kernel
theorem dX4_beats_4 : decode cX4_beats 4 = .ok (.aload_n 0, 1) := by decide +kernel
theorem dX4_beats_5 : decode cX4_beats 5 = .ok (.getfield 27, 3) := by decide +kernel
theorem dX4_beats_8 : decode cX4_beats 8 = .ok (.invokevirtual 34, 3) := by decide +kernel
theorem dX4_beats_11 : decode cX4_beats 11 = .ok (.aload_n 0, 1) := by decide +kernel
theorem dX4_beats_12 : decode cX4_beats 12 = .ok (.aload_n 0, 1) := by decide +kernel
theorem dX4_beats_13 : decode cX4_beats 13 = .ok (.getfield 31, 3) := by decide +kernel
theorem dX4_beats_16 : decode cX4_beats 16 = .ok (.iload_n 1, 1) := by decide +kernel
theorem dX4_beats_17 : decode cX4_beats 17 = .ok (.invokevirtual 64, 3) := by decide +kernel
theorem dX4_beats_20 : decode cX4_beats 20 = .ok (.invokevirtual 42, 3) := by decide +kernel
theorem dX4_beats_23 : decode cX4_beats 23 = .ok (.ireturn, 1) := by decide +kernel
theorem dX4_night_0 : decode cX4_night 0 = .ok (.aload_n 0, 1) := by decide +kernel
theorem dX4_night_1 : decode cX4_night 1 = .ok (.getfield 31, 3) := by decide +kernel
theorem dX4_night_4 : decode cX4_night 4 = .ok (.aload_n 0, 1) := by decide +kernel
theorem dX4_night_5 : decode cX4_night 5 = .ok (.getfield 27, 3) := by decide +kernel
theorem dX4_night_8 : decode cX4_night 8 = .ok (.invokevirtual 34, 3) := by decide +kernel
theorem dX4_night_11 : decode cX4_night 11 = .ok (.aload_n 0, 1) := by decide +kernel
theorem dX4_night_12 : decode cX4_night 12 = .ok (.aload_n 0, 1) := by decide +kernel
theorem dX4_night_13 : decode cX4_night 13 = .ok (.getfield 31, 3) := by decide +kernel
theorem dX4_night_16 : decode cX4_night 16 = .ok (.invokevirtual 67, 3) := by decide +kernel
theorem dX4_night_19 : decode cX4_night 19 = .ok (.invokevirtual 42, 3) := by decide +kernel
theorem dX4_night_22 : decode cX4_night 22 = .ok (.ireturn, 1) := by decide +kernel
theorem dX4_set_0 : decode cX4_set 0 = .ok (.aload_n 0, 1) := by decide +kernel
theorem dX4_set_1 : decode cX4_set 1 = .ok (.getfield 31, 3) := by decide +kernel
theorem dX4_set_4 : decode cX4_set 4 = .ok (.aload_n 0, 1) := by decide +kernel
theorem dX4_set_5 : decode cX4_set 5 = .ok (.getfield 27, 3) := by decide +kernel
theorem dX4_set_8 : decode cX4_set 8 = .ok (.invokevirtual 34, 3) := by decide +kernel
theorem dX4_set_11 : decode cX4_set 11 = .ok (.aload_n 0, 1) := by decide +kernel
theorem dX4_set_12 : decode cX4_set 12 = .ok (.aload_n 0, 1) := by decide +kernel
theorem dX4_set_13 : decode cX4_set 13 = .ok (.getfield 31, 3) := by decide +kernel
theorem dX4_set_16 : decode cX4_set 16 = .ok (.iload_n 1, 1) := by decide +kernel
theorem dX4_set_17 : decode cX4_set 17 = .ok (.iload_n 2, 1) := by decide +kernel
theorem dX4_set_18 : decode cX4_set 18 = .ok (.invokevirtual 70, 3) := by decide +kernel
theorem dX4_set_21 : decode cX4_set 21 = .ok (.invokevirtual 42, 3) := by decide +kernel
theorem dX4_set_24 : decode cX4_set 24 = .ok (.ireturn, 1) := by decide +kernel
theorem dX4_bidderOf_0 : decode cX4_bidderOf 0 = .ok (.aload_n 0, 1) := by decide +kernel
theorem dX4_bidderOf_1 : decode cX4_bidderOf 1 = .ok (.getfield 27, 3) := by decide +kernel
theorem dX4_bidderOf_4 : decode cX4_bidderOf 4 = .ok (.iload_n 1, 1) := by decide +kernel
theorem dX4_bidderOf_5 : decode cX4_bidderOf 5 = .ok (.invokevirtual 73, 3) := by decide +kernel
theorem dX4_bidderOf_8 : decode cX4_bidderOf 8 = .ok (.ifCond .ne 6, 3) := by decide +kernel
theorem dX4_bidderOf_11 : decode cX4_bidderOf 11 = .ok (.ldc 77, 2) := by decide +kernel
theorem dX4_bidderOf_13 : decode cX4_bidderOf 13 = .ok (.ireturn, 1) := by decide +kernel
theorem dX4_bidderOf_14 : decode cX4_bidderOf 14 = .ok (.aload_n 0, 1) := by decide +kernel
theorem dX4_bidderOf_15 : decode cX4_bidderOf 15 = .ok (.getfield 27, 3) := by decide +kernel
theorem dX4_bidderOf_18 : decode cX4_bidderOf 18 = .ok (.getfield 78, 3) := by decide +kernel
theorem dX4_bidderOf_21 : decode cX4_bidderOf 21 = .ok (.iload_n 1, 1) := by decide +kernel
theorem dX4_bidderOf_22 : decode cX4_bidderOf 22 = .ok (.aaload, 1) := by decide +kernel
theorem dX4_bidderOf_23 : decode cX4_bidderOf 23 = .ok (.iload_n 2, 1) := by decide +kernel
theorem dX4_bidderOf_24 : decode cX4_bidderOf 24 = .ok (.invokevirtual 82, 3) := by decide +kernel
theorem dX4_bidderOf_27 : decode cX4_bidderOf 27 = .ok (.ireturn, 1) := by decide +kernel
theorem dX4_at_0 : decode cX4_at 0 = .ok (.iload_n 1, 1) := by decide +kernel
theorem dX4_at_1 : decode cX4_at 1 = .ok (.iload_n 2, 1) := by decide +kernel
theorem dX4_at_2 : decode cX4_at 2 = .ok (.invokestatic 87, 3) := by decide +kernel
theorem dX4_at_5 : decode cX4_at 5 = .ok (.ifCond .ne 6, 3) := by decide +kernel
theorem dX4_at_8 : decode cX4_at 8 = .ok (.ldc 77, 2) := by decide +kernel
theorem dX4_at_10 : decode cX4_at 10 = .ok (.ireturn, 1) := by decide +kernel
theorem dX4_at_11 : decode cX4_at 11 = .ok (.aload_n 0, 1) := by decide +kernel
theorem dX4_at_12 : decode cX4_at 12 = .ok (.getfield 27, 3) := by decide +kernel
theorem dX4_at_15 : decode cX4_at 15 = .ok (.iload_n 1, 1) := by decide +kernel
theorem dX4_at_16 : decode cX4_at 16 = .ok (.iload_n 2, 1) := by decide +kernel
theorem dX4_at_17 : decode cX4_at 17 = .ok (.invokevirtual 91, 3) := by decide +kernel
theorem dX4_at_20 : decode cX4_at 20 = .ok (.ireturn, 1) := by decide +kernel
theorem dX4_up_0 : decode cX4_up 0 = .ok (.iload_n 1, 1) := by decide +kernel
theorem dX4_up_1 : decode cX4_up 1 = .ok (.iconst 0, 1) := by decide +kernel
theorem dX4_up_2 : decode cX4_up 2 = .ok (.bipush 8, 2) := by decide +kernel
theorem dX4_up_4 : decode cX4_up 4 = .ok (.invokestatic 94, 3) := by decide +kernel
theorem dX4_up_7 : decode cX4_up 7 = .ok (.ifCond .ne 6, 3) := by decide +kernel
theorem dX4_up_10 : decode cX4_up 10 = .ok (.ldc 77, 2) := by decide +kernel
theorem dX4_up_12 : decode cX4_up 12 = .ok (.ireturn, 1) := by decide +kernel
theorem dX4_up_13 : decode cX4_up 13 = .ok (.aload_n 0, 1) := by decide +kernel
theorem dX4_up_14 : decode cX4_up 14 = .ok (.getfield 27, 3) := by decide +kernel
theorem dX4_up_17 : decode cX4_up 17 = .ok (.getfield 98, 3) := by decide +kernel
theorem dX4_up_20 : decode cX4_up 20 = .ok (.ifCond .ne 6, 3) := by decide +kernel
theorem dX4_up_23 : decode cX4_up 23 = .ok (.ldc 102, 2) := by decide +kernel
theorem dX4_up_25 : decode cX4_up 25 = .ok (.ireturn, 1) := by decide +kernel
theorem dX4_up_26 : decode cX4_up 26 = .ok (.aload_n 0, 1) := by decide +kernel
theorem dX4_up_27 : decode cX4_up 27 = .ok (.getfield 27, 3) := by decide +kernel
theorem dX4_up_30 : decode cX4_up 30 = .ok (.getfield 103, 3) := by decide +kernel
theorem dX4_up_33 : decode cX4_up 33 = .ok (.iload_n 1, 1) := by decide +kernel
theorem dX4_up_34 : decode cX4_up 34 = .ok (.invokevirtual 107, 3) := by decide +kernel
theorem dX4_up_37 : decode cX4_up 37 = .ok (.ireturn, 1) := by decide +kernel
theorem dX4_waiting_0 : decode cX4_waiting 0 = .ok (.iload_n 1, 1) := by decide +kernel
theorem dX4_waiting_1 : decode cX4_waiting 1 = .ok (.ifCond .lt 12, 3) := by decide +kernel
theorem dX4_waiting_4 : decode cX4_waiting 4 = .ok (.iload_n 2, 1) := by decide +kernel
theorem dX4_waiting_5 : decode cX4_waiting 5 = .ok (.iconst 0, 1) := by decide +kernel
theorem dX4_waiting_6 : decode cX4_waiting 6 = .ok (.iconst 1, 1) := by decide +kernel
theorem dX4_waiting_7 : decode cX4_waiting 7 = .ok (.invokestatic 94, 3) := by decide +kernel
theorem dX4_waiting_10 : decode cX4_waiting 10 = .ok (.ifCond .ne 6, 3) := by decide +kernel
theorem dX4_waiting_13 : decode cX4_waiting 13 = .ok (.ldc 77, 2) := by decide +kernel
theorem dX4_waiting_15 : decode cX4_waiting 15 = .ok (.ireturn, 1) := by decide +kernel
theorem dX4_waiting_16 : decode cX4_waiting 16 = .ok (.iload_n 1, 1) := by decide +kernel
theorem dX4_waiting_17 : decode cX4_waiting 17 = .ok (.aload_n 0, 1) := by decide +kernel
theorem dX4_waiting_18 : decode cX4_waiting 18 = .ok (.getfield 27, 3) := by decide +kernel
theorem dX4_waiting_21 : decode cX4_waiting 21 = .ok (.getfield 112, 3) := by decide +kernel
theorem dX4_waiting_24 : decode cX4_waiting 24 = .ok (.if_icmp .lt 6, 3) := by decide +kernel
theorem dX4_waiting_27 : decode cX4_waiting 27 = .ok (.ldc 115, 2) := by decide +kernel
theorem dX4_waiting_29 : decode cX4_waiting 29 = .ok (.ireturn, 1) := by decide +kernel
theorem dX4_waiting_30 : decode cX4_waiting 30 = .ok (.aload_n 0, 1) := by decide +kernel
theorem dX4_waiting_31 : decode cX4_waiting 31 = .ok (.getfield 27, 3) := by decide +kernel
theorem dX4_waiting_34 : decode cX4_waiting 34 = .ok (.getfield 116, 3) := by decide +kernel
theorem dX4_waiting_37 : decode cX4_waiting 37 = .ok (.iload_n 1, 1) := by decide +kernel
theorem dX4_waiting_38 : decode cX4_waiting 38 = .ok (.aaload, 1) := by decide +kernel
theorem dX4_waiting_39 : decode cX4_waiting 39 = .ok (.astore_n 3, 1) := by decide +kernel
theorem dX4_waiting_40 : decode cX4_waiting 40 = .ok (.iload_n 2, 1) := by decide +kernel
theorem dX4_waiting_41 : decode cX4_waiting 41 = .ok (.ifCond .ne 10, 3) := by decide +kernel
theorem dX4_waiting_44 : decode cX4_waiting 44 = .ok (.aload_n 3, 1) := by decide +kernel
theorem dX4_waiting_45 : decode cX4_waiting 45 = .ok (.getfield 120, 3) := by decide +kernel
theorem dX4_waiting_48 : decode cX4_waiting 48 = .ok (.goto 7, 3) := by decide +kernel
theorem dX4_waiting_51 : decode cX4_waiting 51 = .ok (.aload_n 3, 1) := by decide +kernel
theorem dX4_waiting_52 : decode cX4_waiting 52 = .ok (.getfield 123, 3) := by decide +kernel
theorem dX4_waiting_55 : decode cX4_waiting 55 = .ok (.ireturn, 1) := by decide +kernel
theorem dX4_book_0 : decode cX4_book 0 = .ok (.iload_n 1, 1) := by decide +kernel
theorem dX4_book_1 : decode cX4_book 1 = .ok (.ifCond .lt 12, 3) := by decide +kernel
theorem dX4_book_4 : decode cX4_book 4 = .ok (.iload_n 2, 1) := by decide +kernel
theorem dX4_book_5 : decode cX4_book 5 = .ok (.iconst 0, 1) := by decide +kernel
theorem dX4_book_6 : decode cX4_book 6 = .ok (.iconst 4, 1) := by decide +kernel
theorem dX4_book_7 : decode cX4_book 7 = .ok (.invokestatic 94, 3) := by decide +kernel
theorem dX4_book_10 : decode cX4_book 10 = .ok (.ifCond .ne 6, 3) := by decide +kernel
theorem dX4_book_13 : decode cX4_book 13 = .ok (.ldc 77, 2) := by decide +kernel
theorem dX4_book_15 : decode cX4_book 15 = .ok (.ireturn, 1) := by decide +kernel
theorem dX4_book_16 : decode cX4_book 16 = .ok (.iload_n 1, 1) := by decide +kernel
theorem dX4_book_17 : decode cX4_book 17 = .ok (.aload_n 0, 1) := by decide +kernel
theorem dX4_book_18 : decode cX4_book 18 = .ok (.getfield 27, 3) := by decide +kernel
theorem dX4_book_21 : decode cX4_book 21 = .ok (.getfield 126, 3) := by decide +kernel
theorem dX4_book_24 : decode cX4_book 24 = .ok (.if_icmp .lt 6, 3) := by decide +kernel
theorem dX4_book_27 : decode cX4_book 27 = .ok (.ldc 115, 2) := by decide +kernel
theorem dX4_book_29 : decode cX4_book 29 = .ok (.ireturn, 1) := by decide +kernel
theorem dX4_book_30 : decode cX4_book 30 = .ok (.aload_n 0, 1) := by decide +kernel
theorem dX4_book_31 : decode cX4_book 31 = .ok (.getfield 27, 3) := by decide +kernel
theorem dX4_book_34 : decode cX4_book 34 = .ok (.getfield 129, 3) := by decide +kernel
theorem dX4_book_37 : decode cX4_book 37 = .ok (.iload_n 1, 1) := by decide +kernel
theorem dX4_book_38 : decode cX4_book 38 = .ok (.aaload, 1) := by decide +kernel
theorem dX4_book_39 : decode cX4_book 39 = .ok (.iload_n 2, 1) := by decide +kernel
theorem dX4_book_40 : decode cX4_book 40 = .ok (.invokevirtual 132, 3) := by decide +kernel
theorem dX4_book_43 : decode cX4_book 43 = .ok (.ireturn, 1) := by decide +kernel
theorem dX4_why_0 : decode cX4_why 0 = .ok (.aload_n 0, 1) := by decide +kernel
theorem dX4_why_1 : decode cX4_why 1 = .ok (.getfield 27, 3) := by decide +kernel
theorem dX4_why_4 : decode cX4_why 4 = .ok (.iload_n 1, 1) := by decide +kernel
theorem dX4_why_5 : decode cX4_why 5 = .ok (.invokevirtual 73, 3) := by decide +kernel
theorem dX4_why_8 : decode cX4_why 8 = .ok (.ifCond .ne 6, 3) := by decide +kernel
theorem dX4_why_11 : decode cX4_why 11 = .ok (.ldc 77, 2) := by decide +kernel
theorem dX4_why_13 : decode cX4_why 13 = .ok (.ireturn, 1) := by decide +kernel
theorem dX4_why_14 : decode cX4_why 14 = .ok (.aload_n 0, 1) := by decide +kernel
theorem dX4_why_15 : decode cX4_why 15 = .ok (.getfield 27, 3) := by decide +kernel
theorem dX4_why_18 : decode cX4_why 18 = .ok (.iload_n 1, 1) := by decide +kernel
theorem dX4_why_19 : decode cX4_why 19 = .ok (.invokevirtual 135, 3) := by decide +kernel
theorem dX4_why_22 : decode cX4_why 22 = .ok (.ireturn, 1) := by decide +kernel
theorem dX4_ifBeats_0 : decode cX4_ifBeats 0 = .ok (.iload_n 1, 1) := by decide +kernel
theorem dX4_ifBeats_1 : decode cX4_ifBeats 1 = .ok (.iconst 1, 1) := by decide +kernel
theorem dX4_ifBeats_2 : decode cX4_ifBeats 2 = .ok (.bipush 50, 2) := by decide +kernel
theorem dX4_ifBeats_4 : decode cX4_ifBeats 4 = .ok (.invokestatic 94, 3) := by decide +kernel
theorem dX4_ifBeats_7 : decode cX4_ifBeats 7 = .ok (.ifCond .eq 12, 3) := by decide +kernel
theorem dX4_ifBeats_10 : decode cX4_ifBeats 10 = .ok (.iload_n 2, 1) := by decide +kernel
theorem dX4_ifBeats_11 : decode cX4_ifBeats 11 = .ok (.iconst 0, 1) := by decide +kernel
theorem dX4_ifBeats_12 : decode cX4_ifBeats 12 = .ok (.iconst 3, 1) := by decide +kernel
theorem dX4_ifBeats_13 : decode cX4_ifBeats 13 = .ok (.invokestatic 94, 3) := by decide +kernel
theorem dX4_ifBeats_16 : decode cX4_ifBeats 16 = .ok (.ifCond .ne 6, 3) := by decide +kernel
theorem dX4_ifBeats_19 : decode cX4_ifBeats 19 = .ok (.ldc 77, 2) := by decide +kernel
theorem dX4_ifBeats_21 : decode cX4_ifBeats 21 = .ok (.ireturn, 1) := by decide +kernel
theorem dX4_ifBeats_22 : decode cX4_ifBeats 22 = .ok (.aload_n 0, 1) := by decide +kernel
theorem dX4_ifBeats_23 : decode cX4_ifBeats 23 = .ok (.getfield 31, 3) := by decide +kernel
theorem dX4_ifBeats_26 : decode cX4_ifBeats 26 = .ok (.aload_n 0, 1) := by decide +kernel
theorem dX4_ifBeats_27 : decode cX4_ifBeats 27 = .ok (.getfield 27, 3) := by decide +kernel
theorem dX4_ifBeats_30 : decode cX4_ifBeats 30 = .ok (.invokevirtual 34, 3) := by decide +kernel
theorem dX4_ifBeats_33 : decode cX4_ifBeats 33 = .ok (.iconst 0, 1) := by decide +kernel
theorem dX4_ifBeats_34 : decode cX4_ifBeats 34 = .ok (.istore_n 3, 1) := by decide +kernel
theorem dX4_ifBeats_35 : decode cX4_ifBeats 35 = .ok (.iload_n 3, 1) := by decide +kernel
theorem dX4_ifBeats_36 : decode cX4_ifBeats 36 = .ok (.iload_n 1, 1) := by decide +kernel
theorem dX4_ifBeats_37 : decode cX4_ifBeats 37 = .ok (.if_icmp .ge 16, 3) := by decide +kernel
theorem dX4_ifBeats_40 : decode cX4_ifBeats 40 = .ok (.aload_n 0, 1) := by decide +kernel
theorem dX4_ifBeats_41 : decode cX4_ifBeats 41 = .ok (.getfield 31, 3) := by decide +kernel
theorem dX4_ifBeats_44 : decode cX4_ifBeats 44 = .ok (.invokevirtual 138, 3) := by decide +kernel
theorem dX4_ifBeats_47 : decode cX4_ifBeats 47 = .ok (.iinc 3 1, 3) := by decide +kernel
theorem dX4_ifBeats_50 : decode cX4_ifBeats 50 = .ok (.goto (-15), 3) := by decide +kernel
theorem dX4_ifBeats_53 : decode cX4_ifBeats 53 = .ok (.iload_n 2, 1) := by decide +kernel
theorem dX4_ifBeats_54 : decode cX4_ifBeats 54 = .ok (.tableswitch 78 0 2 #[26, 42, 58], 26) := by decide +kernel
theorem dX4_ifBeats_80 : decode cX4_ifBeats 80 = .ok (.aload_n 0, 1) := by decide +kernel
theorem dX4_ifBeats_81 : decode cX4_ifBeats 81 = .ok (.getfield 31, 3) := by decide +kernel
theorem dX4_ifBeats_84 : decode cX4_ifBeats 84 = .ok (.getfield 141, 3) := by decide +kernel
theorem dX4_ifBeats_87 : decode cX4_ifBeats 87 = .ok (.aload_n 0, 1) := by decide +kernel
theorem dX4_ifBeats_88 : decode cX4_ifBeats 88 = .ok (.getfield 27, 3) := by decide +kernel
theorem dX4_ifBeats_91 : decode cX4_ifBeats 91 = .ok (.getfield 141, 3) := by decide +kernel
theorem dX4_ifBeats_94 : decode cX4_ifBeats 94 = .ok (.isub, 1) := by decide +kernel
theorem dX4_ifBeats_95 : decode cX4_ifBeats 95 = .ok (.ireturn, 1) := by decide +kernel
theorem dX4_ifBeats_96 : decode cX4_ifBeats 96 = .ok (.aload_n 0, 1) := by decide +kernel
theorem dX4_ifBeats_97 : decode cX4_ifBeats 97 = .ok (.getfield 31, 3) := by decide +kernel
theorem dX4_ifBeats_100 : decode cX4_ifBeats 100 = .ok (.getfield 144, 3) := by decide +kernel
theorem dX4_ifBeats_103 : decode cX4_ifBeats 103 = .ok (.aload_n 0, 1) := by decide +kernel
theorem dX4_ifBeats_104 : decode cX4_ifBeats 104 = .ok (.getfield 27, 3) := by decide +kernel
theorem dX4_ifBeats_107 : decode cX4_ifBeats 107 = .ok (.getfield 144, 3) := by decide +kernel
theorem dX4_ifBeats_110 : decode cX4_ifBeats 110 = .ok (.isub, 1) := by decide +kernel
theorem dX4_ifBeats_111 : decode cX4_ifBeats 111 = .ok (.ireturn, 1) := by decide +kernel
theorem dX4_ifBeats_112 : decode cX4_ifBeats 112 = .ok (.aload_n 0, 1) := by decide +kernel
theorem dX4_ifBeats_113 : decode cX4_ifBeats 113 = .ok (.getfield 31, 3) := by decide +kernel
theorem dX4_ifBeats_116 : decode cX4_ifBeats 116 = .ok (.getfield 147, 3) := by decide +kernel
theorem dX4_ifBeats_119 : decode cX4_ifBeats 119 = .ok (.iconst 0, 1) := by decide +kernel
theorem dX4_ifBeats_120 : decode cX4_ifBeats 120 = .ok (.iaload, 1) := by decide +kernel
theorem dX4_ifBeats_121 : decode cX4_ifBeats 121 = .ok (.aload_n 0, 1) := by decide +kernel
theorem dX4_ifBeats_122 : decode cX4_ifBeats 122 = .ok (.getfield 27, 3) := by decide +kernel
theorem dX4_ifBeats_125 : decode cX4_ifBeats 125 = .ok (.getfield 147, 3) := by decide +kernel
theorem dX4_ifBeats_128 : decode cX4_ifBeats 128 = .ok (.iconst 0, 1) := by decide +kernel
theorem dX4_ifBeats_129 : decode cX4_ifBeats 129 = .ok (.iaload, 1) := by decide +kernel
theorem dX4_ifBeats_130 : decode cX4_ifBeats 130 = .ok (.isub, 1) := by decide +kernel
theorem dX4_ifBeats_131 : decode cX4_ifBeats 131 = .ok (.ireturn, 1) := by decide +kernel
theorem dX4_ifBeats_132 : decode cX4_ifBeats 132 = .ok (.aload_n 0, 1) := by decide +kernel
theorem dX4_ifBeats_133 : decode cX4_ifBeats 133 = .ok (.getfield 31, 3) := by decide +kernel
theorem dX4_ifBeats_136 : decode cX4_ifBeats 136 = .ok (.getfield 151, 3) := by decide +kernel
theorem dX4_ifBeats_139 : decode cX4_ifBeats 139 = .ok (.aload_n 0, 1) := by decide +kernel
theorem dX4_ifBeats_140 : decode cX4_ifBeats 140 = .ok (.getfield 27, 3) := by decide +kernel
theorem dX4_ifBeats_143 : decode cX4_ifBeats 143 = .ok (.getfield 151, 3) := by decide +kernel
theorem dX4_ifBeats_146 : decode cX4_ifBeats 146 = .ok (.isub, 1) := by decide +kernel
theorem dX4_ifBeats_147 : decode cX4_ifBeats 147 = .ok (.ireturn, 1) := by decide +kernel
theorem dX4_goneIn_0 : decode cX4_goneIn 0 = .ok (.aload_n 0, 1) := by decide +kernel
theorem dX4_goneIn_1 : decode cX4_goneIn 1 = .ok (.getfield 27, 3) := by decide +kernel
theorem dX4_goneIn_4 : decode cX4_goneIn 4 = .ok (.getfield 98, 3) := by decide +kernel
theorem dX4_goneIn_7 : decode cX4_goneIn 7 = .ok (.ifCond .ne 6, 3) := by decide +kernel
theorem dX4_goneIn_10 : decode cX4_goneIn 10 = .ok (.ldc 102, 2) := by decide +kernel
theorem dX4_goneIn_12 : decode cX4_goneIn 12 = .ok (.ireturn, 1) := by decide +kernel
theorem dX4_goneIn_13 : decode cX4_goneIn 13 = .ok (.aload_n 0, 1) := by decide +kernel
theorem dX4_goneIn_14 : decode cX4_goneIn 14 = .ok (.getfield 31, 3) := by decide +kernel
theorem dX4_goneIn_17 : decode cX4_goneIn 17 = .ok (.aload_n 0, 1) := by decide +kernel
theorem dX4_goneIn_18 : decode cX4_goneIn 18 = .ok (.getfield 27, 3) := by decide +kernel
theorem dX4_goneIn_21 : decode cX4_goneIn 21 = .ok (.invokevirtual 34, 3) := by decide +kernel
theorem dX4_goneIn_24 : decode cX4_goneIn 24 = .ok (.iconst 1, 1) := by decide +kernel
theorem dX4_goneIn_25 : decode cX4_goneIn 25 = .ok (.istore_n 1, 1) := by decide +kernel
theorem dX4_goneIn_26 : decode cX4_goneIn 26 = .ok (.iload_n 1, 1) := by decide +kernel
theorem dX4_goneIn_27 : decode cX4_goneIn 27 = .ok (.sipush 200, 3) := by decide +kernel
theorem dX4_goneIn_30 : decode cX4_goneIn 30 = .ok (.if_icmp .gt 28, 3) := by decide +kernel
theorem dX4_goneIn_33 : decode cX4_goneIn 33 = .ok (.aload_n 0, 1) := by decide +kernel
theorem dX4_goneIn_34 : decode cX4_goneIn 34 = .ok (.getfield 31, 3) := by decide +kernel
theorem dX4_goneIn_37 : decode cX4_goneIn 37 = .ok (.invokevirtual 138, 3) := by decide +kernel
theorem dX4_goneIn_40 : decode cX4_goneIn 40 = .ok (.aload_n 0, 1) := by decide +kernel
theorem dX4_goneIn_41 : decode cX4_goneIn 41 = .ok (.getfield 31, 3) := by decide +kernel
theorem dX4_goneIn_44 : decode cX4_goneIn 44 = .ok (.getfield 98, 3) := by decide +kernel
theorem dX4_goneIn_47 : decode cX4_goneIn 47 = .ok (.ifCond .ne 5, 3) := by decide +kernel
theorem dX4_goneIn_50 : decode cX4_goneIn 50 = .ok (.iload_n 1, 1) := by decide +kernel
theorem dX4_goneIn_51 : decode cX4_goneIn 51 = .ok (.ireturn, 1) := by decide +kernel
theorem dX4_goneIn_52 : decode cX4_goneIn 52 = .ok (.iinc 1 1, 3) := by decide +kernel
theorem dX4_goneIn_55 : decode cX4_goneIn 55 = .ok (.goto (-29), 3) := by decide +kernel
theorem dX4_goneIn_58 : decode cX4_goneIn 58 = .ok (.ldc 115, 2) := by decide +kernel
theorem dX4_goneIn_60 : decode cX4_goneIn 60 = .ok (.ireturn, 1) := by decide +kernel
theorem dX4_coughing_0 : decode cX4_coughing 0 = .ok (.iconst 0, 1) := by decide +kernel
theorem dX4_coughing_1 : decode cX4_coughing 1 = .ok (.istore_n 1, 1) := by decide +kernel
theorem dX4_coughing_2 : decode cX4_coughing 2 = .ok (.iconst 0, 1) := by decide +kernel
theorem dX4_coughing_3 : decode cX4_coughing 3 = .ok (.istore_n 2, 1) := by decide +kernel
theorem dX4_coughing_4 : decode cX4_coughing 4 = .ok (.iload_n 2, 1) := by decide +kernel
theorem dX4_coughing_5 : decode cX4_coughing 5 = .ok (.aload_n 0, 1) := by decide +kernel
theorem dX4_coughing_6 : decode cX4_coughing 6 = .ok (.getfield 27, 3) := by decide +kernel
theorem dX4_coughing_9 : decode cX4_coughing 9 = .ok (.getfield 154, 3) := by decide +kernel
theorem dX4_coughing_12 : decode cX4_coughing 12 = .ok (.if_icmp .ge 26, 3) := by decide +kernel
theorem dX4_coughing_15 : decode cX4_coughing 15 = .ok (.aload_n 0, 1) := by decide +kernel
theorem dX4_coughing_16 : decode cX4_coughing 16 = .ok (.getfield 27, 3) := by decide +kernel
theorem dX4_coughing_19 : decode cX4_coughing 19 = .ok (.iload_n 2, 1) := by decide +kernel
theorem dX4_coughing_20 : decode cX4_coughing 20 = .ok (.invokevirtual 157, 3) := by decide +kernel
theorem dX4_coughing_23 : decode cX4_coughing 23 = .ok (.ifCond .eq 9, 3) := by decide +kernel
theorem dX4_coughing_26 : decode cX4_coughing 26 = .ok (.iload_n 1, 1) := by decide +kernel
theorem dX4_coughing_27 : decode cX4_coughing 27 = .ok (.iconst 1, 1) := by decide +kernel
theorem dX4_coughing_28 : decode cX4_coughing 28 = .ok (.iload_n 2, 1) := by decide +kernel
theorem dX4_coughing_29 : decode cX4_coughing 29 = .ok (.ishl, 1) := by decide +kernel
theorem dX4_coughing_30 : decode cX4_coughing 30 = .ok (.ior, 1) := by decide +kernel
theorem dX4_coughing_31 : decode cX4_coughing 31 = .ok (.istore_n 1, 1) := by decide +kernel
theorem dX4_coughing_32 : decode cX4_coughing 32 = .ok (.iinc 2 1, 3) := by decide +kernel
theorem dX4_coughing_35 : decode cX4_coughing 35 = .ok (.goto (-31), 3) := by decide +kernel
theorem dX4_coughing_38 : decode cX4_coughing 38 = .ok (.iload_n 1, 1) := by decide +kernel
theorem dX4_coughing_39 : decode cX4_coughing 39 = .ok (.ireturn, 1) := by decide +kernel
theorem dX4_loudest_0 : decode cX4_loudest 0 = .ok (.ldc 115, 2) := by decide +kernel
theorem dX4_loudest_2 : decode cX4_loudest 2 = .ok (.istore_n 1, 1) := by decide +kernel
theorem dX4_loudest_3 : decode cX4_loudest 3 = .ok (.iconst 0, 1) := by decide +kernel
theorem dX4_loudest_4 : decode cX4_loudest 4 = .ok (.istore_n 2, 1) := by decide +kernel
theorem dX4_loudest_5 : decode cX4_loudest 5 = .ok (.iconst 0, 1) := by decide +kernel
theorem dX4_loudest_6 : decode cX4_loudest 6 = .ok (.istore_n 3, 1) := by decide +kernel
theorem dX4_loudest_7 : decode cX4_loudest 7 = .ok (.iload_n 3, 1) := by decide +kernel
theorem dX4_loudest_8 : decode cX4_loudest 8 = .ok (.aload_n 0, 1) := by decide +kernel
theorem dX4_loudest_9 : decode cX4_loudest 9 = .ok (.getfield 27, 3) := by decide +kernel
theorem dX4_loudest_12 : decode cX4_loudest 12 = .ok (.getfield 154, 3) := by decide +kernel
theorem dX4_loudest_15 : decode cX4_loudest 15 = .ok (.if_icmp .ge 40, 3) := by decide +kernel
theorem dX4_loudest_18 : decode cX4_loudest 18 = .ok (.aload_n 0, 1) := by decide +kernel
theorem dX4_loudest_19 : decode cX4_loudest 19 = .ok (.getfield 27, 3) := by decide +kernel
theorem dX4_loudest_22 : decode cX4_loudest 22 = .ok (.getfield 78, 3) := by decide +kernel
theorem dX4_loudest_25 : decode cX4_loudest 25 = .ok (.iload_n 3, 1) := by decide +kernel
theorem dX4_loudest_26 : decode cX4_loudest 26 = .ok (.aaload, 1) := by decide +kernel
theorem dX4_loudest_27 : decode cX4_loudest 27 = .ok (.invokevirtual 160, 3) := by decide +kernel
theorem dX4_loudest_30 : decode cX4_loudest 30 = .ok (.istore 4, 2) := by decide +kernel
theorem dX4_loudest_32 : decode cX4_loudest 32 = .ok (.iload_n 1, 1) := by decide +kernel
theorem dX4_loudest_33 : decode cX4_loudest 33 = .ok (.ldc 115, 2) := by decide +kernel
theorem dX4_loudest_35 : decode cX4_loudest 35 = .ok (.if_icmp .eq 9, 3) := by decide +kernel
theorem dX4_loudest_38 : decode cX4_loudest 38 = .ok (.iload 4, 2) := by decide +kernel
theorem dX4_loudest_40 : decode cX4_loudest 40 = .ok (.iload_n 2, 1) := by decide +kernel
theorem dX4_loudest_41 : decode cX4_loudest 41 = .ok (.if_icmp .le 8, 3) := by decide +kernel
theorem dX4_loudest_44 : decode cX4_loudest 44 = .ok (.iload_n 3, 1) := by decide +kernel
theorem dX4_loudest_45 : decode cX4_loudest 45 = .ok (.istore_n 1, 1) := by decide +kernel
theorem dX4_loudest_46 : decode cX4_loudest 46 = .ok (.iload 4, 2) := by decide +kernel
theorem dX4_loudest_48 : decode cX4_loudest 48 = .ok (.istore_n 2, 1) := by decide +kernel
theorem dX4_loudest_49 : decode cX4_loudest 49 = .ok (.iinc 3 1, 3) := by decide +kernel
theorem dX4_loudest_52 : decode cX4_loudest 52 = .ok (.goto (-45), 3) := by decide +kernel
theorem dX4_loudest_55 : decode cX4_loudest 55 = .ok (.iload_n 1, 1) := by decide +kernel
theorem dX4_loudest_56 : decode cX4_loudest 56 = .ok (.ireturn, 1) := by decide +kernel
theorem dX4_ifNights_0 : decode cX4_ifNights 0 = .ok (.iload_n 1, 1) := by decide +kernel
theorem dX4_ifNights_1 : decode cX4_ifNights 1 = .ok (.iconst 1, 1) := by decide +kernel
theorem dX4_ifNights_2 : decode cX4_ifNights 2 = .ok (.bipush 20, 2) := by decide +kernel
theorem dX4_ifNights_4 : decode cX4_ifNights 4 = .ok (.invokestatic 94, 3) := by decide +kernel
theorem dX4_ifNights_7 : decode cX4_ifNights 7 = .ok (.ifCond .ne 6, 3) := by decide +kernel
theorem dX4_ifNights_10 : decode cX4_ifNights 10 = .ok (.ldc 77, 2) := by decide +kernel
theorem dX4_ifNights_12 : decode cX4_ifNights 12 = .ok (.ireturn, 1) := by decide +kernel
theorem dX4_ifNights_13 : decode cX4_ifNights 13 = .ok (.aload_n 0, 1) := by decide +kernel
theorem dX4_ifNights_14 : decode cX4_ifNights 14 = .ok (.getfield 31, 3) := by decide +kernel
theorem dX4_ifNights_17 : decode cX4_ifNights 17 = .ok (.aload_n 0, 1) := by decide +kernel
theorem dX4_ifNights_18 : decode cX4_ifNights 18 = .ok (.getfield 27, 3) := by decide +kernel
theorem dX4_ifNights_21 : decode cX4_ifNights 21 = .ok (.invokevirtual 34, 3) := by decide +kernel
theorem dX4_ifNights_24 : decode cX4_ifNights 24 = .ok (.iconst 0, 1) := by decide +kernel
theorem dX4_ifNights_25 : decode cX4_ifNights 25 = .ok (.istore_n 2, 1) := by decide +kernel
theorem dX4_ifNights_26 : decode cX4_ifNights 26 = .ok (.iload_n 2, 1) := by decide +kernel
theorem dX4_ifNights_27 : decode cX4_ifNights 27 = .ok (.iload_n 1, 1) := by decide +kernel
theorem dX4_ifNights_28 : decode cX4_ifNights 28 = .ok (.if_icmp .ge 16, 3) := by decide +kernel
theorem dX4_ifNights_31 : decode cX4_ifNights 31 = .ok (.aload_n 0, 1) := by decide +kernel
theorem dX4_ifNights_32 : decode cX4_ifNights 32 = .ok (.getfield 31, 3) := by decide +kernel
theorem dX4_ifNights_35 : decode cX4_ifNights 35 = .ok (.invokevirtual 163, 3) := by decide +kernel
theorem dX4_ifNights_38 : decode cX4_ifNights 38 = .ok (.iinc 2 1, 3) := by decide +kernel
theorem dX4_ifNights_41 : decode cX4_ifNights 41 = .ok (.goto (-15), 3) := by decide +kernel
theorem dX4_ifNights_44 : decode cX4_ifNights 44 = .ok (.aload_n 0, 1) := by decide +kernel
theorem dX4_ifNights_45 : decode cX4_ifNights 45 = .ok (.getfield 31, 3) := by decide +kernel
theorem dX4_ifNights_48 : decode cX4_ifNights 48 = .ok (.invokevirtual 166, 3) := by decide +kernel
theorem dX4_ifNights_51 : decode cX4_ifNights 51 = .ok (.invokestatic 169, 3) := by decide +kernel
theorem dX4_ifNights_54 : decode cX4_ifNights 54 = .ok (.ireturn, 1) := by decide +kernel
theorem dX4_mean_0 : decode cX4_mean 0 = .ok (.aload_n 0, 1) := by decide +kernel
theorem dX4_mean_1 : decode cX4_mean 1 = .ok (.getfield 27, 3) := by decide +kernel
theorem dX4_mean_4 : decode cX4_mean 4 = .ok (.getfield 147, 3) := by decide +kernel
theorem dX4_mean_7 : decode cX4_mean 7 = .ok (.iconst 0, 1) := by decide +kernel
theorem dX4_mean_8 : decode cX4_mean 8 = .ok (.iaload, 1) := by decide +kernel
theorem dX4_mean_9 : decode cX4_mean 9 = .ok (.istore_n 1, 1) := by decide +kernel
theorem dX4_mean_10 : decode cX4_mean 10 = .ok (.iload_n 1, 1) := by decide +kernel
theorem dX4_mean_11 : decode cX4_mean 11 = .ok (.ifCond .ne 6, 3) := by decide +kernel
theorem dX4_mean_14 : decode cX4_mean 14 = .ok (.ldc 115, 2) := by decide +kernel
theorem dX4_mean_16 : decode cX4_mean 16 = .ok (.ireturn, 1) := by decide +kernel
theorem dX4_mean_17 : decode cX4_mean 17 = .ok (.aload_n 0, 1) := by decide +kernel
theorem dX4_mean_18 : decode cX4_mean 18 = .ok (.getfield 27, 3) := by decide +kernel
theorem dX4_mean_21 : decode cX4_mean 21 = .ok (.getfield 151, 3) := by decide +kernel
theorem dX4_mean_24 : decode cX4_mean 24 = .ok (.i2f, 1) := by decide +kernel
theorem dX4_mean_25 : decode cX4_mean 25 = .ok (.iload_n 1, 1) := by decide +kernel
theorem dX4_mean_26 : decode cX4_mean 26 = .ok (.i2f, 1) := by decide +kernel
theorem dX4_mean_27 : decode cX4_mean 27 = .ok (.fdiv, 1) := by decide +kernel
theorem dX4_mean_28 : decode cX4_mean 28 = .ok (.invokestatic 174, 3) := by decide +kernel
theorem dX4_mean_31 : decode cX4_mean 31 = .ok (.ireturn, 1) := by decide +kernel
theorem dX4_count_0 : decode cX4_count 0 = .ok (.iload_n 1, 1) := by decide +kernel
theorem dX4_count_1 : decode cX4_count 1 = .ok (.lookupswitch 40 #[(16, 27), (17, 32)], 27) := by decide +kernel
theorem dX4_count_28 : decode cX4_count 28 = .ok (.aload_n 0, 1) := by decide +kernel
theorem dX4_count_29 : decode cX4_count 29 = .ok (.getfield 23, 3) := by decide +kernel
theorem dX4_count_32 : decode cX4_count 32 = .ok (.ireturn, 1) := by decide +kernel
theorem dX4_count_33 : decode cX4_count 33 = .ok (.aload_n 0, 1) := by decide +kernel
theorem dX4_count_34 : decode cX4_count 34 = .ok (.getfield 19, 3) := by decide +kernel
theorem dX4_count_37 : decode cX4_count 37 = .ok (.getfield 178, 3) := by decide +kernel
theorem dX4_count_40 : decode cX4_count 40 = .ok (.ireturn, 1) := by decide +kernel
theorem dX4_count_41 : decode cX4_count 41 = .ok (.aload_n 0, 1) := by decide +kernel
theorem dX4_count_42 : decode cX4_count 42 = .ok (.getfield 27, 3) := by decide +kernel
theorem dX4_count_45 : decode cX4_count 45 = .ok (.iload_n 1, 1) := by decide +kernel
theorem dX4_count_46 : decode cX4_count 46 = .ok (.invokevirtual 181, 3) := by decide +kernel
theorem dX4_count_49 : decode cX4_count 49 = .ok (.ireturn, 1) := by decide +kernel
theorem dX4_undo_0 : decode cX4_undo 0 = .ok (.aload_n 0, 1) := by decide +kernel
theorem dX4_undo_1 : decode cX4_undo 1 = .ok (.getfield 23, 3) := by decide +kernel
theorem dX4_undo_4 : decode cX4_undo 4 = .ok (.ifCond .ne 6, 3) := by decide +kernel
theorem dX4_undo_7 : decode cX4_undo 7 = .ok (.ldc 102, 2) := by decide +kernel
theorem dX4_undo_9 : decode cX4_undo 9 = .ok (.ireturn, 1) := by decide +kernel
theorem dX4_undo_10 : decode cX4_undo 10 = .ok (.aload_n 0, 1) := by decide +kernel
theorem dX4_undo_11 : decode cX4_undo 11 = .ok (.dup, 1) := by decide +kernel
theorem dX4_undo_12 : decode cX4_undo 12 = .ok (.getfield 23, 3) := by decide +kernel
theorem dX4_undo_15 : decode cX4_undo 15 = .ok (.iconst 1, 1) := by decide +kernel
theorem dX4_undo_16 : decode cX4_undo 16 = .ok (.isub, 1) := by decide +kernel
theorem dX4_undo_17 : decode cX4_undo 17 = .ok (.putfield 23, 3) := by decide +kernel
theorem dX4_undo_20 : decode cX4_undo 20 = .ok (.aload_n 0, 1) := by decide +kernel
theorem dX4_undo_21 : decode cX4_undo 21 = .ok (.getfield 11, 3) := by decide +kernel
theorem dX4_undo_24 : decode cX4_undo 24 = .ok (.aload_n 0, 1) := by decide +kernel
theorem dX4_undo_25 : decode cX4_undo 25 = .ok (.getfield 23, 3) := by decide +kernel
theorem dX4_undo_28 : decode cX4_undo 28 = .ok (.aaload, 1) := by decide +kernel
theorem dX4_undo_29 : decode cX4_undo 29 = .ok (.astore_n 1, 1) := by decide +kernel
theorem dX4_undo_30 : decode cX4_undo 30 = .ok (.aload_n 0, 1) := by decide +kernel
theorem dX4_undo_31 : decode cX4_undo 31 = .ok (.getfield 11, 3) := by decide +kernel
theorem dX4_undo_34 : decode cX4_undo 34 = .ok (.aload_n 0, 1) := by decide +kernel
theorem dX4_undo_35 : decode cX4_undo 35 = .ok (.getfield 23, 3) := by decide +kernel
theorem dX4_undo_38 : decode cX4_undo 38 = .ok (.aload_n 0, 1) := by decide +kernel
theorem dX4_undo_39 : decode cX4_undo 39 = .ok (.getfield 27, 3) := by decide +kernel
theorem dX4_undo_42 : decode cX4_undo 42 = .ok (.aastore, 1) := by decide +kernel
theorem dX4_undo_43 : decode cX4_undo 43 = .ok (.aload_n 0, 1) := by decide +kernel
theorem dX4_undo_44 : decode cX4_undo 44 = .ok (.aload_n 1, 1) := by decide +kernel
theorem dX4_undo_45 : decode cX4_undo 45 = .ok (.putfield 27, 3) := by decide +kernel
theorem dX4_undo_48 : decode cX4_undo 48 = .ok (.aload_n 0, 1) := by decide +kernel
theorem dX4_undo_49 : decode cX4_undo 49 = .ok (.getfield 23, 3) := by decide +kernel
theorem dX4_undo_52 : decode cX4_undo 52 = .ok (.ireturn, 1) := by decide +kernel
theorem dX4_type_0 : decode cX4_type 0 = .ok (.aload_n 0, 1) := by decide +kernel
theorem dX4_type_1 : decode cX4_type 1 = .ok (.getfield 19, 3) := by decide +kernel
theorem dX4_type_4 : decode cX4_type 4 = .ok (.iload_n 1, 1) := by decide +kernel
theorem dX4_type_5 : decode cX4_type 5 = .ok (.invokevirtual 184, 3) := by decide +kernel
theorem dX4_type_8 : decode cX4_type 8 = .ok (.ireturn, 1) := by decide +kernel
theorem dX4_clearText_0 : decode cX4_clearText 0 = .ok (.aload_n 0, 1) := by decide +kernel
theorem dX4_clearText_1 : decode cX4_clearText 1 = .ok (.getfield 19, 3) := by decide +kernel
theorem dX4_clearText_4 : decode cX4_clearText 4 = .ok (.getfield 178, 3) := by decide +kernel
theorem dX4_clearText_7 : decode cX4_clearText 7 = .ok (.istore_n 1, 1) := by decide +kernel
theorem dX4_clearText_8 : decode cX4_clearText 8 = .ok (.aload_n 0, 1) := by decide +kernel
theorem dX4_clearText_9 : decode cX4_clearText 9 = .ok (.getfield 19, 3) := by decide +kernel
theorem dX4_clearText_12 : decode cX4_clearText 12 = .ok (.iconst 0, 1) := by decide +kernel
theorem dX4_clearText_13 : decode cX4_clearText 13 = .ok (.putfield 178, 3) := by decide +kernel
theorem dX4_clearText_16 : decode cX4_clearText 16 = .ok (.iload_n 1, 1) := by decide +kernel
theorem dX4_clearText_17 : decode cX4_clearText 17 = .ok (.ireturn, 1) := by decide +kernel
theorem dX4_fault_0 : decode cX4_fault 0 = .ok (.iload_n 1, 1) := by decide +kernel
theorem dX4_fault_1 : decode cX4_fault 1 = .ok (.iconst 0, 1) := by decide +kernel
theorem dX4_fault_2 : decode cX4_fault 2 = .ok (.iconst 2, 1) := by decide +kernel
theorem dX4_fault_3 : decode cX4_fault 3 = .ok (.invokestatic 94, 3) := by decide +kernel
theorem dX4_fault_6 : decode cX4_fault 6 = .ok (.ifCond .ne 6, 3) := by decide +kernel
theorem dX4_fault_9 : decode cX4_fault 9 = .ok (.ldc 77, 2) := by decide +kernel
theorem dX4_fault_11 : decode cX4_fault 11 = .ok (.ireturn, 1) := by decide +kernel
theorem dX4_fault_12 : decode cX4_fault 12 = .ok (.aload_n 0, 1) := by decide +kernel
theorem dX4_fault_13 : decode cX4_fault 13 = .ok (.getfield 31, 3) := by decide +kernel
theorem dX4_fault_16 : decode cX4_fault 16 = .ok (.aload_n 0, 1) := by decide +kernel
theorem dX4_fault_17 : decode cX4_fault 17 = .ok (.getfield 27, 3) := by decide +kernel
theorem dX4_fault_20 : decode cX4_fault 20 = .ok (.invokevirtual 34, 3) := by decide +kernel
theorem dX4_fault_23 : decode cX4_fault 23 = .ok (.aload_n 0, 1) := by decide +kernel
theorem dX4_fault_24 : decode cX4_fault 24 = .ok (.getfield 19, 3) := by decide +kernel
theorem dX4_fault_27 : decode cX4_fault 27 = .ok (.aload_n 0, 1) := by decide +kernel
theorem dX4_fault_28 : decode cX4_fault 28 = .ok (.getfield 31, 3) := by decide +kernel
theorem dX4_fault_31 : decode cX4_fault 31 = .ok (.invokevirtual 187, 3) := by decide +kernel
theorem dX4_fault_34 : decode cX4_fault 34 = .ok (.aload_n 0, 1) := by decide +kernel
theorem dX4_fault_35 : decode cX4_fault 35 = .ok (.getfield 19, 3) := by decide +kernel
theorem dX4_fault_38 : decode cX4_fault 38 = .ok (.invokevirtual 190, 3) := by decide +kernel
theorem dX4_fault_41 : decode cX4_fault 41 = .ok (.ifCond .ne 6, 3) := by decide +kernel
theorem dX4_fault_44 : decode cX4_fault 44 = .ok (.ldc 115, 2) := by decide +kernel
theorem dX4_fault_46 : decode cX4_fault 46 = .ok (.ireturn, 1) := by decide +kernel
theorem dX4_fault_47 : decode cX4_fault 47 = .ok (.iload_n 1, 1) := by decide +kernel
theorem dX4_fault_48 : decode cX4_fault 48 = .ok (.lookupswitch 44 #[(0, 28), (1, 36)], 28) := by decide +kernel
theorem dX4_fault_76 : decode cX4_fault 76 = .ok (.aload_n 0, 1) := by decide +kernel
theorem dX4_fault_77 : decode cX4_fault 77 = .ok (.getfield 19, 3) := by decide +kernel
theorem dX4_fault_80 : decode cX4_fault 80 = .ok (.getfield 194, 3) := by decide +kernel
theorem dX4_fault_83 : decode cX4_fault 83 = .ok (.ireturn, 1) := by decide +kernel
theorem dX4_fault_84 : decode cX4_fault 84 = .ok (.aload_n 0, 1) := by decide +kernel
theorem dX4_fault_85 : decode cX4_fault 85 = .ok (.getfield 19, 3) := by decide +kernel
theorem dX4_fault_88 : decode cX4_fault 88 = .ok (.getfield 197, 3) := by decide +kernel
theorem dX4_fault_91 : decode cX4_fault 91 = .ok (.ireturn, 1) := by decide +kernel
theorem dX4_fault_92 : decode cX4_fault 92 = .ok (.aload_n 0, 1) := by decide +kernel
theorem dX4_fault_93 : decode cX4_fault 93 = .ok (.getfield 19, 3) := by decide +kernel
theorem dX4_fault_96 : decode cX4_fault 96 = .ok (.getfield 200, 3) := by decide +kernel
theorem dX4_fault_99 : decode cX4_fault 99 = .ok (.ireturn, 1) := by decide +kernel
theorem dX4_play_0 : decode cX4_play 0 = .ok (.aload_n 0, 1) := by decide +kernel
theorem dX4_play_1 : decode cX4_play 1 = .ok (.getfield 31, 3) := by decide +kernel
theorem dX4_play_4 : decode cX4_play 4 = .ok (.aload_n 0, 1) := by decide +kernel
theorem dX4_play_5 : decode cX4_play 5 = .ok (.getfield 27, 3) := by decide +kernel
theorem dX4_play_8 : decode cX4_play 8 = .ok (.invokevirtual 34, 3) := by decide +kernel
theorem dX4_play_11 : decode cX4_play 11 = .ok (.aload_n 0, 1) := by decide +kernel
theorem dX4_play_12 : decode cX4_play 12 = .ok (.getfield 19, 3) := by decide +kernel
theorem dX4_play_15 : decode cX4_play 15 = .ok (.aload_n 0, 1) := by decide +kernel
theorem dX4_play_16 : decode cX4_play 16 = .ok (.getfield 31, 3) := by decide +kernel
theorem dX4_play_19 : decode cX4_play 19 = .ok (.invokevirtual 187, 3) := by decide +kernel
theorem dX4_play_22 : decode cX4_play 22 = .ok (.aload_n 0, 1) := by decide +kernel
theorem dX4_play_23 : decode cX4_play 23 = .ok (.aload_n 0, 1) := by decide +kernel
theorem dX4_play_24 : decode cX4_play 24 = .ok (.getfield 19, 3) := by decide +kernel
theorem dX4_play_27 : decode cX4_play 27 = .ok (.invokevirtual 190, 3) := by decide +kernel
theorem dX4_play_30 : decode cX4_play 30 = .ok (.ifCond .eq 8, 3) := by decide +kernel
theorem dX4_play_33 : decode cX4_play 33 = .ok (.ldc 102, 2) := by decide +kernel
theorem dX4_play_35 : decode cX4_play 35 = .ok (.goto 10, 3) := by decide +kernel
theorem dX4_play_38 : decode cX4_play 38 = .ok (.aload_n 0, 1) := by decide +kernel
theorem dX4_play_39 : decode cX4_play 39 = .ok (.getfield 19, 3) := by decide +kernel
theorem dX4_play_42 : decode cX4_play 42 = .ok (.getfield 203, 3) := by decide +kernel
theorem dX4_play_45 : decode cX4_play 45 = .ok (.invokevirtual 42, 3) := by decide +kernel
theorem dX4_play_48 : decode cX4_play 48 = .ok (.ireturn, 1) := by decide +kernel
theorem dX4_keep_0 : decode cX4_keep 0 = .ok (.iload_n 1, 1) := by decide +kernel
theorem dX4_keep_1 : decode cX4_keep 1 = .ok (.ifCond .ge 5, 3) := by decide +kernel
theorem dX4_keep_4 : decode cX4_keep 4 = .ok (.iload_n 1, 1) := by decide +kernel
theorem dX4_keep_5 : decode cX4_keep 5 = .ok (.ireturn, 1) := by decide +kernel
theorem dX4_keep_6 : decode cX4_keep 6 = .ok (.aload_n 0, 1) := by decide +kernel
theorem dX4_keep_7 : decode cX4_keep 7 = .ok (.getfield 23, 3) := by decide +kernel
theorem dX4_keep_10 : decode cX4_keep 10 = .ok (.iconst 4, 1) := by decide +kernel
theorem dX4_keep_11 : decode cX4_keep 11 = .ok (.if_icmp .ne 7, 3) := by decide +kernel
theorem dX4_keep_14 : decode cX4_keep 14 = .ok (.aload_n 0, 1) := by decide +kernel
theorem dX4_keep_15 : decode cX4_keep 15 = .ok (.invokevirtual 206, 3) := by decide +kernel
theorem dX4_keep_18 : decode cX4_keep 18 = .ok (.aload_n 0, 1) := by decide +kernel
theorem dX4_keep_19 : decode cX4_keep 19 = .ok (.getfield 11, 3) := by decide +kernel
theorem dX4_keep_22 : decode cX4_keep 22 = .ok (.aload_n 0, 1) := by decide +kernel
theorem dX4_keep_23 : decode cX4_keep 23 = .ok (.getfield 23, 3) := by decide +kernel
theorem dX4_keep_26 : decode cX4_keep 26 = .ok (.aaload, 1) := by decide +kernel
theorem dX4_keep_27 : decode cX4_keep 27 = .ok (.astore_n 2, 1) := by decide +kernel
theorem dX4_keep_28 : decode cX4_keep 28 = .ok (.aload_n 0, 1) := by decide +kernel
theorem dX4_keep_29 : decode cX4_keep 29 = .ok (.getfield 11, 3) := by decide +kernel
theorem dX4_keep_32 : decode cX4_keep 32 = .ok (.aload_n 0, 1) := by decide +kernel
theorem dX4_keep_33 : decode cX4_keep 33 = .ok (.getfield 23, 3) := by decide +kernel
theorem dX4_keep_36 : decode cX4_keep 36 = .ok (.aload_n 0, 1) := by decide +kernel
theorem dX4_keep_37 : decode cX4_keep 37 = .ok (.getfield 27, 3) := by decide +kernel
theorem dX4_keep_40 : decode cX4_keep 40 = .ok (.aastore, 1) := by decide +kernel
theorem dX4_keep_41 : decode cX4_keep 41 = .ok (.aload_n 0, 1) := by decide +kernel
theorem dX4_keep_42 : decode cX4_keep 42 = .ok (.dup, 1) := by decide +kernel
theorem dX4_keep_43 : decode cX4_keep 43 = .ok (.getfield 23, 3) := by decide +kernel
theorem dX4_keep_46 : decode cX4_keep 46 = .ok (.iconst 1, 1) := by decide +kernel
theorem dX4_keep_47 : decode cX4_keep 47 = .ok (.iadd, 1) := by decide +kernel
theorem dX4_keep_48 : decode cX4_keep 48 = .ok (.putfield 23, 3) := by decide +kernel
theorem dX4_keep_51 : decode cX4_keep 51 = .ok (.aload_n 0, 1) := by decide +kernel
theorem dX4_keep_52 : decode cX4_keep 52 = .ok (.aload_n 0, 1) := by decide +kernel
theorem dX4_keep_53 : decode cX4_keep 53 = .ok (.getfield 31, 3) := by decide +kernel
theorem dX4_keep_56 : decode cX4_keep 56 = .ok (.putfield 27, 3) := by decide +kernel
theorem dX4_keep_59 : decode cX4_keep 59 = .ok (.aload_n 0, 1) := by decide +kernel
theorem dX4_keep_60 : decode cX4_keep 60 = .ok (.aload_n 2, 1) := by decide +kernel
theorem dX4_keep_61 : decode cX4_keep 61 = .ok (.putfield 31, 3) := by decide +kernel
theorem dX4_keep_64 : decode cX4_keep 64 = .ok (.iload_n 1, 1) := by decide +kernel
theorem dX4_keep_65 : decode cX4_keep 65 = .ok (.ireturn, 1) := by decide +kernel
theorem dX4_dropOldest_0 : decode cX4_dropOldest 0 = .ok (.aload_n 0, 1) := by decide +kernel
theorem dX4_dropOldest_1 : decode cX4_dropOldest 1 = .ok (.getfield 11, 3) := by decide +kernel
theorem dX4_dropOldest_4 : decode cX4_dropOldest 4 = .ok (.iconst 0, 1) := by decide +kernel
theorem dX4_dropOldest_5 : decode cX4_dropOldest 5 = .ok (.aaload, 1) := by decide +kernel
theorem dX4_dropOldest_6 : decode cX4_dropOldest 6 = .ok (.astore_n 1, 1) := by decide +kernel
theorem dX4_dropOldest_7 : decode cX4_dropOldest 7 = .ok (.iconst 1, 1) := by decide +kernel
theorem dX4_dropOldest_8 : decode cX4_dropOldest 8 = .ok (.istore_n 2, 1) := by decide +kernel
theorem dX4_dropOldest_9 : decode cX4_dropOldest 9 = .ok (.iload_n 2, 1) := by decide +kernel
theorem dX4_dropOldest_10 : decode cX4_dropOldest 10 = .ok (.aload_n 0, 1) := by decide +kernel
theorem dX4_dropOldest_11 : decode cX4_dropOldest 11 = .ok (.getfield 11, 3) := by decide +kernel
theorem dX4_dropOldest_14 : decode cX4_dropOldest 14 = .ok (.arraylength, 1) := by decide +kernel
theorem dX4_dropOldest_15 : decode cX4_dropOldest 15 = .ok (.if_icmp .ge 23, 3) := by decide +kernel
theorem dX4_dropOldest_18 : decode cX4_dropOldest 18 = .ok (.aload_n 0, 1) := by decide +kernel
theorem dX4_dropOldest_19 : decode cX4_dropOldest 19 = .ok (.getfield 11, 3) := by decide +kernel
theorem dX4_dropOldest_22 : decode cX4_dropOldest 22 = .ok (.iload_n 2, 1) := by decide +kernel
theorem dX4_dropOldest_23 : decode cX4_dropOldest 23 = .ok (.iconst 1, 1) := by decide +kernel
theorem dX4_dropOldest_24 : decode cX4_dropOldest 24 = .ok (.isub, 1) := by decide +kernel
theorem dX4_dropOldest_25 : decode cX4_dropOldest 25 = .ok (.aload_n 0, 1) := by decide +kernel
theorem dX4_dropOldest_26 : decode cX4_dropOldest 26 = .ok (.getfield 11, 3) := by decide +kernel
theorem dX4_dropOldest_29 : decode cX4_dropOldest 29 = .ok (.iload_n 2, 1) := by decide +kernel
theorem dX4_dropOldest_30 : decode cX4_dropOldest 30 = .ok (.aaload, 1) := by decide +kernel
theorem dX4_dropOldest_31 : decode cX4_dropOldest 31 = .ok (.aastore, 1) := by decide +kernel
theorem dX4_dropOldest_32 : decode cX4_dropOldest 32 = .ok (.iinc 2 1, 3) := by decide +kernel
theorem dX4_dropOldest_35 : decode cX4_dropOldest 35 = .ok (.goto (-26), 3) := by decide +kernel
theorem dX4_dropOldest_38 : decode cX4_dropOldest 38 = .ok (.aload_n 0, 1) := by decide +kernel
theorem dX4_dropOldest_39 : decode cX4_dropOldest 39 = .ok (.getfield 11, 3) := by decide +kernel
theorem dX4_dropOldest_42 : decode cX4_dropOldest 42 = .ok (.aload_n 0, 1) := by decide +kernel
theorem dX4_dropOldest_43 : decode cX4_dropOldest 43 = .ok (.getfield 11, 3) := by decide +kernel
theorem dX4_dropOldest_46 : decode cX4_dropOldest 46 = .ok (.arraylength, 1) := by decide +kernel
theorem dX4_dropOldest_47 : decode cX4_dropOldest 47 = .ok (.iconst 1, 1) := by decide +kernel
theorem dX4_dropOldest_48 : decode cX4_dropOldest 48 = .ok (.isub, 1) := by decide +kernel
theorem dX4_dropOldest_49 : decode cX4_dropOldest 49 = .ok (.aload_n 1, 1) := by decide +kernel
theorem dX4_dropOldest_50 : decode cX4_dropOldest 50 = .ok (.aastore, 1) := by decide +kernel
theorem dX4_dropOldest_51 : decode cX4_dropOldest 51 = .ok (.aload_n 0, 1) := by decide +kernel
theorem dX4_dropOldest_52 : decode cX4_dropOldest 52 = .ok (.dup, 1) := by decide +kernel
theorem dX4_dropOldest_53 : decode cX4_dropOldest 53 = .ok (.getfield 23, 3) := by decide +kernel
theorem dX4_dropOldest_56 : decode cX4_dropOldest 56 = .ok (.iconst 1, 1) := by decide +kernel
theorem dX4_dropOldest_57 : decode cX4_dropOldest 57 = .ok (.isub, 1) := by decide +kernel
theorem dX4_dropOldest_58 : decode cX4_dropOldest 58 = .ok (.putfield 23, 3) := by decide +kernel
theorem dX4_dropOldest_61 : decode cX4_dropOldest 61 = .ok (.return_, 1) := by decide +kernel
theorem dX4_isWithin_0 : decode cX4_isWithin 0 = .ok (.iload_n 0, 1) := by decide +kernel
theorem dX4_isWithin_1 : decode cX4_isWithin 1 = .ok (.iload_n 1, 1) := by decide +kernel
theorem dX4_isWithin_2 : decode cX4_isWithin 2 = .ok (.if_icmp .lt 12, 3) := by decide +kernel
theorem dX4_isWithin_5 : decode cX4_isWithin 5 = .ok (.iload_n 0, 1) := by decide +kernel
theorem dX4_isWithin_6 : decode cX4_isWithin 6 = .ok (.iload_n 2, 1) := by decide +kernel
theorem dX4_isWithin_7 : decode cX4_isWithin 7 = .ok (.if_icmp .gt 7, 3) := by decide +kernel
theorem dX4_isWithin_10 : decode cX4_isWithin 10 = .ok (.iconst 1, 1) := by decide +kernel
theorem dX4_isWithin_11 : decode cX4_isWithin 11 = .ok (.goto 4, 3) := by decide +kernel
theorem dX4_isWithin_14 : decode cX4_isWithin 14 = .ok (.iconst 0, 1) := by decide +kernel
theorem dX4_isWithin_15 : decode cX4_isWithin 15 = .ok (.ireturn, 1) := by decide +kernel
theorem dX4_isSeat_0 : decode cX4_isSeat 0 = .ok (.iload_n 0, 1) := by decide +kernel
theorem dX4_isSeat_1 : decode cX4_isSeat 1 = .ok (.iconst 0, 1) := by decide +kernel
theorem dX4_isSeat_2 : decode cX4_isSeat 2 = .ok (.iconst 5, 1) := by decide +kernel
theorem dX4_isSeat_3 : decode cX4_isSeat 3 = .ok (.invokestatic 94, 3) := by decide +kernel
theorem dX4_isSeat_6 : decode cX4_isSeat 6 = .ok (.ifCond .eq 17, 3) := by decide +kernel
theorem dX4_isSeat_9 : decode cX4_isSeat 9 = .ok (.iload_n 1, 1) := by decide +kernel
theorem dX4_isSeat_10 : decode cX4_isSeat 10 = .ok (.iconst 0, 1) := by decide +kernel
theorem dX4_isSeat_11 : decode cX4_isSeat 11 = .ok (.bipush 7, 2) := by decide +kernel
theorem dX4_isSeat_13 : decode cX4_isSeat 13 = .ok (.invokestatic 94, 3) := by decide +kernel
theorem dX4_isSeat_16 : decode cX4_isSeat 16 = .ok (.ifCond .eq 7, 3) := by decide +kernel
theorem dX4_isSeat_19 : decode cX4_isSeat 19 = .ok (.iconst 1, 1) := by decide +kernel
theorem dX4_isSeat_20 : decode cX4_isSeat 20 = .ok (.goto 4, 3) := by decide +kernel
theorem dX4_isSeat_23 : decode cX4_isSeat 23 = .ok (.iconst 0, 1) := by decide +kernel
theorem dX4_isSeat_24 : decode cX4_isSeat 24 = .ok (.ireturn, 1) := by decide +kernel
theorem dX4_bitsOf_0 : decode cX4_bitsOf 0 = .ok (.fload_n 0, 1) := by decide +kernel
theorem dX4_bitsOf_1 : decode cX4_bitsOf 1 = .ok (.fstore_n 1, 1) := by decide +kernel
theorem dX4_bitsOf_2 : decode cX4_bitsOf 2 = .ok (.iconst 0, 1) := by decide +kernel
theorem dX4_bitsOf_3 : decode cX4_bitsOf 3 = .ok (.istore_n 2, 1) := by decide +kernel
theorem dX4_bitsOf_4 : decode cX4_bitsOf 4 = .ok (.iload_n 2, 1) := by decide +kernel
theorem dX4_bitsOf_5 : decode cX4_bitsOf 5 = .ok (.bipush 127, 2) := by decide +kernel
theorem dX4_bitsOf_7 : decode cX4_bitsOf 7 = .ok (.if_icmp .ge 19, 3) := by decide +kernel
theorem dX4_bitsOf_10 : decode cX4_bitsOf 10 = .ok (.fload_n 1, 1) := by decide +kernel
theorem dX4_bitsOf_11 : decode cX4_bitsOf 11 = .ok (.fconst 2, 1) := by decide +kernel
theorem dX4_bitsOf_12 : decode cX4_bitsOf 12 = .ok (.fcmp .l, 1) := by decide +kernel
theorem dX4_bitsOf_13 : decode cX4_bitsOf 13 = .ok (.ifCond .lt 13, 3) := by decide +kernel
theorem dX4_bitsOf_16 : decode cX4_bitsOf 16 = .ok (.fload_n 1, 1) := by decide +kernel
theorem dX4_bitsOf_17 : decode cX4_bitsOf 17 = .ok (.fconst 2, 1) := by decide +kernel
theorem dX4_bitsOf_18 : decode cX4_bitsOf 18 = .ok (.fdiv, 1) := by decide +kernel
theorem dX4_bitsOf_19 : decode cX4_bitsOf 19 = .ok (.fstore_n 1, 1) := by decide +kernel
theorem dX4_bitsOf_20 : decode cX4_bitsOf 20 = .ok (.iinc 2 1, 3) := by decide +kernel
theorem dX4_bitsOf_23 : decode cX4_bitsOf 23 = .ok (.goto (-19), 3) := by decide +kernel
theorem dX4_bitsOf_26 : decode cX4_bitsOf 26 = .ok (.fload_n 1, 1) := by decide +kernel
theorem dX4_bitsOf_27 : decode cX4_bitsOf 27 = .ok (.fconst 1, 1) := by decide +kernel
theorem dX4_bitsOf_28 : decode cX4_bitsOf 28 = .ok (.fsub, 1) := by decide +kernel
theorem dX4_bitsOf_29 : decode cX4_bitsOf 29 = .ok (.ldc 209, 2) := by decide +kernel
theorem dX4_bitsOf_31 : decode cX4_bitsOf 31 = .ok (.fmul, 1) := by decide +kernel
theorem dX4_bitsOf_32 : decode cX4_bitsOf 32 = .ok (.f2i, 1) := by decide +kernel
theorem dX4_bitsOf_33 : decode cX4_bitsOf 33 = .ok (.istore_n 3, 1) := by decide +kernel
theorem dX4_bitsOf_34 : decode cX4_bitsOf 34 = .ok (.bipush 127, 2) := by decide +kernel
theorem dX4_bitsOf_36 : decode cX4_bitsOf 36 = .ok (.iload_n 2, 1) := by decide +kernel
theorem dX4_bitsOf_37 : decode cX4_bitsOf 37 = .ok (.iadd, 1) := by decide +kernel
theorem dX4_bitsOf_38 : decode cX4_bitsOf 38 = .ok (.bipush 23, 2) := by decide +kernel
theorem dX4_bitsOf_40 : decode cX4_bitsOf 40 = .ok (.ishl, 1) := by decide +kernel
theorem dX4_bitsOf_41 : decode cX4_bitsOf 41 = .ok (.iload_n 3, 1) := by decide +kernel
theorem dX4_bitsOf_42 : decode cX4_bitsOf 42 = .ok (.iadd, 1) := by decide +kernel
theorem dX4_bitsOf_43 : decode cX4_bitsOf 43 = .ok (.ireturn, 1) := by decide +kernel
theorem dX5_init_0 : decode cX5_init 0 = .ok (.aload_n 0, 1) := by decide +kernel
theorem dX5_init_1 : decode cX5_init 1 = .ok (.invokespecial 1, 3) := by decide +kernel
theorem dX5_init_4 : decode cX5_init 4 = .ok (.aload_n 0, 1) := by decide +kernel
theorem dX5_init_5 : decode cX5_init 5 = .ok (.sipush 215, 3) := by decide +kernel
theorem dX5_init_8 : decode cX5_init 8 = .ok (.newarray .int, 2) := by decide +kernel
theorem dX5_init_10 : decode cX5_init 10 = .ok (.putfield 7, 3) := by decide +kernel
theorem dX5_init_13 : decode cX5_init 13 = .ok (.aload_n 0, 1) := by decide +kernel
theorem dX5_init_14 : decode cX5_init 14 = .ok (.sipush 860, 3) := by decide +kernel
theorem dX5_init_17 : decode cX5_init 17 = .ok (.newarray .int, 2) := by decide +kernel
theorem dX5_init_19 : decode cX5_init 19 = .ok (.putfield 13, 3) := by decide +kernel
theorem dX5_init_22 : decode cX5_init 22 = .ok (.aload_n 0, 1) := by decide +kernel
theorem dX5_init_23 : decode cX5_init 23 = .ok (.sipush 215, 3) := by decide +kernel
theorem dX5_init_26 : decode cX5_init 26 = .ok (.newarray .int, 2) := by decide +kernel
theorem dX5_init_28 : decode cX5_init 28 = .ok (.putfield 16, 3) := by decide +kernel
theorem dX5_init_31 : decode cX5_init 31 = .ok (.aload_n 0, 1) := by decide +kernel
theorem dX5_init_32 : decode cX5_init 32 = .ok (.sipush 215, 3) := by decide +kernel
theorem dX5_init_35 : decode cX5_init 35 = .ok (.newarray .int, 2) := by decide +kernel
theorem dX5_init_37 : decode cX5_init 37 = .ok (.putfield 19, 3) := by decide +kernel
theorem dX5_init_40 : decode cX5_init 40 = .ok (.aload_n 0, 1) := by decide +kernel
theorem dX5_init_41 : decode cX5_init 41 = .ok (.bipush 60, 2) := by decide +kernel
theorem dX5_init_43 : decode cX5_init 43 = .ok (.newarray .int, 2) := by decide +kernel
theorem dX5_init_45 : decode cX5_init 45 = .ok (.putfield 22, 3) := by decide +kernel
theorem dX5_init_48 : decode cX5_init 48 = .ok (.aload_n 0, 1) := by decide +kernel
theorem dX5_init_49 : decode cX5_init 49 = .ok (.iconst 4, 1) := by decide +kernel
theorem dX5_init_50 : decode cX5_init 50 = .ok (.newarray .int, 2) := by decide +kernel
theorem dX5_init_52 : decode cX5_init 52 = .ok (.putfield 25, 3) := by decide +kernel
theorem dX5_init_55 : decode cX5_init 55 = .ok (.aload_n 0, 1) := by decide +kernel
theorem dX5_init_56 : decode cX5_init 56 = .ok (.getfield 7, 3) := by decide +kernel
theorem dX5_init_59 : decode cX5_init 59 = .ok (.sipush 212, 3) := by decide +kernel
theorem dX5_init_62 : decode cX5_init 62 = .ok (.iconst 3, 1) := by decide +kernel
theorem dX5_init_63 : decode cX5_init 63 = .ok (.iastore, 1) := by decide +kernel
theorem dX5_init_64 : decode cX5_init 64 = .ok (.aload_n 0, 1) := by decide +kernel
theorem dX5_init_65 : decode cX5_init 65 = .ok (.getfield 7, 3) := by decide +kernel
theorem dX5_init_68 : decode cX5_init 68 = .ok (.sipush 213, 3) := by decide +kernel
theorem dX5_init_71 : decode cX5_init 71 = .ok (.iconst 3, 1) := by decide +kernel
theorem dX5_init_72 : decode cX5_init 72 = .ok (.iastore, 1) := by decide +kernel
theorem dX5_init_73 : decode cX5_init 73 = .ok (.aload_n 0, 1) := by decide +kernel
theorem dX5_init_74 : decode cX5_init 74 = .ok (.getfield 7, 3) := by decide +kernel
theorem dX5_init_77 : decode cX5_init 77 = .ok (.sipush 214, 3) := by decide +kernel
theorem dX5_init_80 : decode cX5_init 80 = .ok (.iconst 3, 1) := by decide +kernel
theorem dX5_init_81 : decode cX5_init 81 = .ok (.iastore, 1) := by decide +kernel
theorem dX5_init_82 : decode cX5_init 82 = .ok (.return_, 1) := by decide +kernel
theorem dX5_in_0 : decode cX5_in 0 = .ok (.iload_n 0, 1) := by decide +kernel
theorem dX5_in_1 : decode cX5_in 1 = .ok (.iload_n 1, 1) := by decide +kernel
theorem dX5_in_2 : decode cX5_in 2 = .ok (.if_icmp .lt 12, 3) := by decide +kernel
theorem dX5_in_5 : decode cX5_in 5 = .ok (.iload_n 0, 1) := by decide +kernel
theorem dX5_in_6 : decode cX5_in 6 = .ok (.iload_n 2, 1) := by decide +kernel
theorem dX5_in_7 : decode cX5_in 7 = .ok (.if_icmp .gt 7, 3) := by decide +kernel
theorem dX5_in_10 : decode cX5_in 10 = .ok (.iconst 1, 1) := by decide +kernel
theorem dX5_in_11 : decode cX5_in 11 = .ok (.goto 4, 3) := by decide +kernel
theorem dX5_in_14 : decode cX5_in 14 = .ok (.iconst 0, 1) := by decide +kernel
theorem dX5_in_15 : decode cX5_in 15 = .ok (.ireturn, 1) := by decide +kernel
theorem dX5_copies_0 : decode cX5_copies 0 = .ok (.iconst 0, 1) := by decide +kernel
theorem dX5_copies_1 : decode cX5_copies 1 = .ok (.istore_n 2, 1) := by decide +kernel
theorem dX5_copies_2 : decode cX5_copies 2 = .ok (.iload_n 2, 1) := by decide +kernel
theorem dX5_copies_3 : decode cX5_copies 3 = .ok (.sipush 215, 3) := by decide +kernel
theorem dX5_copies_6 : decode cX5_copies 6 = .ok (.if_icmp .ge 15, 3) := by decide +kernel
theorem dX5_copies_9 : decode cX5_copies 9 = .ok (.aload_n 1, 1) := by decide +kernel
theorem dX5_copies_10 : decode cX5_copies 10 = .ok (.iload_n 2, 1) := by decide +kernel
theorem dX5_copies_11 : decode cX5_copies 11 = .ok (.aload_n 0, 1) := by decide +kernel
theorem dX5_copies_12 : decode cX5_copies 12 = .ok (.iload_n 2, 1) := by decide +kernel
theorem dX5_copies_13 : decode cX5_copies 13 = .ok (.iaload, 1) := by decide +kernel
theorem dX5_copies_14 : decode cX5_copies 14 = .ok (.iastore, 1) := by decide +kernel
theorem dX5_copies_15 : decode cX5_copies 15 = .ok (.iinc 2 1, 3) := by decide +kernel
theorem dX5_copies_18 : decode cX5_copies 18 = .ok (.goto (-16), 3) := by decide +kernel
theorem dX5_copies_21 : decode cX5_copies 21 = .ok (.return_, 1) := by decide +kernel
theorem dX5_changes_0 : decode cX5_changes 0 = .ok (.aload_n 0, 1) := by decide +kernel
theorem dX5_changes_1 : decode cX5_changes 1 = .ok (.getfield 28, 3) := by decide +kernel
theorem dX5_changes_4 : decode cX5_changes 4 = .ok (.ifCond .eq 4, 3) := by decide +kernel
theorem dX5_changes_7 : decode cX5_changes 7 = .ok (.return_, 1) := by decide +kernel
theorem dX5_changes_8 : decode cX5_changes 8 = .ok (.aload_n 0, 1) := by decide +kernel
theorem dX5_changes_9 : decode cX5_changes 9 = .ok (.getfield 32, 3) := by decide +kernel
theorem dX5_changes_12 : decode cX5_changes 12 = .ok (.iconst 4, 1) := by decide +kernel
theorem dX5_changes_13 : decode cX5_changes 13 = .ok (.if_icmp .ne 44, 3) := by decide +kernel
theorem dX5_changes_16 : decode cX5_changes 16 = .ok (.iconst 0, 1) := by decide +kernel
theorem dX5_changes_17 : decode cX5_changes 17 = .ok (.istore_n 1, 1) := by decide +kernel
theorem dX5_changes_18 : decode cX5_changes 18 = .ok (.iload_n 1, 1) := by decide +kernel
theorem dX5_changes_19 : decode cX5_changes 19 = .ok (.sipush 645, 3) := by decide +kernel
theorem dX5_changes_22 : decode cX5_changes 22 = .ok (.if_icmp .ge 25, 3) := by decide +kernel
theorem dX5_changes_25 : decode cX5_changes 25 = .ok (.aload_n 0, 1) := by decide +kernel
theorem dX5_changes_26 : decode cX5_changes 26 = .ok (.getfield 13, 3) := by decide +kernel
theorem dX5_changes_29 : decode cX5_changes 29 = .ok (.iload_n 1, 1) := by decide +kernel
theorem dX5_changes_30 : decode cX5_changes 30 = .ok (.aload_n 0, 1) := by decide +kernel
theorem dX5_changes_31 : decode cX5_changes 31 = .ok (.getfield 13, 3) := by decide +kernel
theorem dX5_changes_34 : decode cX5_changes 34 = .ok (.iload_n 1, 1) := by decide +kernel
theorem dX5_changes_35 : decode cX5_changes 35 = .ok (.sipush 215, 3) := by decide +kernel
theorem dX5_changes_38 : decode cX5_changes 38 = .ok (.iadd, 1) := by decide +kernel
theorem dX5_changes_39 : decode cX5_changes 39 = .ok (.iaload, 1) := by decide +kernel
theorem dX5_changes_40 : decode cX5_changes 40 = .ok (.iastore, 1) := by decide +kernel
theorem dX5_changes_41 : decode cX5_changes 41 = .ok (.iinc 1 1, 3) := by decide +kernel
theorem dX5_changes_44 : decode cX5_changes 44 = .ok (.goto (-26), 3) := by decide +kernel
theorem dX5_changes_47 : decode cX5_changes 47 = .ok (.aload_n 0, 1) := by decide +kernel
theorem dX5_changes_48 : decode cX5_changes 48 = .ok (.dup, 1) := by decide +kernel
theorem dX5_changes_49 : decode cX5_changes 49 = .ok (.getfield 32, 3) := by decide +kernel
theorem dX5_changes_52 : decode cX5_changes 52 = .ok (.iconst 1, 1) := by decide +kernel
theorem dX5_changes_53 : decode cX5_changes 53 = .ok (.isub, 1) := by decide +kernel
theorem dX5_changes_54 : decode cX5_changes 54 = .ok (.putfield 32, 3) := by decide +kernel
theorem dX5_changes_57 : decode cX5_changes 57 = .ok (.iconst 0, 1) := by decide +kernel
theorem dX5_changes_58 : decode cX5_changes 58 = .ok (.istore_n 1, 1) := by decide +kernel
theorem dX5_changes_59 : decode cX5_changes 59 = .ok (.iload_n 1, 1) := by decide +kernel
theorem dX5_changes_60 : decode cX5_changes 60 = .ok (.sipush 215, 3) := by decide +kernel
theorem dX5_changes_63 : decode cX5_changes 63 = .ok (.if_icmp .ge 30, 3) := by decide +kernel
theorem dX5_changes_66 : decode cX5_changes 66 = .ok (.aload_n 0, 1) := by decide +kernel
theorem dX5_changes_67 : decode cX5_changes 67 = .ok (.getfield 13, 3) := by decide +kernel
theorem dX5_changes_70 : decode cX5_changes 70 = .ok (.sipush 215, 3) := by decide +kernel
theorem dX5_changes_73 : decode cX5_changes 73 = .ok (.aload_n 0, 1) := by decide +kernel
theorem dX5_changes_74 : decode cX5_changes 74 = .ok (.getfield 32, 3) := by decide +kernel
theorem dX5_changes_77 : decode cX5_changes 77 = .ok (.imul, 1) := by decide +kernel
theorem dX5_changes_78 : decode cX5_changes 78 = .ok (.iload_n 1, 1) := by decide +kernel
theorem dX5_changes_79 : decode cX5_changes 79 = .ok (.iadd, 1) := by decide +kernel
theorem dX5_changes_80 : decode cX5_changes 80 = .ok (.aload_n 0, 1) := by decide +kernel
theorem dX5_changes_81 : decode cX5_changes 81 = .ok (.getfield 7, 3) := by decide +kernel
theorem dX5_changes_84 : decode cX5_changes 84 = .ok (.iload_n 1, 1) := by decide +kernel
theorem dX5_changes_85 : decode cX5_changes 85 = .ok (.iaload, 1) := by decide +kernel
theorem dX5_changes_86 : decode cX5_changes 86 = .ok (.iastore, 1) := by decide +kernel
theorem dX5_changes_87 : decode cX5_changes 87 = .ok (.iinc 1 1, 3) := by decide +kernel
theorem dX5_changes_90 : decode cX5_changes 90 = .ok (.goto (-31), 3) := by decide +kernel
theorem dX5_changes_93 : decode cX5_changes 93 = .ok (.aload_n 0, 1) := by decide +kernel
theorem dX5_changes_94 : decode cX5_changes 94 = .ok (.dup, 1) := by decide +kernel
theorem dX5_changes_95 : decode cX5_changes 95 = .ok (.getfield 32, 3) := by decide +kernel
theorem dX5_changes_98 : decode cX5_changes 98 = .ok (.iconst 1, 1) := by decide +kernel
theorem dX5_changes_99 : decode cX5_changes 99 = .ok (.iadd, 1) := by decide +kernel
theorem dX5_changes_100 : decode cX5_changes 100 = .ok (.putfield 32, 3) := by decide +kernel
theorem dX5_changes_103 : decode cX5_changes 103 = .ok (.return_, 1) := by decide +kernel
theorem dX5_of_0 : decode cX5_of 0 = .ok (.aload_n 0, 1) := by decide +kernel
theorem dX5_of_1 : decode cX5_of 1 = .ok (.getfield 7, 3) := by decide +kernel
theorem dX5_of_4 : decode cX5_of 4 = .ok (.bipush 11, 2) := by decide +kernel
theorem dX5_of_6 : decode cX5_of 6 = .ok (.iload_n 1, 1) := by decide +kernel
theorem dX5_of_7 : decode cX5_of 7 = .ok (.imul, 1) := by decide +kernel
theorem dX5_of_8 : decode cX5_of 8 = .ok (.iload_n 2, 1) := by decide +kernel
theorem dX5_of_9 : decode cX5_of 9 = .ok (.iadd, 1) := by decide +kernel
theorem dX5_of_10 : decode cX5_of 10 = .ok (.iaload, 1) := by decide +kernel
theorem dX5_of_11 : decode cX5_of 11 = .ok (.ireturn, 1) := by decide +kernel
theorem dX5_adds_0 : decode cX5_adds 0 = .ok (.aload_n 0, 1) := by decide +kernel
theorem dX5_adds_1 : decode cX5_adds 1 = .ok (.getfield 7, 3) := by decide +kernel
theorem dX5_adds_4 : decode cX5_adds 4 = .ok (.bipush 11, 2) := by decide +kernel
theorem dX5_adds_6 : decode cX5_adds 6 = .ok (.iload_n 1, 1) := by decide +kernel
theorem dX5_adds_7 : decode cX5_adds 7 = .ok (.imul, 1) := by decide +kernel
theorem dX5_adds_8 : decode cX5_adds 8 = .ok (.iload_n 2, 1) := by decide +kernel
theorem dX5_adds_9 : decode cX5_adds 9 = .ok (.iadd, 1) := by decide +kernel
theorem dX5_adds_10 : decode cX5_adds 10 = .ok (.dup2, 1) := by decide +kernel
theorem dX5_adds_11 : decode cX5_adds 11 = .ok (.iaload, 1) := by decide +kernel
theorem dX5_adds_12 : decode cX5_adds 12 = .ok (.iload_n 3, 1) := by decide +kernel
theorem dX5_adds_13 : decode cX5_adds 13 = .ok (.iadd, 1) := by decide +kernel
theorem dX5_adds_14 : decode cX5_adds 14 = .ok (.iastore, 1) := by decide +kernel
theorem dX5_adds_15 : decode cX5_adds 15 = .ok (.return_, 1) := by decide +kernel
theorem dX5_lay_0 : decode cX5_lay 0 = .ok (.aload_n 0, 1) := by decide +kernel
theorem dX5_lay_1 : decode cX5_lay 1 = .ok (.getfield 7, 3) := by decide +kernel
theorem dX5_lay_4 : decode cX5_lay 4 = .ok (.bipush 11, 2) := by decide +kernel
theorem dX5_lay_6 : decode cX5_lay 6 = .ok (.iload_n 1, 1) := by decide +kernel
theorem dX5_lay_7 : decode cX5_lay 7 = .ok (.imul, 1) := by decide +kernel
theorem dX5_lay_8 : decode cX5_lay 8 = .ok (.iload_n 2, 1) := by decide +kernel
theorem dX5_lay_9 : decode cX5_lay 9 = .ok (.iadd, 1) := by decide +kernel
theorem dX5_lay_10 : decode cX5_lay 10 = .ok (.iload_n 3, 1) := by decide +kernel
theorem dX5_lay_11 : decode cX5_lay 11 = .ok (.iastore, 1) := by decide +kernel
theorem dX5_lay_12 : decode cX5_lay 12 = .ok (.return_, 1) := by decide +kernel
theorem dX5_isBidder_0 : decode cX5_isBidder 0 = .ok (.iload_n 1, 1) := by decide +kernel
theorem dX5_isBidder_1 : decode cX5_isBidder 1 = .ok (.iconst 0, 1) := by decide +kernel
theorem dX5_isBidder_2 : decode cX5_isBidder 2 = .ok (.aload_n 0, 1) := by decide +kernel
theorem dX5_isBidder_3 : decode cX5_isBidder 3 = .ok (.getfield 7, 3) := by decide +kernel
theorem dX5_isBidder_6 : decode cX5_isBidder 6 = .ok (.sipush 199, 3) := by decide +kernel
theorem dX5_isBidder_9 : decode cX5_isBidder 9 = .ok (.iaload, 1) := by decide +kernel
theorem dX5_isBidder_10 : decode cX5_isBidder 10 = .ok (.iconst 1, 1) := by decide +kernel
theorem dX5_isBidder_11 : decode cX5_isBidder 11 = .ok (.isub, 1) := by decide +kernel
theorem dX5_isBidder_12 : decode cX5_isBidder 12 = .ok (.invokestatic 36, 3) := by decide +kernel
theorem dX5_isBidder_15 : decode cX5_isBidder 15 = .ok (.ireturn, 1) := by decide +kernel
theorem dX5_isSeat_0 : decode cX5_isSeat 0 = .ok (.iload_n 0, 1) := by decide +kernel
theorem dX5_isSeat_1 : decode cX5_isSeat 1 = .ok (.iconst 0, 1) := by decide +kernel
theorem dX5_isSeat_2 : decode cX5_isSeat 2 = .ok (.iconst 5, 1) := by decide +kernel
theorem dX5_isSeat_3 : decode cX5_isSeat 3 = .ok (.invokestatic 36, 3) := by decide +kernel
theorem dX5_isSeat_6 : decode cX5_isSeat 6 = .ok (.ifCond .eq 17, 3) := by decide +kernel
theorem dX5_isSeat_9 : decode cX5_isSeat 9 = .ok (.iload_n 1, 1) := by decide +kernel
theorem dX5_isSeat_10 : decode cX5_isSeat 10 = .ok (.iconst 0, 1) := by decide +kernel
theorem dX5_isSeat_11 : decode cX5_isSeat 11 = .ok (.bipush 7, 2) := by decide +kernel
theorem dX5_isSeat_13 : decode cX5_isSeat 13 = .ok (.invokestatic 36, 3) := by decide +kernel
theorem dX5_isSeat_16 : decode cX5_isSeat 16 = .ok (.ifCond .eq 7, 3) := by decide +kernel
theorem dX5_isSeat_19 : decode cX5_isSeat 19 = .ok (.iconst 1, 1) := by decide +kernel
theorem dX5_isSeat_20 : decode cX5_isSeat 20 = .ok (.goto 4, 3) := by decide +kernel
theorem dX5_isSeat_23 : decode cX5_isSeat 23 = .ok (.iconst 0, 1) := by decide +kernel
theorem dX5_isSeat_24 : decode cX5_isSeat 24 = .ok (.ireturn, 1) := by decide +kernel
theorem dX5_seated_0 : decode cX5_seated 0 = .ok (.iconst 0, 1) := by decide +kernel
theorem dX5_seated_1 : decode cX5_seated 1 = .ok (.istore_n 3, 1) := by decide +kernel
theorem dX5_seated_2 : decode cX5_seated 2 = .ok (.iload_n 3, 1) := by decide +kernel
theorem dX5_seated_3 : decode cX5_seated 3 = .ok (.aload_n 0, 1) := by decide +kernel
theorem dX5_seated_4 : decode cX5_seated 4 = .ok (.getfield 7, 3) := by decide +kernel
theorem dX5_seated_7 : decode cX5_seated 7 = .ok (.sipush 199, 3) := by decide +kernel
theorem dX5_seated_10 : decode cX5_seated 10 = .ok (.iaload, 1) := by decide +kernel
theorem dX5_seated_11 : decode cX5_seated 11 = .ok (.if_icmp .ge 31, 3) := by decide +kernel
theorem dX5_seated_14 : decode cX5_seated 14 = .ok (.aload_n 0, 1) := by decide +kernel
theorem dX5_seated_15 : decode cX5_seated 15 = .ok (.iload_n 3, 1) := by decide +kernel
theorem dX5_seated_16 : decode cX5_seated 16 = .ok (.iconst 0, 1) := by decide +kernel
theorem dX5_seated_17 : decode cX5_seated 17 = .ok (.invokevirtual 40, 3) := by decide +kernel
theorem dX5_seated_20 : decode cX5_seated 20 = .ok (.iload_n 1, 1) := by decide +kernel
theorem dX5_seated_21 : decode cX5_seated 21 = .ok (.if_icmp .ne 15, 3) := by decide +kernel
theorem dX5_seated_24 : decode cX5_seated 24 = .ok (.aload_n 0, 1) := by decide +kernel
theorem dX5_seated_25 : decode cX5_seated 25 = .ok (.iload_n 3, 1) := by decide +kernel
theorem dX5_seated_26 : decode cX5_seated 26 = .ok (.iconst 1, 1) := by decide +kernel
theorem dX5_seated_27 : decode cX5_seated 27 = .ok (.invokevirtual 40, 3) := by decide +kernel
theorem dX5_seated_30 : decode cX5_seated 30 = .ok (.iload_n 2, 1) := by decide +kernel
theorem dX5_seated_31 : decode cX5_seated 31 = .ok (.if_icmp .ne 5, 3) := by decide +kernel
theorem dX5_seated_34 : decode cX5_seated 34 = .ok (.iload_n 3, 1) := by decide +kernel
theorem dX5_seated_35 : decode cX5_seated 35 = .ok (.ireturn, 1) := by decide +kernel
theorem dX5_seated_36 : decode cX5_seated 36 = .ok (.iinc 3 1, 3) := by decide +kernel
theorem dX5_seated_39 : decode cX5_seated 39 = .ok (.goto (-37), 3) := by decide +kernel
theorem dX5_seated_42 : decode cX5_seated 42 = .ok (.ldc 44, 2) := by decide +kernel
theorem dX5_seated_44 : decode cX5_seated 44 = .ok (.ireturn, 1) := by decide +kernel
theorem dX5_loud_0 : decode cX5_loud 0 = .ok (.aload_n 0, 1) := by decide +kernel
theorem dX5_loud_1 : decode cX5_loud 1 = .ok (.iload_n 1, 1) := by decide +kernel
theorem dX5_loud_2 : decode cX5_loud 2 = .ok (.iconst 3, 1) := by decide +kernel
theorem dX5_loud_3 : decode cX5_loud 3 = .ok (.invokevirtual 40, 3) := by decide +kernel
theorem dX5_loud_6 : decode cX5_loud 6 = .ok (.aload_n 0, 1) := by decide +kernel
theorem dX5_loud_7 : decode cX5_loud 7 = .ok (.iload_n 1, 1) := by decide +kernel
theorem dX5_loud_8 : decode cX5_loud 8 = .ok (.iconst 4, 1) := by decide +kernel
theorem dX5_loud_9 : decode cX5_loud 9 = .ok (.invokevirtual 40, 3) := by decide +kernel
theorem dX5_loud_12 : decode cX5_loud 12 = .ok (.iadd, 1) := by decide +kernel
theorem dX5_loud_13 : decode cX5_loud 13 = .ok (.aload_n 0, 1) := by decide +kernel
theorem dX5_loud_14 : decode cX5_loud 14 = .ok (.iload_n 1, 1) := by decide +kernel
theorem dX5_loud_15 : decode cX5_loud 15 = .ok (.iconst 5, 1) := by decide +kernel
theorem dX5_loud_16 : decode cX5_loud 16 = .ok (.invokevirtual 40, 3) := by decide +kernel
theorem dX5_loud_19 : decode cX5_loud 19 = .ok (.isub, 1) := by decide +kernel
theorem dX5_loud_20 : decode cX5_loud 20 = .ok (.aload_n 0, 1) := by decide +kernel
theorem dX5_loud_21 : decode cX5_loud 21 = .ok (.iload_n 1, 1) := by decide +kernel
theorem dX5_loud_22 : decode cX5_loud 22 = .ok (.iconst 0, 1) := by decide +kernel
theorem dX5_loud_23 : decode cX5_loud 23 = .ok (.invokevirtual 40, 3) := by decide +kernel
theorem dX5_loud_26 : decode cX5_loud 26 = .ok (.isub, 1) := by decide +kernel
theorem dX5_loud_27 : decode cX5_loud 27 = .ok (.ireturn, 1) := by decide +kernel
theorem dX5_asked_0 : decode cX5_asked 0 = .ok (.aload_n 0, 1) := by decide +kernel
theorem dX5_asked_1 : decode cX5_asked 1 = .ok (.getfield 7, 3) := by decide +kernel
theorem dX5_asked_4 : decode cX5_asked 4 = .ok (.sipush 152, 3) := by decide +kernel
theorem dX5_asked_7 : decode cX5_asked 7 = .ok (.iaload, 1) := by decide +kernel
theorem dX5_asked_8 : decode cX5_asked 8 = .ok (.ifCond .le 23, 3) := by decide +kernel
theorem dX5_asked_11 : decode cX5_asked 11 = .ok (.aload_n 0, 1) := by decide +kernel
theorem dX5_asked_12 : decode cX5_asked 12 = .ok (.getfield 7, 3) := by decide +kernel
theorem dX5_asked_15 : decode cX5_asked 15 = .ok (.sipush 151, 3) := by decide +kernel
theorem dX5_asked_18 : decode cX5_asked 18 = .ok (.iaload, 1) := by decide +kernel
theorem dX5_asked_19 : decode cX5_asked 19 = .ok (.aload_n 0, 1) := by decide +kernel
theorem dX5_asked_20 : decode cX5_asked 20 = .ok (.getfield 7, 3) := by decide +kernel
theorem dX5_asked_23 : decode cX5_asked 23 = .ok (.sipush 150, 3) := by decide +kernel
theorem dX5_asked_26 : decode cX5_asked 26 = .ok (.iaload, 1) := by decide +kernel
theorem dX5_asked_27 : decode cX5_asked 27 = .ok (.iadd, 1) := by decide +kernel
theorem dX5_asked_28 : decode cX5_asked 28 = .ok (.goto 11, 3) := by decide +kernel
theorem dX5_asked_31 : decode cX5_asked 31 = .ok (.aload_n 0, 1) := by decide +kernel
theorem dX5_asked_32 : decode cX5_asked 32 = .ok (.getfield 7, 3) := by decide +kernel
theorem dX5_asked_35 : decode cX5_asked 35 = .ok (.sipush 149, 3) := by decide +kernel
theorem dX5_asked_38 : decode cX5_asked 38 = .ok (.iaload, 1) := by decide +kernel
theorem dX5_asked_39 : decode cX5_asked 39 = .ok (.ireturn, 1) := by decide +kernel
theorem dX5_barred_0 : decode cX5_barred 0 = .ok (.aload_n 0, 1) := by decide +kernel
theorem dX5_barred_1 : decode cX5_barred 1 = .ok (.getfield 7, 3) := by decide +kernel
theorem dX5_barred_4 : decode cX5_barred 4 = .ok (.sipush 148, 3) := by decide +kernel
theorem dX5_barred_7 : decode cX5_barred 7 = .ok (.iaload, 1) := by decide +kernel
theorem dX5_barred_8 : decode cX5_barred 8 = .ok (.ifCond .ne 5, 3) := by decide +kernel
theorem dX5_barred_11 : decode cX5_barred 11 = .ok (.iconst 1, 1) := by decide +kernel
theorem dX5_barred_12 : decode cX5_barred 12 = .ok (.ireturn, 1) := by decide +kernel
theorem dX5_barred_13 : decode cX5_barred 13 = .ok (.aload_n 0, 1) := by decide +kernel
theorem dX5_barred_14 : decode cX5_barred 14 = .ok (.iload_n 1, 1) := by decide +kernel
theorem dX5_barred_15 : decode cX5_barred 15 = .ok (.invokevirtual 45, 3) := by decide +kernel
theorem dX5_barred_18 : decode cX5_barred 18 = .ok (.aload_n 0, 1) := by decide +kernel
theorem dX5_barred_19 : decode cX5_barred 19 = .ok (.getfield 7, 3) := by decide +kernel
theorem dX5_barred_22 : decode cX5_barred 22 = .ok (.sipush 212, 3) := by decide +kernel
theorem dX5_barred_25 : decode cX5_barred 25 = .ok (.iaload, 1) := by decide +kernel
theorem dX5_barred_26 : decode cX5_barred 26 = .ok (.if_icmp .ge 7, 3) := by decide +kernel
theorem dX5_barred_29 : decode cX5_barred 29 = .ok (.iconst 2, 1) := by decide +kernel
theorem dX5_barred_30 : decode cX5_barred 30 = .ok (.goto 39, 3) := by decide +kernel
theorem dX5_barred_33 : decode cX5_barred 33 = .ok (.aload_n 0, 1) := by decide +kernel
theorem dX5_barred_34 : decode cX5_barred 34 = .ok (.getfield 7, 3) := by decide +kernel
theorem dX5_barred_37 : decode cX5_barred 37 = .ok (.sipush 152, 3) := by decide +kernel
theorem dX5_barred_40 : decode cX5_barred 40 = .ok (.iaload, 1) := by decide +kernel
theorem dX5_barred_41 : decode cX5_barred 41 = .ok (.iload_n 1, 1) := by decide +kernel
theorem dX5_barred_42 : decode cX5_barred 42 = .ok (.iconst 1, 1) := by decide +kernel
theorem dX5_barred_43 : decode cX5_barred 43 = .ok (.iadd, 1) := by decide +kernel
theorem dX5_barred_44 : decode cX5_barred 44 = .ok (.if_icmp .ne 7, 3) := by decide +kernel
theorem dX5_barred_47 : decode cX5_barred 47 = .ok (.iconst 3, 1) := by decide +kernel
theorem dX5_barred_48 : decode cX5_barred 48 = .ok (.goto 21, 3) := by decide +kernel
theorem dX5_barred_51 : decode cX5_barred 51 = .ok (.aload_n 0, 1) := by decide +kernel
theorem dX5_barred_52 : decode cX5_barred 52 = .ok (.iload_n 1, 1) := by decide +kernel
theorem dX5_barred_53 : decode cX5_barred 53 = .ok (.iconst 2, 1) := by decide +kernel
theorem dX5_barred_54 : decode cX5_barred 54 = .ok (.invokevirtual 40, 3) := by decide +kernel
theorem dX5_barred_57 : decode cX5_barred 57 = .ok (.aload_n 0, 1) := by decide +kernel
theorem dX5_barred_58 : decode cX5_barred 58 = .ok (.invokevirtual 49, 3) := by decide +kernel
theorem dX5_barred_61 : decode cX5_barred 61 = .ok (.if_icmp .ge 7, 3) := by decide +kernel
theorem dX5_barred_64 : decode cX5_barred 64 = .ok (.iconst 4, 1) := by decide +kernel
theorem dX5_barred_65 : decode cX5_barred 65 = .ok (.goto 4, 3) := by decide +kernel
theorem dX5_barred_68 : decode cX5_barred 68 = .ok (.iconst 0, 1) := by decide +kernel
theorem dX5_barred_69 : decode cX5_barred 69 = .ok (.ireturn, 1) := by decide +kernel
theorem dX5_goes_0 : decode cX5_goes 0 = .ok (.bipush 39, 2) := by decide +kernel
theorem dX5_goes_2 : decode cX5_goes 2 = .ok (.istore_n 2, 1) := by decide +kernel
theorem dX5_goes_3 : decode cX5_goes 3 = .ok (.iload_n 2, 1) := by decide +kernel
theorem dX5_goes_4 : decode cX5_goes 4 = .ok (.iconst 5, 1) := by decide +kernel
theorem dX5_goes_5 : decode cX5_goes 5 = .ok (.if_icmp .lt 31, 3) := by decide +kernel
theorem dX5_goes_8 : decode cX5_goes 8 = .ok (.aload_n 0, 1) := by decide +kernel
theorem dX5_goes_9 : decode cX5_goes 9 = .ok (.getfield 7, 3) := by decide +kernel
theorem dX5_goes_12 : decode cX5_goes 12 = .ok (.sipush 158, 3) := by decide +kernel
theorem dX5_goes_15 : decode cX5_goes 15 = .ok (.iload_n 2, 1) := by decide +kernel
theorem dX5_goes_16 : decode cX5_goes 16 = .ok (.iadd, 1) := by decide +kernel
theorem dX5_goes_17 : decode cX5_goes 17 = .ok (.aload_n 0, 1) := by decide +kernel
theorem dX5_goes_18 : decode cX5_goes 18 = .ok (.getfield 7, 3) := by decide +kernel
theorem dX5_goes_21 : decode cX5_goes 21 = .ok (.sipush 158, 3) := by decide +kernel
theorem dX5_goes_24 : decode cX5_goes 24 = .ok (.iload_n 2, 1) := by decide +kernel
theorem dX5_goes_25 : decode cX5_goes 25 = .ok (.iadd, 1) := by decide +kernel
theorem dX5_goes_26 : decode cX5_goes 26 = .ok (.iconst 5, 1) := by decide +kernel
theorem dX5_goes_27 : decode cX5_goes 27 = .ok (.isub, 1) := by decide +kernel
theorem dX5_goes_28 : decode cX5_goes 28 = .ok (.iaload, 1) := by decide +kernel
theorem dX5_goes_29 : decode cX5_goes 29 = .ok (.iastore, 1) := by decide +kernel
theorem dX5_goes_30 : decode cX5_goes 30 = .ok (.iinc 2 (-1), 3) := by decide +kernel
theorem dX5_goes_33 : decode cX5_goes 33 = .ok (.goto (-30), 3) := by decide +kernel
theorem dX5_goes_36 : decode cX5_goes 36 = .ok (.aload_n 0, 1) := by decide +kernel
theorem dX5_goes_37 : decode cX5_goes 37 = .ok (.getfield 7, 3) := by decide +kernel
theorem dX5_goes_40 : decode cX5_goes 40 = .ok (.sipush 158, 3) := by decide +kernel
theorem dX5_goes_43 : decode cX5_goes 43 = .ok (.iload_n 1, 1) := by decide +kernel
theorem dX5_goes_44 : decode cX5_goes 44 = .ok (.iastore, 1) := by decide +kernel
theorem dX5_goes_45 : decode cX5_goes 45 = .ok (.aload_n 0, 1) := by decide +kernel
theorem dX5_goes_46 : decode cX5_goes 46 = .ok (.getfield 7, 3) := by decide +kernel
theorem dX5_goes_49 : decode cX5_goes 49 = .ok (.sipush 159, 3) := by decide +kernel
theorem dX5_goes_52 : decode cX5_goes 52 = .ok (.aload_n 0, 1) := by decide +kernel
theorem dX5_goes_53 : decode cX5_goes 53 = .ok (.getfield 7, 3) := by decide +kernel
theorem dX5_goes_56 : decode cX5_goes 56 = .ok (.sipush 151, 3) := by decide +kernel
theorem dX5_goes_59 : decode cX5_goes 59 = .ok (.iaload, 1) := by decide +kernel
theorem dX5_goes_60 : decode cX5_goes 60 = .ok (.iastore, 1) := by decide +kernel
theorem dX5_goes_61 : decode cX5_goes 61 = .ok (.aload_n 0, 1) := by decide +kernel
theorem dX5_goes_62 : decode cX5_goes 62 = .ok (.getfield 7, 3) := by decide +kernel
theorem dX5_goes_65 : decode cX5_goes 65 = .ok (.sipush 160, 3) := by decide +kernel
theorem dX5_goes_68 : decode cX5_goes 68 = .ok (.aload_n 0, 1) := by decide +kernel
theorem dX5_goes_69 : decode cX5_goes 69 = .ok (.getfield 7, 3) := by decide +kernel
theorem dX5_goes_72 : decode cX5_goes 72 = .ok (.sipush 152, 3) := by decide +kernel
theorem dX5_goes_75 : decode cX5_goes 75 = .ok (.iaload, 1) := by decide +kernel
theorem dX5_goes_76 : decode cX5_goes 76 = .ok (.iastore, 1) := by decide +kernel
theorem dX5_goes_77 : decode cX5_goes 77 = .ok (.aload_n 0, 1) := by decide +kernel
theorem dX5_goes_78 : decode cX5_goes 78 = .ok (.getfield 7, 3) := by decide +kernel
theorem dX5_goes_81 : decode cX5_goes 81 = .ok (.sipush 161, 3) := by decide +kernel
theorem dX5_goes_84 : decode cX5_goes 84 = .ok (.aload_n 0, 1) := by decide +kernel
theorem dX5_goes_85 : decode cX5_goes 85 = .ok (.getfield 7, 3) := by decide +kernel
theorem dX5_goes_88 : decode cX5_goes 88 = .ok (.sipush 153, 3) := by decide +kernel
theorem dX5_goes_91 : decode cX5_goes 91 = .ok (.iaload, 1) := by decide +kernel
theorem dX5_goes_92 : decode cX5_goes 92 = .ok (.iastore, 1) := by decide +kernel
theorem dX5_goes_93 : decode cX5_goes 93 = .ok (.aload_n 0, 1) := by decide +kernel
theorem dX5_goes_94 : decode cX5_goes 94 = .ok (.getfield 7, 3) := by decide +kernel
theorem dX5_goes_97 : decode cX5_goes 97 = .ok (.sipush 162, 3) := by decide +kernel
theorem dX5_goes_100 : decode cX5_goes 100 = .ok (.aload_n 0, 1) := by decide +kernel
theorem dX5_goes_101 : decode cX5_goes 101 = .ok (.getfield 7, 3) := by decide +kernel
theorem dX5_goes_104 : decode cX5_goes 104 = .ok (.sipush 155, 3) := by decide +kernel
theorem dX5_goes_107 : decode cX5_goes 107 = .ok (.iaload, 1) := by decide +kernel
theorem dX5_goes_108 : decode cX5_goes 108 = .ok (.iastore, 1) := by decide +kernel
theorem dX5_goes_109 : decode cX5_goes 109 = .ok (.aload_n 0, 1) := by decide +kernel
theorem dX5_goes_110 : decode cX5_goes 110 = .ok (.getfield 7, 3) := by decide +kernel
theorem dX5_goes_113 : decode cX5_goes 113 = .ok (.sipush 210, 3) := by decide +kernel
theorem dX5_goes_116 : decode cX5_goes 116 = .ok (.dup2, 1) := by decide +kernel
theorem dX5_goes_117 : decode cX5_goes 117 = .ok (.iaload, 1) := by decide +kernel
theorem dX5_goes_118 : decode cX5_goes 118 = .ok (.aload_n 0, 1) := by decide +kernel
theorem dX5_goes_119 : decode cX5_goes 119 = .ok (.getfield 7, 3) := by decide +kernel
theorem dX5_goes_122 : decode cX5_goes 122 = .ok (.sipush 210, 3) := by decide +kernel
theorem dX5_goes_125 : decode cX5_goes 125 = .ok (.iaload, 1) := by decide +kernel
theorem dX5_goes_126 : decode cX5_goes 126 = .ok (.bipush 8, 2) := by decide +kernel
theorem dX5_goes_128 : decode cX5_goes 128 = .ok (.if_icmp .ge 7, 3) := by decide +kernel
theorem dX5_goes_131 : decode cX5_goes 131 = .ok (.iconst 1, 1) := by decide +kernel
theorem dX5_goes_132 : decode cX5_goes 132 = .ok (.goto 4, 3) := by decide +kernel
theorem dX5_goes_135 : decode cX5_goes 135 = .ok (.iconst 0, 1) := by decide +kernel
theorem dX5_goes_136 : decode cX5_goes 136 = .ok (.iadd, 1) := by decide +kernel
theorem dX5_goes_137 : decode cX5_goes 137 = .ok (.iastore, 1) := by decide +kernel
theorem dX5_goes_138 : decode cX5_goes 138 = .ok (.aload_n 0, 1) := by decide +kernel
theorem dX5_goes_139 : decode cX5_goes 139 = .ok (.getfield 7, 3) := by decide +kernel
theorem dX5_goes_142 : decode cX5_goes 142 = .ok (.iload_n 1, 1) := by decide +kernel
theorem dX5_goes_143 : decode cX5_goes 143 = .ok (.iconst 3, 1) := by decide +kernel
theorem dX5_goes_144 : decode cX5_goes 144 = .ok (.if_icmp .ne 9, 3) := by decide +kernel
theorem dX5_goes_147 : decode cX5_goes 147 = .ok (.sipush 211, 3) := by decide +kernel
theorem dX5_goes_150 : decode cX5_goes 150 = .ok (.goto 8, 3) := by decide +kernel
theorem dX5_goes_153 : decode cX5_goes 153 = .ok (.sipush 202, 3) := by decide +kernel
theorem dX5_goes_156 : decode cX5_goes 156 = .ok (.iload_n 1, 1) := by decide +kernel
theorem dX5_goes_157 : decode cX5_goes 157 = .ok (.iadd, 1) := by decide +kernel
theorem dX5_goes_158 : decode cX5_goes 158 = .ok (.dup2, 1) := by decide +kernel
theorem dX5_goes_159 : decode cX5_goes 159 = .ok (.iaload, 1) := by decide +kernel
theorem dX5_goes_160 : decode cX5_goes 160 = .ok (.iconst 1, 1) := by decide +kernel
theorem dX5_goes_161 : decode cX5_goes 161 = .ok (.iadd, 1) := by decide +kernel
theorem dX5_goes_162 : decode cX5_goes 162 = .ok (.iastore, 1) := by decide +kernel
theorem dX5_goes_163 : decode cX5_goes 163 = .ok (.aload_n 0, 1) := by decide +kernel
theorem dX5_goes_164 : decode cX5_goes 164 = .ok (.getfield 7, 3) := by decide +kernel
theorem dX5_goes_167 : decode cX5_goes 167 = .ok (.sipush 148, 3) := by decide +kernel
theorem dX5_goes_170 : decode cX5_goes 170 = .ok (.iconst 0, 1) := by decide +kernel
theorem dX5_goes_171 : decode cX5_goes 171 = .ok (.iastore, 1) := by decide +kernel
theorem dX5_goes_172 : decode cX5_goes 172 = .ok (.return_, 1) := by decide +kernel
theorem dX5_coughs_0 : decode cX5_coughs 0 = .ok (.aload_n 0, 1) := by decide +kernel
theorem dX5_coughs_1 : decode cX5_coughs 1 = .ok (.iload_n 1, 1) := by decide +kernel
theorem dX5_coughs_2 : decode cX5_coughs 2 = .ok (.invokevirtual 53, 3) := by decide +kernel
theorem dX5_coughs_5 : decode cX5_coughs 5 = .ok (.istore_n 3, 1) := by decide +kernel
theorem dX5_coughs_6 : decode cX5_coughs 6 = .ok (.aload_n 0, 1) := by decide +kernel
theorem dX5_coughs_7 : decode cX5_coughs 7 = .ok (.iload_n 1, 1) := by decide +kernel
theorem dX5_coughs_8 : decode cX5_coughs 8 = .ok (.bipush 6, 2) := by decide +kernel
theorem dX5_coughs_10 : decode cX5_coughs 10 = .ok (.iconst 1, 1) := by decide +kernel
theorem dX5_coughs_11 : decode cX5_coughs 11 = .ok (.invokevirtual 56, 3) := by decide +kernel
theorem dX5_coughs_14 : decode cX5_coughs 14 = .ok (.aload_n 0, 1) := by decide +kernel
theorem dX5_coughs_15 : decode cX5_coughs 15 = .ok (.getfield 7, 3) := by decide +kernel
theorem dX5_coughs_18 : decode cX5_coughs 18 = .ok (.sipush 206, 3) := by decide +kernel
theorem dX5_coughs_21 : decode cX5_coughs 21 = .ok (.dup2, 1) := by decide +kernel
theorem dX5_coughs_22 : decode cX5_coughs 22 = .ok (.iaload, 1) := by decide +kernel
theorem dX5_coughs_23 : decode cX5_coughs 23 = .ok (.iconst 1, 1) := by decide +kernel
theorem dX5_coughs_24 : decode cX5_coughs 24 = .ok (.iadd, 1) := by decide +kernel
theorem dX5_coughs_25 : decode cX5_coughs 25 = .ok (.iastore, 1) := by decide +kernel
theorem dX5_coughs_26 : decode cX5_coughs 26 = .ok (.iload_n 3, 1) := by decide +kernel
theorem dX5_coughs_27 : decode cX5_coughs 27 = .ok (.ifCond .le 5, 3) := by decide +kernel
theorem dX5_coughs_30 : decode cX5_coughs 30 = .ok (.iconst 0, 1) := by decide +kernel
theorem dX5_coughs_31 : decode cX5_coughs 31 = .ok (.ireturn, 1) := by decide +kernel
theorem dX5_coughs_32 : decode cX5_coughs 32 = .ok (.aload_n 0, 1) := by decide +kernel
theorem dX5_coughs_33 : decode cX5_coughs 33 = .ok (.getfield 7, 3) := by decide +kernel
theorem dX5_coughs_36 : decode cX5_coughs 36 = .ok (.sipush 151, 3) := by decide +kernel
theorem dX5_coughs_39 : decode cX5_coughs 39 = .ok (.aload_n 0, 1) := by decide +kernel
theorem dX5_coughs_40 : decode cX5_coughs 40 = .ok (.invokevirtual 49, 3) := by decide +kernel
theorem dX5_coughs_43 : decode cX5_coughs 43 = .ok (.iastore, 1) := by decide +kernel
theorem dX5_coughs_44 : decode cX5_coughs 44 = .ok (.aload_n 0, 1) := by decide +kernel
theorem dX5_coughs_45 : decode cX5_coughs 45 = .ok (.getfield 7, 3) := by decide +kernel
theorem dX5_coughs_48 : decode cX5_coughs 48 = .ok (.sipush 152, 3) := by decide +kernel
theorem dX5_coughs_51 : decode cX5_coughs 51 = .ok (.iload_n 1, 1) := by decide +kernel
theorem dX5_coughs_52 : decode cX5_coughs 52 = .ok (.iconst 1, 1) := by decide +kernel
theorem dX5_coughs_53 : decode cX5_coughs 53 = .ok (.iadd, 1) := by decide +kernel
theorem dX5_coughs_54 : decode cX5_coughs 54 = .ok (.iastore, 1) := by decide +kernel
theorem dX5_coughs_55 : decode cX5_coughs 55 = .ok (.aload_n 0, 1) := by decide +kernel
theorem dX5_coughs_56 : decode cX5_coughs 56 = .ok (.getfield 7, 3) := by decide +kernel
theorem dX5_coughs_59 : decode cX5_coughs 59 = .ok (.sipush 156, 3) := by decide +kernel
theorem dX5_coughs_62 : decode cX5_coughs 62 = .ok (.iload_n 2, 1) := by decide +kernel
theorem dX5_coughs_63 : decode cX5_coughs 63 = .ok (.iastore, 1) := by decide +kernel
theorem dX5_coughs_64 : decode cX5_coughs 64 = .ok (.aload_n 0, 1) := by decide +kernel
theorem dX5_coughs_65 : decode cX5_coughs 65 = .ok (.getfield 7, 3) := by decide +kernel
theorem dX5_coughs_68 : decode cX5_coughs 68 = .ok (.sipush 157, 3) := by decide +kernel
theorem dX5_coughs_71 : decode cX5_coughs 71 = .ok (.iconst 1, 1) := by decide +kernel
theorem dX5_coughs_72 : decode cX5_coughs 72 = .ok (.iastore, 1) := by decide +kernel
theorem dX5_coughs_73 : decode cX5_coughs 73 = .ok (.aload_n 0, 1) := by decide +kernel
theorem dX5_coughs_74 : decode cX5_coughs 74 = .ok (.getfield 7, 3) := by decide +kernel
theorem dX5_coughs_77 : decode cX5_coughs 77 = .ok (.sipush 155, 3) := by decide +kernel
theorem dX5_coughs_80 : decode cX5_coughs 80 = .ok (.dup2, 1) := by decide +kernel
theorem dX5_coughs_81 : decode cX5_coughs 81 = .ok (.iaload, 1) := by decide +kernel
theorem dX5_coughs_82 : decode cX5_coughs 82 = .ok (.iconst 1, 1) := by decide +kernel
theorem dX5_coughs_83 : decode cX5_coughs 83 = .ok (.iadd, 1) := by decide +kernel
theorem dX5_coughs_84 : decode cX5_coughs 84 = .ok (.iastore, 1) := by decide +kernel
theorem dX5_coughs_85 : decode cX5_coughs 85 = .ok (.aload_n 0, 1) := by decide +kernel
theorem dX5_coughs_86 : decode cX5_coughs 86 = .ok (.getfield 7, 3) := by decide +kernel
theorem dX5_coughs_89 : decode cX5_coughs 89 = .ok (.sipush 207, 3) := by decide +kernel
theorem dX5_coughs_92 : decode cX5_coughs 92 = .ok (.dup2, 1) := by decide +kernel
theorem dX5_coughs_93 : decode cX5_coughs 93 = .ok (.iaload, 1) := by decide +kernel
theorem dX5_coughs_94 : decode cX5_coughs 94 = .ok (.iconst 1, 1) := by decide +kernel
theorem dX5_coughs_95 : decode cX5_coughs 95 = .ok (.iadd, 1) := by decide +kernel
theorem dX5_coughs_96 : decode cX5_coughs 96 = .ok (.iastore, 1) := by decide +kernel
theorem dX5_coughs_97 : decode cX5_coughs 97 = .ok (.aload_n 0, 1) := by decide +kernel
theorem dX5_coughs_98 : decode cX5_coughs 98 = .ok (.iload_n 1, 1) := by decide +kernel
theorem dX5_coughs_99 : decode cX5_coughs 99 = .ok (.bipush 7, 2) := by decide +kernel
theorem dX5_coughs_101 : decode cX5_coughs 101 = .ok (.iconst 1, 1) := by decide +kernel
theorem dX5_coughs_102 : decode cX5_coughs 102 = .ok (.invokevirtual 56, 3) := by decide +kernel
theorem dX5_coughs_105 : decode cX5_coughs 105 = .ok (.aload_n 0, 1) := by decide +kernel
theorem dX5_coughs_106 : decode cX5_coughs 106 = .ok (.iload_n 1, 1) := by decide +kernel
theorem dX5_coughs_107 : decode cX5_coughs 107 = .ok (.iconst 4, 1) := by decide +kernel
theorem dX5_coughs_108 : decode cX5_coughs 108 = .ok (.invokevirtual 40, 3) := by decide +kernel
theorem dX5_coughs_111 : decode cX5_coughs 111 = .ok (.aload_n 0, 1) := by decide +kernel
theorem dX5_coughs_112 : decode cX5_coughs 112 = .ok (.iload_n 1, 1) := by decide +kernel
theorem dX5_coughs_113 : decode cX5_coughs 113 = .ok (.iconst 3, 1) := by decide +kernel
theorem dX5_coughs_114 : decode cX5_coughs 114 = .ok (.invokevirtual 40, 3) := by decide +kernel
theorem dX5_coughs_117 : decode cX5_coughs 117 = .ok (.if_icmp .le 51, 3) := by decide +kernel
theorem dX5_coughs_120 : decode cX5_coughs 120 = .ok (.aload_n 0, 1) := by decide +kernel
theorem dX5_coughs_121 : decode cX5_coughs 121 = .ok (.getfield 7, 3) := by decide +kernel
theorem dX5_coughs_124 : decode cX5_coughs 124 = .ok (.sipush 153, 3) := by decide +kernel
theorem dX5_coughs_127 : decode cX5_coughs 127 = .ok (.dup2, 1) := by decide +kernel
theorem dX5_coughs_128 : decode cX5_coughs 128 = .ok (.iaload, 1) := by decide +kernel
theorem dX5_coughs_129 : decode cX5_coughs 129 = .ok (.iconst 1, 1) := by decide +kernel
theorem dX5_coughs_130 : decode cX5_coughs 130 = .ok (.iadd, 1) := by decide +kernel
theorem dX5_coughs_131 : decode cX5_coughs 131 = .ok (.iastore, 1) := by decide +kernel
theorem dX5_coughs_132 : decode cX5_coughs 132 = .ok (.aload_n 0, 1) := by decide +kernel
theorem dX5_coughs_133 : decode cX5_coughs 133 = .ok (.getfield 7, 3) := by decide +kernel
theorem dX5_coughs_136 : decode cX5_coughs 136 = .ok (.sipush 208, 3) := by decide +kernel
theorem dX5_coughs_139 : decode cX5_coughs 139 = .ok (.dup2, 1) := by decide +kernel
theorem dX5_coughs_140 : decode cX5_coughs 140 = .ok (.iaload, 1) := by decide +kernel
theorem dX5_coughs_141 : decode cX5_coughs 141 = .ok (.iconst 1, 1) := by decide +kernel
theorem dX5_coughs_142 : decode cX5_coughs 142 = .ok (.iadd, 1) := by decide +kernel
theorem dX5_coughs_143 : decode cX5_coughs 143 = .ok (.iastore, 1) := by decide +kernel
theorem dX5_coughs_144 : decode cX5_coughs 144 = .ok (.aload_n 0, 1) := by decide +kernel
theorem dX5_coughs_145 : decode cX5_coughs 145 = .ok (.getfield 7, 3) := by decide +kernel
theorem dX5_coughs_148 : decode cX5_coughs 148 = .ok (.sipush 153, 3) := by decide +kernel
theorem dX5_coughs_151 : decode cX5_coughs 151 = .ok (.iaload, 1) := by decide +kernel
theorem dX5_coughs_152 : decode cX5_coughs 152 = .ok (.aload_n 0, 1) := by decide +kernel
theorem dX5_coughs_153 : decode cX5_coughs 153 = .ok (.getfield 7, 3) := by decide +kernel
theorem dX5_coughs_156 : decode cX5_coughs 156 = .ok (.sipush 213, 3) := by decide +kernel
theorem dX5_coughs_159 : decode cX5_coughs 159 = .ok (.iaload, 1) := by decide +kernel
theorem dX5_coughs_160 : decode cX5_coughs 160 = .ok (.if_icmp .lt 8, 3) := by decide +kernel
theorem dX5_coughs_163 : decode cX5_coughs 163 = .ok (.aload_n 0, 1) := by decide +kernel
theorem dX5_coughs_164 : decode cX5_coughs 164 = .ok (.iconst 1, 1) := by decide +kernel
theorem dX5_coughs_165 : decode cX5_coughs 165 = .ok (.invokevirtual 60, 3) := by decide +kernel
theorem dX5_coughs_168 : decode cX5_coughs 168 = .ok (.aload_n 0, 1) := by decide +kernel
theorem dX5_coughs_169 : decode cX5_coughs 169 = .ok (.getfield 7, 3) := by decide +kernel
theorem dX5_coughs_172 : decode cX5_coughs 172 = .ok (.sipush 151, 3) := by decide +kernel
theorem dX5_coughs_175 : decode cX5_coughs 175 = .ok (.iaload, 1) := by decide +kernel
theorem dX5_coughs_176 : decode cX5_coughs 176 = .ok (.ireturn, 1) := by decide +kernel
theorem dX5_coughsNext_0 : decode cX5_coughsNext 0 = .ok (.aload_n 0, 1) := by decide +kernel
theorem dX5_coughsNext_1 : decode cX5_coughsNext 1 = .ok (.iload_n 1, 1) := by decide +kernel
theorem dX5_coughsNext_2 : decode cX5_coughsNext 2 = .ok (.iconst 4, 1) := by decide +kernel
theorem dX5_coughsNext_3 : decode cX5_coughsNext 3 = .ok (.invokevirtual 40, 3) := by decide +kernel
theorem dX5_coughsNext_6 : decode cX5_coughsNext 6 = .ok (.istore_n 2, 1) := by decide +kernel
theorem dX5_coughsNext_7 : decode cX5_coughsNext 7 = .ok (.iload_n 2, 1) := by decide +kernel
theorem dX5_coughsNext_8 : decode cX5_coughsNext 8 = .ok (.ifCond .le 25, 3) := by decide +kernel
theorem dX5_coughsNext_11 : decode cX5_coughsNext 11 = .ok (.aload_n 0, 1) := by decide +kernel
theorem dX5_coughsNext_12 : decode cX5_coughsNext 12 = .ok (.getfield 7, 3) := by decide +kernel
theorem dX5_coughsNext_15 : decode cX5_coughsNext 15 = .ok (.sipush 198, 3) := by decide +kernel
theorem dX5_coughsNext_18 : decode cX5_coughsNext 18 = .ok (.iaload, 1) := by decide +kernel
theorem dX5_coughsNext_19 : decode cX5_coughsNext 19 = .ok (.iload_n 1, 1) := by decide +kernel
theorem dX5_coughsNext_20 : decode cX5_coughsNext 20 = .ok (.iadd, 1) := by decide +kernel
theorem dX5_coughsNext_21 : decode cX5_coughsNext 21 = .ok (.bipush 7, 2) := by decide +kernel
theorem dX5_coughsNext_23 : decode cX5_coughsNext 23 = .ok (.iload_n 2, 1) := by decide +kernel
theorem dX5_coughsNext_24 : decode cX5_coughsNext 24 = .ok (.isub, 1) := by decide +kernel
theorem dX5_coughsNext_25 : decode cX5_coughsNext 25 = .ok (.irem, 1) := by decide +kernel
theorem dX5_coughsNext_26 : decode cX5_coughsNext 26 = .ok (.ifCond .ne 7, 3) := by decide +kernel
theorem dX5_coughsNext_29 : decode cX5_coughsNext 29 = .ok (.iconst 1, 1) := by decide +kernel
theorem dX5_coughsNext_30 : decode cX5_coughsNext 30 = .ok (.goto 4, 3) := by decide +kernel
theorem dX5_coughsNext_33 : decode cX5_coughsNext 33 = .ok (.iconst 0, 1) := by decide +kernel
theorem dX5_coughsNext_34 : decode cX5_coughsNext 34 = .ok (.ireturn, 1) := by decide +kernel
theorem dX5_hammers_0 : decode cX5_hammers 0 = .ok (.aload_n 0, 1) := by decide +kernel
theorem dX5_hammers_1 : decode cX5_hammers 1 = .ok (.getfield 7, 3) := by decide +kernel
theorem dX5_hammers_4 : decode cX5_hammers 4 = .ok (.sipush 152, 3) := by decide +kernel
theorem dX5_hammers_7 : decode cX5_hammers 7 = .ok (.iaload, 1) := by decide +kernel
theorem dX5_hammers_8 : decode cX5_hammers 8 = .ok (.ifCond .ne 11, 3) := by decide +kernel
theorem dX5_hammers_11 : decode cX5_hammers 11 = .ok (.aload_n 0, 1) := by decide +kernel
theorem dX5_hammers_12 : decode cX5_hammers 12 = .ok (.iconst 2, 1) := by decide +kernel
theorem dX5_hammers_13 : decode cX5_hammers 13 = .ok (.invokevirtual 60, 3) := by decide +kernel
theorem dX5_hammers_16 : decode cX5_hammers 16 = .ok (.goto 96, 3) := by decide +kernel
theorem dX5_hammers_19 : decode cX5_hammers 19 = .ok (.aload_n 0, 1) := by decide +kernel
theorem dX5_hammers_20 : decode cX5_hammers 20 = .ok (.getfield 7, 3) := by decide +kernel
theorem dX5_hammers_23 : decode cX5_hammers 23 = .ok (.sipush 156, 3) := by decide +kernel
theorem dX5_hammers_26 : decode cX5_hammers 26 = .ok (.iaload, 1) := by decide +kernel
theorem dX5_hammers_27 : decode cX5_hammers 27 = .ok (.iconst 1, 1) := by decide +kernel
theorem dX5_hammers_28 : decode cX5_hammers 28 = .ok (.if_icmp .ne 11, 3) := by decide +kernel
theorem dX5_hammers_31 : decode cX5_hammers 31 = .ok (.aload_n 0, 1) := by decide +kernel
theorem dX5_hammers_32 : decode cX5_hammers 32 = .ok (.iconst 3, 1) := by decide +kernel
theorem dX5_hammers_33 : decode cX5_hammers 33 = .ok (.invokevirtual 60, 3) := by decide +kernel
theorem dX5_hammers_36 : decode cX5_hammers 36 = .ok (.goto 76, 3) := by decide +kernel
theorem dX5_hammers_39 : decode cX5_hammers 39 = .ok (.aload_n 0, 1) := by decide +kernel
theorem dX5_hammers_40 : decode cX5_hammers 40 = .ok (.getfield 7, 3) := by decide +kernel
theorem dX5_hammers_43 : decode cX5_hammers 43 = .ok (.sipush 152, 3) := by decide +kernel
theorem dX5_hammers_46 : decode cX5_hammers 46 = .ok (.iaload, 1) := by decide +kernel
theorem dX5_hammers_47 : decode cX5_hammers 47 = .ok (.iconst 1, 1) := by decide +kernel
theorem dX5_hammers_48 : decode cX5_hammers 48 = .ok (.isub, 1) := by decide +kernel
theorem dX5_hammers_49 : decode cX5_hammers 49 = .ok (.istore_n 1, 1) := by decide +kernel
theorem dX5_hammers_50 : decode cX5_hammers 50 = .ok (.aload_n 0, 1) := by decide +kernel
theorem dX5_hammers_51 : decode cX5_hammers 51 = .ok (.iload_n 1, 1) := by decide +kernel
theorem dX5_hammers_52 : decode cX5_hammers 52 = .ok (.iconst 2, 1) := by decide +kernel
theorem dX5_hammers_53 : decode cX5_hammers 53 = .ok (.aload_n 0, 1) := by decide +kernel
theorem dX5_hammers_54 : decode cX5_hammers 54 = .ok (.getfield 7, 3) := by decide +kernel
theorem dX5_hammers_57 : decode cX5_hammers 57 = .ok (.sipush 151, 3) := by decide +kernel
theorem dX5_hammers_60 : decode cX5_hammers 60 = .ok (.iaload, 1) := by decide +kernel
theorem dX5_hammers_61 : decode cX5_hammers 61 = .ok (.ineg, 1) := by decide +kernel
theorem dX5_hammers_62 : decode cX5_hammers 62 = .ok (.invokevirtual 56, 3) := by decide +kernel
theorem dX5_hammers_65 : decode cX5_hammers 65 = .ok (.aload_n 0, 1) := by decide +kernel
theorem dX5_hammers_66 : decode cX5_hammers 66 = .ok (.iload_n 1, 1) := by decide +kernel
theorem dX5_hammers_67 : decode cX5_hammers 67 = .ok (.bipush 9, 2) := by decide +kernel
theorem dX5_hammers_69 : decode cX5_hammers 69 = .ok (.aload_n 0, 1) := by decide +kernel
theorem dX5_hammers_70 : decode cX5_hammers 70 = .ok (.getfield 7, 3) := by decide +kernel
theorem dX5_hammers_73 : decode cX5_hammers 73 = .ok (.sipush 151, 3) := by decide +kernel
theorem dX5_hammers_76 : decode cX5_hammers 76 = .ok (.iaload, 1) := by decide +kernel
theorem dX5_hammers_77 : decode cX5_hammers 77 = .ok (.invokevirtual 56, 3) := by decide +kernel
theorem dX5_hammers_80 : decode cX5_hammers 80 = .ok (.aload_n 0, 1) := by decide +kernel
theorem dX5_hammers_81 : decode cX5_hammers 81 = .ok (.iload_n 1, 1) := by decide +kernel
theorem dX5_hammers_82 : decode cX5_hammers 82 = .ok (.bipush 8, 2) := by decide +kernel
theorem dX5_hammers_84 : decode cX5_hammers 84 = .ok (.iconst 1, 1) := by decide +kernel
theorem dX5_hammers_85 : decode cX5_hammers 85 = .ok (.invokevirtual 56, 3) := by decide +kernel
theorem dX5_hammers_88 : decode cX5_hammers 88 = .ok (.aload_n 0, 1) := by decide +kernel
theorem dX5_hammers_89 : decode cX5_hammers 89 = .ok (.getfield 7, 3) := by decide +kernel
theorem dX5_hammers_92 : decode cX5_hammers 92 = .ok (.sipush 205, 3) := by decide +kernel
theorem dX5_hammers_95 : decode cX5_hammers 95 = .ok (.dup2, 1) := by decide +kernel
theorem dX5_hammers_96 : decode cX5_hammers 96 = .ok (.iaload, 1) := by decide +kernel
theorem dX5_hammers_97 : decode cX5_hammers 97 = .ok (.aload_n 0, 1) := by decide +kernel
theorem dX5_hammers_98 : decode cX5_hammers 98 = .ok (.getfield 7, 3) := by decide +kernel
theorem dX5_hammers_101 : decode cX5_hammers 101 = .ok (.sipush 151, 3) := by decide +kernel
theorem dX5_hammers_104 : decode cX5_hammers 104 = .ok (.iaload, 1) := by decide +kernel
theorem dX5_hammers_105 : decode cX5_hammers 105 = .ok (.iadd, 1) := by decide +kernel
theorem dX5_hammers_106 : decode cX5_hammers 106 = .ok (.iastore, 1) := by decide +kernel
theorem dX5_hammers_107 : decode cX5_hammers 107 = .ok (.aload_n 0, 1) := by decide +kernel
theorem dX5_hammers_108 : decode cX5_hammers 108 = .ok (.iconst 0, 1) := by decide +kernel
theorem dX5_hammers_109 : decode cX5_hammers 109 = .ok (.invokevirtual 60, 3) := by decide +kernel
theorem dX5_hammers_112 : decode cX5_hammers 112 = .ok (.return_, 1) := by decide +kernel
theorem dX5_beat_0 : decode cX5_beat 0 = .ok (.aload_n 0, 1) := by decide +kernel
theorem dX5_beat_1 : decode cX5_beat 1 = .ok (.getfield 7, 3) := by decide +kernel
theorem dX5_beat_4 : decode cX5_beat 4 = .ok (.sipush 148, 3) := by decide +kernel
theorem dX5_beat_7 : decode cX5_beat 7 = .ok (.iaload, 1) := by decide +kernel
theorem dX5_beat_8 : decode cX5_beat 8 = .ok (.iconst 1, 1) := by decide +kernel
theorem dX5_beat_9 : decode cX5_beat 9 = .ok (.if_icmp .ne 7, 3) := by decide +kernel
theorem dX5_beat_12 : decode cX5_beat 12 = .ok (.iconst 1, 1) := by decide +kernel
theorem dX5_beat_13 : decode cX5_beat 13 = .ok (.goto 4, 3) := by decide +kernel
theorem dX5_beat_16 : decode cX5_beat 16 = .ok (.iconst 0, 1) := by decide +kernel
theorem dX5_beat_17 : decode cX5_beat 17 = .ok (.istore_n 1, 1) := by decide +kernel
theorem dX5_beat_18 : decode cX5_beat 18 = .ok (.iconst 0, 1) := by decide +kernel
theorem dX5_beat_19 : decode cX5_beat 19 = .ok (.istore_n 2, 1) := by decide +kernel
theorem dX5_beat_20 : decode cX5_beat 20 = .ok (.iload_n 2, 1) := by decide +kernel
theorem dX5_beat_21 : decode cX5_beat 21 = .ok (.aload_n 0, 1) := by decide +kernel
theorem dX5_beat_22 : decode cX5_beat 22 = .ok (.getfield 7, 3) := by decide +kernel
theorem dX5_beat_25 : decode cX5_beat 25 = .ok (.sipush 199, 3) := by decide +kernel
theorem dX5_beat_28 : decode cX5_beat 28 = .ok (.iaload, 1) := by decide +kernel
theorem dX5_beat_29 : decode cX5_beat 29 = .ok (.if_icmp .ge 38, 3) := by decide +kernel
theorem dX5_beat_32 : decode cX5_beat 32 = .ok (.iload_n 1, 1) := by decide +kernel
theorem dX5_beat_33 : decode cX5_beat 33 = .ok (.ifCond .eq 34, 3) := by decide +kernel
theorem dX5_beat_36 : decode cX5_beat 36 = .ok (.aload_n 0, 1) := by decide +kernel
theorem dX5_beat_37 : decode cX5_beat 37 = .ok (.iload_n 2, 1) := by decide +kernel
theorem dX5_beat_38 : decode cX5_beat 38 = .ok (.invokevirtual 64, 3) := by decide +kernel
theorem dX5_beat_41 : decode cX5_beat 41 = .ok (.ifCond .eq 20, 3) := by decide +kernel
theorem dX5_beat_44 : decode cX5_beat 44 = .ok (.aload_n 0, 1) := by decide +kernel
theorem dX5_beat_45 : decode cX5_beat 45 = .ok (.iload_n 2, 1) := by decide +kernel
theorem dX5_beat_46 : decode cX5_beat 46 = .ok (.iconst 1, 1) := by decide +kernel
theorem dX5_beat_47 : decode cX5_beat 47 = .ok (.invokevirtual 68, 3) := by decide +kernel
theorem dX5_beat_50 : decode cX5_beat 50 = .ok (.istore_n 3, 1) := by decide +kernel
theorem dX5_beat_51 : decode cX5_beat 51 = .ok (.iload_n 3, 1) := by decide +kernel
theorem dX5_beat_52 : decode cX5_beat 52 = .ok (.ifCond .lt 7, 3) := by decide +kernel
theorem dX5_beat_55 : decode cX5_beat 55 = .ok (.iconst 1, 1) := by decide +kernel
theorem dX5_beat_56 : decode cX5_beat 56 = .ok (.goto 4, 3) := by decide +kernel
theorem dX5_beat_59 : decode cX5_beat 59 = .ok (.iconst 0, 1) := by decide +kernel
theorem dX5_beat_60 : decode cX5_beat 60 = .ok (.istore_n 1, 1) := by decide +kernel
theorem dX5_beat_61 : decode cX5_beat 61 = .ok (.iinc 2 1, 3) := by decide +kernel
theorem dX5_beat_64 : decode cX5_beat 64 = .ok (.goto (-44), 3) := by decide +kernel
theorem dX5_beat_67 : decode cX5_beat 67 = .ok (.aload_n 0, 1) := by decide +kernel
theorem dX5_beat_68 : decode cX5_beat 68 = .ok (.getfield 7, 3) := by decide +kernel
theorem dX5_beat_71 : decode cX5_beat 71 = .ok (.sipush 198, 3) := by decide +kernel
theorem dX5_beat_74 : decode cX5_beat 74 = .ok (.dup2, 1) := by decide +kernel
theorem dX5_beat_75 : decode cX5_beat 75 = .ok (.iaload, 1) := by decide +kernel
theorem dX5_beat_76 : decode cX5_beat 76 = .ok (.iconst 1, 1) := by decide +kernel
theorem dX5_beat_77 : decode cX5_beat 77 = .ok (.iadd, 1) := by decide +kernel
theorem dX5_beat_78 : decode cX5_beat 78 = .ok (.iastore, 1) := by decide +kernel
theorem dX5_beat_79 : decode cX5_beat 79 = .ok (.aload_n 0, 1) := by decide +kernel
theorem dX5_beat_80 : decode cX5_beat 80 = .ok (.getfield 7, 3) := by decide +kernel
theorem dX5_beat_83 : decode cX5_beat 83 = .ok (.sipush 148, 3) := by decide +kernel
theorem dX5_beat_86 : decode cX5_beat 86 = .ok (.iaload, 1) := by decide +kernel
theorem dX5_beat_87 : decode cX5_beat 87 = .ok (.iconst 1, 1) := by decide +kernel
theorem dX5_beat_88 : decode cX5_beat 88 = .ok (.if_icmp .ne 69, 3) := by decide +kernel
theorem dX5_beat_91 : decode cX5_beat 91 = .ok (.aload_n 0, 1) := by decide +kernel
theorem dX5_beat_92 : decode cX5_beat 92 = .ok (.getfield 7, 3) := by decide +kernel
theorem dX5_beat_95 : decode cX5_beat 95 = .ok (.sipush 154, 3) := by decide +kernel
theorem dX5_beat_98 : decode cX5_beat 98 = .ok (.aload_n 0, 1) := by decide +kernel
theorem dX5_beat_99 : decode cX5_beat 99 = .ok (.getfield 7, 3) := by decide +kernel
theorem dX5_beat_102 : decode cX5_beat 102 = .ok (.sipush 157, 3) := by decide +kernel
theorem dX5_beat_105 : decode cX5_beat 105 = .ok (.iaload, 1) := by decide +kernel
theorem dX5_beat_106 : decode cX5_beat 106 = .ok (.iconst 1, 1) := by decide +kernel
theorem dX5_beat_107 : decode cX5_beat 107 = .ok (.if_icmp .ne 7, 3) := by decide +kernel
theorem dX5_beat_110 : decode cX5_beat 110 = .ok (.iconst 0, 1) := by decide +kernel
theorem dX5_beat_111 : decode cX5_beat 111 = .ok (.goto 13, 3) := by decide +kernel
theorem dX5_beat_114 : decode cX5_beat 114 = .ok (.aload_n 0, 1) := by decide +kernel
theorem dX5_beat_115 : decode cX5_beat 115 = .ok (.getfield 7, 3) := by decide +kernel
theorem dX5_beat_118 : decode cX5_beat 118 = .ok (.sipush 154, 3) := by decide +kernel
theorem dX5_beat_121 : decode cX5_beat 121 = .ok (.iaload, 1) := by decide +kernel
theorem dX5_beat_122 : decode cX5_beat 122 = .ok (.iconst 1, 1) := by decide +kernel
theorem dX5_beat_123 : decode cX5_beat 123 = .ok (.iadd, 1) := by decide +kernel
theorem dX5_beat_124 : decode cX5_beat 124 = .ok (.iastore, 1) := by decide +kernel
theorem dX5_beat_125 : decode cX5_beat 125 = .ok (.aload_n 0, 1) := by decide +kernel
theorem dX5_beat_126 : decode cX5_beat 126 = .ok (.getfield 7, 3) := by decide +kernel
theorem dX5_beat_129 : decode cX5_beat 129 = .ok (.sipush 157, 3) := by decide +kernel
theorem dX5_beat_132 : decode cX5_beat 132 = .ok (.iconst 0, 1) := by decide +kernel
theorem dX5_beat_133 : decode cX5_beat 133 = .ok (.iastore, 1) := by decide +kernel
theorem dX5_beat_134 : decode cX5_beat 134 = .ok (.aload_n 0, 1) := by decide +kernel
theorem dX5_beat_135 : decode cX5_beat 135 = .ok (.getfield 7, 3) := by decide +kernel
theorem dX5_beat_138 : decode cX5_beat 138 = .ok (.sipush 154, 3) := by decide +kernel
theorem dX5_beat_141 : decode cX5_beat 141 = .ok (.iaload, 1) := by decide +kernel
theorem dX5_beat_142 : decode cX5_beat 142 = .ok (.aload_n 0, 1) := by decide +kernel
theorem dX5_beat_143 : decode cX5_beat 143 = .ok (.getfield 7, 3) := by decide +kernel
theorem dX5_beat_146 : decode cX5_beat 146 = .ok (.sipush 214, 3) := by decide +kernel
theorem dX5_beat_149 : decode cX5_beat 149 = .ok (.iaload, 1) := by decide +kernel
theorem dX5_beat_150 : decode cX5_beat 150 = .ok (.if_icmp .lt 7, 3) := by decide +kernel
theorem dX5_beat_153 : decode cX5_beat 153 = .ok (.aload_n 0, 1) := by decide +kernel
theorem dX5_beat_154 : decode cX5_beat 154 = .ok (.invokevirtual 71, 3) := by decide +kernel
theorem dX5_beat_157 : decode cX5_beat 157 = .ok (.return_, 1) := by decide +kernel
theorem dX5_bidder_0 : decode cX5_bidder 0 = .ok (.iload_n 1, 1) := by decide +kernel
theorem dX5_bidder_1 : decode cX5_bidder 1 = .ok (.iload_n 2, 1) := by decide +kernel
theorem dX5_bidder_2 : decode cX5_bidder 2 = .ok (.invokestatic 74, 3) := by decide +kernel
theorem dX5_bidder_5 : decode cX5_bidder 5 = .ok (.ifCond .eq 25, 3) := by decide +kernel
theorem dX5_bidder_8 : decode cX5_bidder 8 = .ok (.iload_n 3, 1) := by decide +kernel
theorem dX5_bidder_9 : decode cX5_bidder 9 = .ok (.iconst 0, 1) := by decide +kernel
theorem dX5_bidder_10 : decode cX5_bidder 10 = .ok (.sipush 999, 3) := by decide +kernel
theorem dX5_bidder_13 : decode cX5_bidder 13 = .ok (.invokestatic 36, 3) := by decide +kernel
theorem dX5_bidder_16 : decode cX5_bidder 16 = .ok (.ifCond .eq 14, 3) := by decide +kernel
theorem dX5_bidder_19 : decode cX5_bidder 19 = .ok (.iload 4, 2) := by decide +kernel
theorem dX5_bidder_21 : decode cX5_bidder 21 = .ok (.iconst 1, 1) := by decide +kernel
theorem dX5_bidder_22 : decode cX5_bidder 22 = .ok (.bipush 9, 2) := by decide +kernel
theorem dX5_bidder_24 : decode cX5_bidder 24 = .ok (.invokestatic 36, 3) := by decide +kernel
theorem dX5_bidder_27 : decode cX5_bidder 27 = .ok (.ifCond .ne 6, 3) := by decide +kernel
theorem dX5_bidder_30 : decode cX5_bidder 30 = .ok (.ldc 78, 2) := by decide +kernel
theorem dX5_bidder_32 : decode cX5_bidder 32 = .ok (.ireturn, 1) := by decide +kernel
theorem dX5_bidder_33 : decode cX5_bidder 33 = .ok (.aload_n 0, 1) := by decide +kernel
theorem dX5_bidder_34 : decode cX5_bidder 34 = .ok (.iload_n 1, 1) := by decide +kernel
theorem dX5_bidder_35 : decode cX5_bidder 35 = .ok (.iload_n 2, 1) := by decide +kernel
theorem dX5_bidder_36 : decode cX5_bidder 36 = .ok (.invokevirtual 79, 3) := by decide +kernel
theorem dX5_bidder_39 : decode cX5_bidder 39 = .ok (.ifCond .lt 6, 3) := by decide +kernel
theorem dX5_bidder_42 : decode cX5_bidder 42 = .ok (.ldc 82, 2) := by decide +kernel
theorem dX5_bidder_44 : decode cX5_bidder 44 = .ok (.ireturn, 1) := by decide +kernel
theorem dX5_bidder_45 : decode cX5_bidder 45 = .ok (.aload_n 0, 1) := by decide +kernel
theorem dX5_bidder_46 : decode cX5_bidder 46 = .ok (.getfield 7, 3) := by decide +kernel
theorem dX5_bidder_49 : decode cX5_bidder 49 = .ok (.sipush 199, 3) := by decide +kernel
theorem dX5_bidder_52 : decode cX5_bidder 52 = .ok (.iaload, 1) := by decide +kernel
theorem dX5_bidder_53 : decode cX5_bidder 53 = .ok (.bipush 12, 2) := by decide +kernel
theorem dX5_bidder_55 : decode cX5_bidder 55 = .ok (.if_icmp .ne 6, 3) := by decide +kernel
theorem dX5_bidder_58 : decode cX5_bidder 58 = .ok (.ldc 83, 2) := by decide +kernel
theorem dX5_bidder_60 : decode cX5_bidder 60 = .ok (.ireturn, 1) := by decide +kernel
theorem dX5_bidder_61 : decode cX5_bidder 61 = .ok (.aload_n 0, 1) := by decide +kernel
theorem dX5_bidder_62 : decode cX5_bidder 62 = .ok (.invokevirtual 84, 3) := by decide +kernel
theorem dX5_bidder_65 : decode cX5_bidder 65 = .ok (.aload_n 0, 1) := by decide +kernel
theorem dX5_bidder_66 : decode cX5_bidder 66 = .ok (.getfield 7, 3) := by decide +kernel
theorem dX5_bidder_69 : decode cX5_bidder 69 = .ok (.sipush 199, 3) := by decide +kernel
theorem dX5_bidder_72 : decode cX5_bidder 72 = .ok (.iaload, 1) := by decide +kernel
theorem dX5_bidder_73 : decode cX5_bidder 73 = .ok (.istore 5, 2) := by decide +kernel
theorem dX5_bidder_75 : decode cX5_bidder 75 = .ok (.aload_n 0, 1) := by decide +kernel
theorem dX5_bidder_76 : decode cX5_bidder 76 = .ok (.iload 5, 2) := by decide +kernel
theorem dX5_bidder_78 : decode cX5_bidder 78 = .ok (.iconst 0, 1) := by decide +kernel
theorem dX5_bidder_79 : decode cX5_bidder 79 = .ok (.iload_n 1, 1) := by decide +kernel
theorem dX5_bidder_80 : decode cX5_bidder 80 = .ok (.invokevirtual 87, 3) := by decide +kernel
theorem dX5_bidder_83 : decode cX5_bidder 83 = .ok (.aload_n 0, 1) := by decide +kernel
theorem dX5_bidder_84 : decode cX5_bidder 84 = .ok (.iload 5, 2) := by decide +kernel
theorem dX5_bidder_86 : decode cX5_bidder 86 = .ok (.iconst 1, 1) := by decide +kernel
theorem dX5_bidder_87 : decode cX5_bidder 87 = .ok (.iload_n 2, 1) := by decide +kernel
theorem dX5_bidder_88 : decode cX5_bidder 88 = .ok (.invokevirtual 87, 3) := by decide +kernel
theorem dX5_bidder_91 : decode cX5_bidder 91 = .ok (.aload_n 0, 1) := by decide +kernel
theorem dX5_bidder_92 : decode cX5_bidder 92 = .ok (.iload 5, 2) := by decide +kernel
theorem dX5_bidder_94 : decode cX5_bidder 94 = .ok (.iconst 2, 1) := by decide +kernel
theorem dX5_bidder_95 : decode cX5_bidder 95 = .ok (.iload_n 3, 1) := by decide +kernel
theorem dX5_bidder_96 : decode cX5_bidder 96 = .ok (.invokevirtual 87, 3) := by decide +kernel
theorem dX5_bidder_99 : decode cX5_bidder 99 = .ok (.aload_n 0, 1) := by decide +kernel
theorem dX5_bidder_100 : decode cX5_bidder 100 = .ok (.iload 5, 2) := by decide +kernel
theorem dX5_bidder_102 : decode cX5_bidder 102 = .ok (.iconst 3, 1) := by decide +kernel
theorem dX5_bidder_103 : decode cX5_bidder 103 = .ok (.iload 4, 2) := by decide +kernel
theorem dX5_bidder_105 : decode cX5_bidder 105 = .ok (.invokevirtual 87, 3) := by decide +kernel
theorem dX5_bidder_108 : decode cX5_bidder 108 = .ok (.aload_n 0, 1) := by decide +kernel
theorem dX5_bidder_109 : decode cX5_bidder 109 = .ok (.iload 5, 2) := by decide +kernel
theorem dX5_bidder_111 : decode cX5_bidder 111 = .ok (.bipush 10, 2) := by decide +kernel
theorem dX5_bidder_113 : decode cX5_bidder 113 = .ok (.iload_n 3, 1) := by decide +kernel
theorem dX5_bidder_114 : decode cX5_bidder 114 = .ok (.invokevirtual 87, 3) := by decide +kernel
theorem dX5_bidder_117 : decode cX5_bidder 117 = .ok (.aload_n 0, 1) := by decide +kernel
theorem dX5_bidder_118 : decode cX5_bidder 118 = .ok (.getfield 7, 3) := by decide +kernel
theorem dX5_bidder_121 : decode cX5_bidder 121 = .ok (.sipush 199, 3) := by decide +kernel
theorem dX5_bidder_124 : decode cX5_bidder 124 = .ok (.dup2, 1) := by decide +kernel
theorem dX5_bidder_125 : decode cX5_bidder 125 = .ok (.iaload, 1) := by decide +kernel
theorem dX5_bidder_126 : decode cX5_bidder 126 = .ok (.iconst 1, 1) := by decide +kernel
theorem dX5_bidder_127 : decode cX5_bidder 127 = .ok (.iadd, 1) := by decide +kernel
theorem dX5_bidder_128 : decode cX5_bidder 128 = .ok (.iastore, 1) := by decide +kernel
theorem dX5_bidder_129 : decode cX5_bidder 129 = .ok (.iload 5, 2) := by decide +kernel
theorem dX5_bidder_131 : decode cX5_bidder 131 = .ok (.ireturn, 1) := by decide +kernel
theorem dX5_catches_0 : decode cX5_catches 0 = .ok (.aload_n 0, 1) := by decide +kernel
theorem dX5_catches_1 : decode cX5_catches 1 = .ok (.iload_n 1, 1) := by decide +kernel
theorem dX5_catches_2 : decode cX5_catches 2 = .ok (.invokevirtual 90, 3) := by decide +kernel
theorem dX5_catches_5 : decode cX5_catches 5 = .ok (.ifCond .eq 12, 3) := by decide +kernel
theorem dX5_catches_8 : decode cX5_catches 8 = .ok (.iload_n 2, 1) := by decide +kernel
theorem dX5_catches_9 : decode cX5_catches 9 = .ok (.iconst 0, 1) := by decide +kernel
theorem dX5_catches_10 : decode cX5_catches 10 = .ok (.iconst 5, 1) := by decide +kernel
theorem dX5_catches_11 : decode cX5_catches 11 = .ok (.invokestatic 36, 3) := by decide +kernel
theorem dX5_catches_14 : decode cX5_catches 14 = .ok (.ifCond .ne 6, 3) := by decide +kernel
theorem dX5_catches_17 : decode cX5_catches 17 = .ok (.ldc 78, 2) := by decide +kernel
theorem dX5_catches_19 : decode cX5_catches 19 = .ok (.ireturn, 1) := by decide +kernel
theorem dX5_catches_20 : decode cX5_catches 20 = .ok (.aload_n 0, 1) := by decide +kernel
theorem dX5_catches_21 : decode cX5_catches 21 = .ok (.invokevirtual 84, 3) := by decide +kernel
theorem dX5_catches_24 : decode cX5_catches 24 = .ok (.aload_n 0, 1) := by decide +kernel
theorem dX5_catches_25 : decode cX5_catches 25 = .ok (.iload_n 1, 1) := by decide +kernel
theorem dX5_catches_26 : decode cX5_catches 26 = .ok (.iconst 4, 1) := by decide +kernel
theorem dX5_catches_27 : decode cX5_catches 27 = .ok (.invokevirtual 40, 3) := by decide +kernel
theorem dX5_catches_30 : decode cX5_catches 30 = .ok (.istore_n 3, 1) := by decide +kernel
theorem dX5_catches_31 : decode cX5_catches 31 = .ok (.aload_n 0, 1) := by decide +kernel
theorem dX5_catches_32 : decode cX5_catches 32 = .ok (.iload_n 1, 1) := by decide +kernel
theorem dX5_catches_33 : decode cX5_catches 33 = .ok (.iconst 4, 1) := by decide +kernel
theorem dX5_catches_34 : decode cX5_catches 34 = .ok (.iload_n 2, 1) := by decide +kernel
theorem dX5_catches_35 : decode cX5_catches 35 = .ok (.invokevirtual 87, 3) := by decide +kernel
theorem dX5_catches_38 : decode cX5_catches 38 = .ok (.iload_n 3, 1) := by decide +kernel
theorem dX5_catches_39 : decode cX5_catches 39 = .ok (.ireturn, 1) := by decide +kernel
theorem dX5_muffle_0 : decode cX5_muffle 0 = .ok (.aload_n 0, 1) := by decide +kernel
theorem dX5_muffle_1 : decode cX5_muffle 1 = .ok (.iload_n 1, 1) := by decide +kernel
theorem dX5_muffle_2 : decode cX5_muffle 2 = .ok (.invokevirtual 90, 3) := by decide +kernel
theorem dX5_muffle_5 : decode cX5_muffle 5 = .ok (.ifCond .eq 12, 3) := by decide +kernel
theorem dX5_muffle_8 : decode cX5_muffle 8 = .ok (.iload_n 2, 1) := by decide +kernel
theorem dX5_muffle_9 : decode cX5_muffle 9 = .ok (.iconst 0, 1) := by decide +kernel
theorem dX5_muffle_10 : decode cX5_muffle 10 = .ok (.iconst 5, 1) := by decide +kernel
theorem dX5_muffle_11 : decode cX5_muffle 11 = .ok (.invokestatic 36, 3) := by decide +kernel
theorem dX5_muffle_14 : decode cX5_muffle 14 = .ok (.ifCond .ne 6, 3) := by decide +kernel
theorem dX5_muffle_17 : decode cX5_muffle 17 = .ok (.ldc 78, 2) := by decide +kernel
theorem dX5_muffle_19 : decode cX5_muffle 19 = .ok (.ireturn, 1) := by decide +kernel
theorem dX5_muffle_20 : decode cX5_muffle 20 = .ok (.aload_n 0, 1) := by decide +kernel
theorem dX5_muffle_21 : decode cX5_muffle 21 = .ok (.invokevirtual 84, 3) := by decide +kernel
theorem dX5_muffle_24 : decode cX5_muffle 24 = .ok (.aload_n 0, 1) := by decide +kernel
theorem dX5_muffle_25 : decode cX5_muffle 25 = .ok (.iload_n 1, 1) := by decide +kernel
theorem dX5_muffle_26 : decode cX5_muffle 26 = .ok (.iconst 5, 1) := by decide +kernel
theorem dX5_muffle_27 : decode cX5_muffle 27 = .ok (.invokevirtual 40, 3) := by decide +kernel
theorem dX5_muffle_30 : decode cX5_muffle 30 = .ok (.istore_n 3, 1) := by decide +kernel
theorem dX5_muffle_31 : decode cX5_muffle 31 = .ok (.aload_n 0, 1) := by decide +kernel
theorem dX5_muffle_32 : decode cX5_muffle 32 = .ok (.iload_n 1, 1) := by decide +kernel
theorem dX5_muffle_33 : decode cX5_muffle 33 = .ok (.iconst 5, 1) := by decide +kernel
theorem dX5_muffle_34 : decode cX5_muffle 34 = .ok (.iload_n 2, 1) := by decide +kernel
theorem dX5_muffle_35 : decode cX5_muffle 35 = .ok (.invokevirtual 87, 3) := by decide +kernel
theorem dX5_muffle_38 : decode cX5_muffle 38 = .ok (.iload_n 3, 1) := by decide +kernel
theorem dX5_muffle_39 : decode cX5_muffle 39 = .ok (.ireturn, 1) := by decide +kernel
theorem dX5_lot_0 : decode cX5_lot 0 = .ok (.iload_n 1, 1) := by decide +kernel
theorem dX5_lot_1 : decode cX5_lot 1 = .ok (.iconst 1, 1) := by decide +kernel
theorem dX5_lot_2 : decode cX5_lot 2 = .ok (.bipush 99, 2) := by decide +kernel
theorem dX5_lot_4 : decode cX5_lot 4 = .ok (.invokestatic 36, 3) := by decide +kernel
theorem dX5_lot_7 : decode cX5_lot 7 = .ok (.ifCond .eq 13, 3) := by decide +kernel
theorem dX5_lot_10 : decode cX5_lot 10 = .ok (.iload_n 2, 1) := by decide +kernel
theorem dX5_lot_11 : decode cX5_lot 11 = .ok (.iconst 1, 1) := by decide +kernel
theorem dX5_lot_12 : decode cX5_lot 12 = .ok (.bipush 20, 2) := by decide +kernel
theorem dX5_lot_14 : decode cX5_lot 14 = .ok (.invokestatic 36, 3) := by decide +kernel
theorem dX5_lot_17 : decode cX5_lot 17 = .ok (.ifCond .ne 6, 3) := by decide +kernel
theorem dX5_lot_20 : decode cX5_lot 20 = .ok (.ldc 78, 2) := by decide +kernel
theorem dX5_lot_22 : decode cX5_lot 22 = .ok (.ireturn, 1) := by decide +kernel
theorem dX5_lot_23 : decode cX5_lot 23 = .ok (.aload_n 0, 1) := by decide +kernel
theorem dX5_lot_24 : decode cX5_lot 24 = .ok (.getfield 7, 3) := by decide +kernel
theorem dX5_lot_27 : decode cX5_lot 27 = .ok (.sipush 200, 3) := by decide +kernel
theorem dX5_lot_30 : decode cX5_lot 30 = .ok (.iaload, 1) := by decide +kernel
theorem dX5_lot_31 : decode cX5_lot 31 = .ok (.bipush 8, 2) := by decide +kernel
theorem dX5_lot_33 : decode cX5_lot 33 = .ok (.if_icmp .ne 6, 3) := by decide +kernel
theorem dX5_lot_36 : decode cX5_lot 36 = .ok (.ldc 83, 2) := by decide +kernel
theorem dX5_lot_38 : decode cX5_lot 38 = .ok (.ireturn, 1) := by decide +kernel
theorem dX5_lot_39 : decode cX5_lot 39 = .ok (.aload_n 0, 1) := by decide +kernel
theorem dX5_lot_40 : decode cX5_lot 40 = .ok (.invokevirtual 84, 3) := by decide +kernel
theorem dX5_lot_43 : decode cX5_lot 43 = .ok (.aload_n 0, 1) := by decide +kernel
theorem dX5_lot_44 : decode cX5_lot 44 = .ok (.getfield 7, 3) := by decide +kernel
theorem dX5_lot_47 : decode cX5_lot 47 = .ok (.sipush 132, 3) := by decide +kernel
theorem dX5_lot_50 : decode cX5_lot 50 = .ok (.iconst 2, 1) := by decide +kernel
theorem dX5_lot_51 : decode cX5_lot 51 = .ok (.aload_n 0, 1) := by decide +kernel
theorem dX5_lot_52 : decode cX5_lot 52 = .ok (.getfield 7, 3) := by decide +kernel
theorem dX5_lot_55 : decode cX5_lot 55 = .ok (.sipush 200, 3) := by decide +kernel
theorem dX5_lot_58 : decode cX5_lot 58 = .ok (.iaload, 1) := by decide +kernel
theorem dX5_lot_59 : decode cX5_lot 59 = .ok (.imul, 1) := by decide +kernel
theorem dX5_lot_60 : decode cX5_lot 60 = .ok (.iadd, 1) := by decide +kernel
theorem dX5_lot_61 : decode cX5_lot 61 = .ok (.iload_n 1, 1) := by decide +kernel
theorem dX5_lot_62 : decode cX5_lot 62 = .ok (.iastore, 1) := by decide +kernel
theorem dX5_lot_63 : decode cX5_lot 63 = .ok (.aload_n 0, 1) := by decide +kernel
theorem dX5_lot_64 : decode cX5_lot 64 = .ok (.getfield 7, 3) := by decide +kernel
theorem dX5_lot_67 : decode cX5_lot 67 = .ok (.sipush 132, 3) := by decide +kernel
theorem dX5_lot_70 : decode cX5_lot 70 = .ok (.iconst 2, 1) := by decide +kernel
theorem dX5_lot_71 : decode cX5_lot 71 = .ok (.aload_n 0, 1) := by decide +kernel
theorem dX5_lot_72 : decode cX5_lot 72 = .ok (.getfield 7, 3) := by decide +kernel
theorem dX5_lot_75 : decode cX5_lot 75 = .ok (.sipush 200, 3) := by decide +kernel
theorem dX5_lot_78 : decode cX5_lot 78 = .ok (.iaload, 1) := by decide +kernel
theorem dX5_lot_79 : decode cX5_lot 79 = .ok (.imul, 1) := by decide +kernel
theorem dX5_lot_80 : decode cX5_lot 80 = .ok (.iadd, 1) := by decide +kernel
theorem dX5_lot_81 : decode cX5_lot 81 = .ok (.iconst 1, 1) := by decide +kernel
theorem dX5_lot_82 : decode cX5_lot 82 = .ok (.iadd, 1) := by decide +kernel
theorem dX5_lot_83 : decode cX5_lot 83 = .ok (.iload_n 2, 1) := by decide +kernel
theorem dX5_lot_84 : decode cX5_lot 84 = .ok (.iastore, 1) := by decide +kernel
theorem dX5_lot_85 : decode cX5_lot 85 = .ok (.aload_n 0, 1) := by decide +kernel
theorem dX5_lot_86 : decode cX5_lot 86 = .ok (.getfield 7, 3) := by decide +kernel
theorem dX5_lot_89 : decode cX5_lot 89 = .ok (.sipush 200, 3) := by decide +kernel
theorem dX5_lot_92 : decode cX5_lot 92 = .ok (.dup2, 1) := by decide +kernel
theorem dX5_lot_93 : decode cX5_lot 93 = .ok (.iaload, 1) := by decide +kernel
theorem dX5_lot_94 : decode cX5_lot 94 = .ok (.iconst 1, 1) := by decide +kernel
theorem dX5_lot_95 : decode cX5_lot 95 = .ok (.iadd, 1) := by decide +kernel
theorem dX5_lot_96 : decode cX5_lot 96 = .ok (.iastore, 1) := by decide +kernel
theorem dX5_lot_97 : decode cX5_lot 97 = .ok (.aload_n 0, 1) := by decide +kernel
theorem dX5_lot_98 : decode cX5_lot 98 = .ok (.getfield 7, 3) := by decide +kernel
theorem dX5_lot_101 : decode cX5_lot 101 = .ok (.sipush 201, 3) := by decide +kernel
theorem dX5_lot_104 : decode cX5_lot 104 = .ok (.dup2, 1) := by decide +kernel
theorem dX5_lot_105 : decode cX5_lot 105 = .ok (.iaload, 1) := by decide +kernel
theorem dX5_lot_106 : decode cX5_lot 106 = .ok (.iconst 1, 1) := by decide +kernel
theorem dX5_lot_107 : decode cX5_lot 107 = .ok (.iadd, 1) := by decide +kernel
theorem dX5_lot_108 : decode cX5_lot 108 = .ok (.iastore, 1) := by decide +kernel
theorem dX5_lot_109 : decode cX5_lot 109 = .ok (.aload_n 0, 1) := by decide +kernel
theorem dX5_lot_110 : decode cX5_lot 110 = .ok (.getfield 7, 3) := by decide +kernel
theorem dX5_lot_113 : decode cX5_lot 113 = .ok (.sipush 200, 3) := by decide +kernel
theorem dX5_lot_116 : decode cX5_lot 116 = .ok (.iaload, 1) := by decide +kernel
theorem dX5_lot_117 : decode cX5_lot 117 = .ok (.ireturn, 1) := by decide +kernel
theorem dX5_putUp_0 : decode cX5_putUp 0 = .ok (.aload_n 0, 1) := by decide +kernel
theorem dX5_putUp_1 : decode cX5_putUp 1 = .ok (.getfield 7, 3) := by decide +kernel
theorem dX5_putUp_4 : decode cX5_putUp 4 = .ok (.sipush 148, 3) := by decide +kernel
theorem dX5_putUp_7 : decode cX5_putUp 7 = .ok (.iaload, 1) := by decide +kernel
theorem dX5_putUp_8 : decode cX5_putUp 8 = .ok (.iconst 1, 1) := by decide +kernel
theorem dX5_putUp_9 : decode cX5_putUp 9 = .ok (.if_icmp .eq 14, 3) := by decide +kernel
theorem dX5_putUp_12 : decode cX5_putUp 12 = .ok (.aload_n 0, 1) := by decide +kernel
theorem dX5_putUp_13 : decode cX5_putUp 13 = .ok (.getfield 7, 3) := by decide +kernel
theorem dX5_putUp_16 : decode cX5_putUp 16 = .ok (.sipush 200, 3) := by decide +kernel
theorem dX5_putUp_19 : decode cX5_putUp 19 = .ok (.iaload, 1) := by decide +kernel
theorem dX5_putUp_20 : decode cX5_putUp 20 = .ok (.ifCond .ne 6, 3) := by decide +kernel
theorem dX5_putUp_23 : decode cX5_putUp 23 = .ok (.ldc 82, 2) := by decide +kernel
theorem dX5_putUp_25 : decode cX5_putUp 25 = .ok (.ireturn, 1) := by decide +kernel
theorem dX5_putUp_26 : decode cX5_putUp 26 = .ok (.aload_n 0, 1) := by decide +kernel
theorem dX5_putUp_27 : decode cX5_putUp 27 = .ok (.invokevirtual 84, 3) := by decide +kernel
theorem dX5_putUp_30 : decode cX5_putUp 30 = .ok (.aload_n 0, 1) := by decide +kernel
theorem dX5_putUp_31 : decode cX5_putUp 31 = .ok (.getfield 7, 3) := by decide +kernel
theorem dX5_putUp_34 : decode cX5_putUp 34 = .ok (.sipush 148, 3) := by decide +kernel
theorem dX5_putUp_37 : decode cX5_putUp 37 = .ok (.iconst 1, 1) := by decide +kernel
theorem dX5_putUp_38 : decode cX5_putUp 38 = .ok (.iastore, 1) := by decide +kernel
theorem dX5_putUp_39 : decode cX5_putUp 39 = .ok (.aload_n 0, 1) := by decide +kernel
theorem dX5_putUp_40 : decode cX5_putUp 40 = .ok (.getfield 7, 3) := by decide +kernel
theorem dX5_putUp_43 : decode cX5_putUp 43 = .ok (.sipush 149, 3) := by decide +kernel
theorem dX5_putUp_46 : decode cX5_putUp 46 = .ok (.aload_n 0, 1) := by decide +kernel
theorem dX5_putUp_47 : decode cX5_putUp 47 = .ok (.getfield 7, 3) := by decide +kernel
theorem dX5_putUp_50 : decode cX5_putUp 50 = .ok (.sipush 132, 3) := by decide +kernel
theorem dX5_putUp_53 : decode cX5_putUp 53 = .ok (.iaload, 1) := by decide +kernel
theorem dX5_putUp_54 : decode cX5_putUp 54 = .ok (.iastore, 1) := by decide +kernel
theorem dX5_putUp_55 : decode cX5_putUp 55 = .ok (.aload_n 0, 1) := by decide +kernel
theorem dX5_putUp_56 : decode cX5_putUp 56 = .ok (.getfield 7, 3) := by decide +kernel
theorem dX5_putUp_59 : decode cX5_putUp 59 = .ok (.sipush 150, 3) := by decide +kernel
theorem dX5_putUp_62 : decode cX5_putUp 62 = .ok (.aload_n 0, 1) := by decide +kernel
theorem dX5_putUp_63 : decode cX5_putUp 63 = .ok (.getfield 7, 3) := by decide +kernel
theorem dX5_putUp_66 : decode cX5_putUp 66 = .ok (.sipush 133, 3) := by decide +kernel
theorem dX5_putUp_69 : decode cX5_putUp 69 = .ok (.iaload, 1) := by decide +kernel
theorem dX5_putUp_70 : decode cX5_putUp 70 = .ok (.iastore, 1) := by decide +kernel
theorem dX5_putUp_71 : decode cX5_putUp 71 = .ok (.sipush 151, 3) := by decide +kernel
theorem dX5_putUp_74 : decode cX5_putUp 74 = .ok (.istore_n 1, 1) := by decide +kernel
theorem dX5_putUp_75 : decode cX5_putUp 75 = .ok (.iload_n 1, 1) := by decide +kernel
theorem dX5_putUp_76 : decode cX5_putUp 76 = .ok (.sipush 157, 3) := by decide +kernel
theorem dX5_putUp_79 : decode cX5_putUp 79 = .ok (.if_icmp .gt 16, 3) := by decide +kernel
theorem dX5_putUp_82 : decode cX5_putUp 82 = .ok (.aload_n 0, 1) := by decide +kernel
theorem dX5_putUp_83 : decode cX5_putUp 83 = .ok (.getfield 7, 3) := by decide +kernel
theorem dX5_putUp_86 : decode cX5_putUp 86 = .ok (.iload_n 1, 1) := by decide +kernel
theorem dX5_putUp_87 : decode cX5_putUp 87 = .ok (.iconst 0, 1) := by decide +kernel
theorem dX5_putUp_88 : decode cX5_putUp 88 = .ok (.iastore, 1) := by decide +kernel
theorem dX5_putUp_89 : decode cX5_putUp 89 = .ok (.iinc 1 1, 3) := by decide +kernel
theorem dX5_putUp_92 : decode cX5_putUp 92 = .ok (.goto (-17), 3) := by decide +kernel
theorem dX5_putUp_95 : decode cX5_putUp 95 = .ok (.aload_n 0, 1) := by decide +kernel
theorem dX5_putUp_96 : decode cX5_putUp 96 = .ok (.getfield 7, 3) := by decide +kernel
theorem dX5_putUp_99 : decode cX5_putUp 99 = .ok (.sipush 200, 3) := by decide +kernel
theorem dX5_putUp_102 : decode cX5_putUp 102 = .ok (.dup2, 1) := by decide +kernel
theorem dX5_putUp_103 : decode cX5_putUp 103 = .ok (.iaload, 1) := by decide +kernel
theorem dX5_putUp_104 : decode cX5_putUp 104 = .ok (.iconst 1, 1) := by decide +kernel
theorem dX5_putUp_105 : decode cX5_putUp 105 = .ok (.isub, 1) := by decide +kernel
theorem dX5_putUp_106 : decode cX5_putUp 106 = .ok (.iastore, 1) := by decide +kernel
theorem dX5_putUp_107 : decode cX5_putUp 107 = .ok (.iconst 0, 1) := by decide +kernel
theorem dX5_putUp_108 : decode cX5_putUp 108 = .ok (.istore_n 1, 1) := by decide +kernel
theorem dX5_putUp_109 : decode cX5_putUp 109 = .ok (.iload_n 1, 1) := by decide +kernel
theorem dX5_putUp_110 : decode cX5_putUp 110 = .ok (.iconst 2, 1) := by decide +kernel
theorem dX5_putUp_111 : decode cX5_putUp 111 = .ok (.aload_n 0, 1) := by decide +kernel
theorem dX5_putUp_112 : decode cX5_putUp 112 = .ok (.getfield 7, 3) := by decide +kernel
theorem dX5_putUp_115 : decode cX5_putUp 115 = .ok (.sipush 200, 3) := by decide +kernel
theorem dX5_putUp_118 : decode cX5_putUp 118 = .ok (.iaload, 1) := by decide +kernel
theorem dX5_putUp_119 : decode cX5_putUp 119 = .ok (.imul, 1) := by decide +kernel
theorem dX5_putUp_120 : decode cX5_putUp 120 = .ok (.if_icmp .ge 31, 3) := by decide +kernel
theorem dX5_putUp_123 : decode cX5_putUp 123 = .ok (.aload_n 0, 1) := by decide +kernel
theorem dX5_putUp_124 : decode cX5_putUp 124 = .ok (.getfield 7, 3) := by decide +kernel
theorem dX5_putUp_127 : decode cX5_putUp 127 = .ok (.sipush 132, 3) := by decide +kernel
theorem dX5_putUp_130 : decode cX5_putUp 130 = .ok (.iload_n 1, 1) := by decide +kernel
theorem dX5_putUp_131 : decode cX5_putUp 131 = .ok (.iadd, 1) := by decide +kernel
theorem dX5_putUp_132 : decode cX5_putUp 132 = .ok (.aload_n 0, 1) := by decide +kernel
theorem dX5_putUp_133 : decode cX5_putUp 133 = .ok (.getfield 7, 3) := by decide +kernel
theorem dX5_putUp_136 : decode cX5_putUp 136 = .ok (.sipush 132, 3) := by decide +kernel
theorem dX5_putUp_139 : decode cX5_putUp 139 = .ok (.iload_n 1, 1) := by decide +kernel
theorem dX5_putUp_140 : decode cX5_putUp 140 = .ok (.iadd, 1) := by decide +kernel
theorem dX5_putUp_141 : decode cX5_putUp 141 = .ok (.iconst 2, 1) := by decide +kernel
theorem dX5_putUp_142 : decode cX5_putUp 142 = .ok (.iadd, 1) := by decide +kernel
theorem dX5_putUp_143 : decode cX5_putUp 143 = .ok (.iaload, 1) := by decide +kernel
theorem dX5_putUp_144 : decode cX5_putUp 144 = .ok (.iastore, 1) := by decide +kernel
theorem dX5_putUp_145 : decode cX5_putUp 145 = .ok (.iinc 1 1, 3) := by decide +kernel
theorem dX5_putUp_148 : decode cX5_putUp 148 = .ok (.goto (-39), 3) := by decide +kernel
theorem dX5_putUp_151 : decode cX5_putUp 151 = .ok (.aload_n 0, 1) := by decide +kernel
theorem dX5_putUp_152 : decode cX5_putUp 152 = .ok (.getfield 7, 3) := by decide +kernel
theorem dX5_putUp_155 : decode cX5_putUp 155 = .ok (.sipush 149, 3) := by decide +kernel
theorem dX5_putUp_158 : decode cX5_putUp 158 = .ok (.iaload, 1) := by decide +kernel
theorem dX5_putUp_159 : decode cX5_putUp 159 = .ok (.ireturn, 1) := by decide +kernel
theorem dX5_cough_0 : decode cX5_cough 0 = .ok (.aload_n 0, 1) := by decide +kernel
theorem dX5_cough_1 : decode cX5_cough 1 = .ok (.iload_n 1, 1) := by decide +kernel
theorem dX5_cough_2 : decode cX5_cough 2 = .ok (.invokevirtual 90, 3) := by decide +kernel
theorem dX5_cough_5 : decode cX5_cough 5 = .ok (.ifCond .ne 6, 3) := by decide +kernel
theorem dX5_cough_8 : decode cX5_cough 8 = .ok (.ldc 78, 2) := by decide +kernel
theorem dX5_cough_10 : decode cX5_cough 10 = .ok (.ireturn, 1) := by decide +kernel
theorem dX5_cough_11 : decode cX5_cough 11 = .ok (.aload_n 0, 1) := by decide +kernel
theorem dX5_cough_12 : decode cX5_cough 12 = .ok (.invokevirtual 84, 3) := by decide +kernel
theorem dX5_cough_15 : decode cX5_cough 15 = .ok (.aload_n 0, 1) := by decide +kernel
theorem dX5_cough_16 : decode cX5_cough 16 = .ok (.iload_n 1, 1) := by decide +kernel
theorem dX5_cough_17 : decode cX5_cough 17 = .ok (.iconst 0, 1) := by decide +kernel
theorem dX5_cough_18 : decode cX5_cough 18 = .ok (.invokevirtual 68, 3) := by decide +kernel
theorem dX5_cough_21 : decode cX5_cough 21 = .ok (.ireturn, 1) := by decide +kernel
theorem dX5_pass_0 : decode cX5_pass 0 = .ok (.iconst 0, 1) := by decide +kernel
theorem dX5_pass_1 : decode cX5_pass 1 = .ok (.istore_n 2, 1) := by decide +kernel
theorem dX5_pass_2 : decode cX5_pass 2 = .ok (.iload_n 2, 1) := by decide +kernel
theorem dX5_pass_3 : decode cX5_pass 3 = .ok (.iload_n 1, 1) := by decide +kernel
theorem dX5_pass_4 : decode cX5_pass 4 = .ok (.if_icmp .ge 13, 3) := by decide +kernel
theorem dX5_pass_7 : decode cX5_pass 7 = .ok (.aload_n 0, 1) := by decide +kernel
theorem dX5_pass_8 : decode cX5_pass 8 = .ok (.invokevirtual 93, 3) := by decide +kernel
theorem dX5_pass_11 : decode cX5_pass 11 = .ok (.iinc 2 1, 3) := by decide +kernel
theorem dX5_pass_14 : decode cX5_pass 14 = .ok (.goto (-12), 3) := by decide +kernel
theorem dX5_pass_17 : decode cX5_pass 17 = .ok (.return_, 1) := by decide +kernel
theorem dX5_gone_0 : decode cX5_gone 0 = .ok (.aload_n 0, 1) := by decide +kernel
theorem dX5_gone_1 : decode cX5_gone 1 = .ok (.getfield 7, 3) := by decide +kernel
theorem dX5_gone_4 : decode cX5_gone 4 = .ok (.sipush 202, 3) := by decide +kernel
theorem dX5_gone_7 : decode cX5_gone 7 = .ok (.iaload, 1) := by decide +kernel
theorem dX5_gone_8 : decode cX5_gone 8 = .ok (.aload_n 0, 1) := by decide +kernel
theorem dX5_gone_9 : decode cX5_gone 9 = .ok (.getfield 7, 3) := by decide +kernel
theorem dX5_gone_12 : decode cX5_gone 12 = .ok (.sipush 203, 3) := by decide +kernel
theorem dX5_gone_15 : decode cX5_gone 15 = .ok (.iaload, 1) := by decide +kernel
theorem dX5_gone_16 : decode cX5_gone 16 = .ok (.iadd, 1) := by decide +kernel
theorem dX5_gone_17 : decode cX5_gone 17 = .ok (.aload_n 0, 1) := by decide +kernel
theorem dX5_gone_18 : decode cX5_gone 18 = .ok (.getfield 7, 3) := by decide +kernel
theorem dX5_gone_21 : decode cX5_gone 21 = .ok (.sipush 204, 3) := by decide +kernel
theorem dX5_gone_24 : decode cX5_gone 24 = .ok (.iaload, 1) := by decide +kernel
theorem dX5_gone_25 : decode cX5_gone 25 = .ok (.iadd, 1) := by decide +kernel
theorem dX5_gone_26 : decode cX5_gone 26 = .ok (.aload_n 0, 1) := by decide +kernel
theorem dX5_gone_27 : decode cX5_gone 27 = .ok (.getfield 7, 3) := by decide +kernel
theorem dX5_gone_30 : decode cX5_gone 30 = .ok (.sipush 211, 3) := by decide +kernel
theorem dX5_gone_33 : decode cX5_gone 33 = .ok (.iaload, 1) := by decide +kernel
theorem dX5_gone_34 : decode cX5_gone 34 = .ok (.iadd, 1) := by decide +kernel
theorem dX5_gone_35 : decode cX5_gone 35 = .ok (.ireturn, 1) := by decide +kernel
theorem dX5_beats_0 : decode cX5_beats 0 = .ok (.iload_n 1, 1) := by decide +kernel
theorem dX5_beats_1 : decode cX5_beats 1 = .ok (.iconst 1, 1) := by decide +kernel
theorem dX5_beats_2 : decode cX5_beats 2 = .ok (.bipush 50, 2) := by decide +kernel
theorem dX5_beats_4 : decode cX5_beats 4 = .ok (.invokestatic 36, 3) := by decide +kernel
theorem dX5_beats_7 : decode cX5_beats 7 = .ok (.ifCond .ne 6, 3) := by decide +kernel
theorem dX5_beats_10 : decode cX5_beats 10 = .ok (.ldc 78, 2) := by decide +kernel
theorem dX5_beats_12 : decode cX5_beats 12 = .ok (.ireturn, 1) := by decide +kernel
theorem dX5_beats_13 : decode cX5_beats 13 = .ok (.aload_n 0, 1) := by decide +kernel
theorem dX5_beats_14 : decode cX5_beats 14 = .ok (.getfield 7, 3) := by decide +kernel
theorem dX5_beats_17 : decode cX5_beats 17 = .ok (.sipush 198, 3) := by decide +kernel
theorem dX5_beats_20 : decode cX5_beats 20 = .ok (.iaload, 1) := by decide +kernel
theorem dX5_beats_21 : decode cX5_beats 21 = .ok (.iload_n 1, 1) := by decide +kernel
theorem dX5_beats_22 : decode cX5_beats 22 = .ok (.iadd, 1) := by decide +kernel
theorem dX5_beats_23 : decode cX5_beats 23 = .ok (.sipush 9999, 3) := by decide +kernel
theorem dX5_beats_26 : decode cX5_beats 26 = .ok (.if_icmp .le 6, 3) := by decide +kernel
theorem dX5_beats_29 : decode cX5_beats 29 = .ok (.ldc 83, 2) := by decide +kernel
theorem dX5_beats_31 : decode cX5_beats 31 = .ok (.ireturn, 1) := by decide +kernel
theorem dX5_beats_32 : decode cX5_beats 32 = .ok (.aload_n 0, 1) := by decide +kernel
theorem dX5_beats_33 : decode cX5_beats 33 = .ok (.invokevirtual 84, 3) := by decide +kernel
theorem dX5_beats_36 : decode cX5_beats 36 = .ok (.aload_n 0, 1) := by decide +kernel
theorem dX5_beats_37 : decode cX5_beats 37 = .ok (.invokevirtual 96, 3) := by decide +kernel
theorem dX5_beats_40 : decode cX5_beats 40 = .ok (.istore_n 2, 1) := by decide +kernel
theorem dX5_beats_41 : decode cX5_beats 41 = .ok (.aload_n 0, 1) := by decide +kernel
theorem dX5_beats_42 : decode cX5_beats 42 = .ok (.iload_n 1, 1) := by decide +kernel
theorem dX5_beats_43 : decode cX5_beats 43 = .ok (.invokevirtual 99, 3) := by decide +kernel
theorem dX5_beats_46 : decode cX5_beats 46 = .ok (.aload_n 0, 1) := by decide +kernel
theorem dX5_beats_47 : decode cX5_beats 47 = .ok (.invokevirtual 96, 3) := by decide +kernel
theorem dX5_beats_50 : decode cX5_beats 50 = .ok (.iload_n 2, 1) := by decide +kernel
theorem dX5_beats_51 : decode cX5_beats 51 = .ok (.isub, 1) := by decide +kernel
theorem dX5_beats_52 : decode cX5_beats 52 = .ok (.ireturn, 1) := by decide +kernel
theorem dX5_catchesFrom_0 : decode cX5_catchesFrom 0 = .ok (.iload_n 2, 1) := by decide +kernel
theorem dX5_catchesFrom_1 : decode cX5_catchesFrom 1 = .ok (.iconst 0, 1) := by decide +kernel
theorem dX5_catchesFrom_2 : decode cX5_catchesFrom 2 = .ok (.bipush 7, 2) := by decide +kernel
theorem dX5_catchesFrom_4 : decode cX5_catchesFrom 4 = .ok (.invokestatic 36, 3) := by decide +kernel
theorem dX5_catchesFrom_7 : decode cX5_catchesFrom 7 = .ok (.ifCond .eq 12, 3) := by decide +kernel
theorem dX5_catchesFrom_10 : decode cX5_catchesFrom 10 = .ok (.aload_n 0, 1) := by decide +kernel
theorem dX5_catchesFrom_11 : decode cX5_catchesFrom 11 = .ok (.iload_n 1, 1) := by decide +kernel
theorem dX5_catchesFrom_12 : decode cX5_catchesFrom 12 = .ok (.iload_n 2, 1) := by decide +kernel
theorem dX5_catchesFrom_13 : decode cX5_catchesFrom 13 = .ok (.invokevirtual 79, 3) := by decide +kernel
theorem dX5_catchesFrom_16 : decode cX5_catchesFrom 16 = .ok (.goto 5, 3) := by decide +kernel
theorem dX5_catchesFrom_19 : decode cX5_catchesFrom 19 = .ok (.ldc 44, 2) := by decide +kernel
theorem dX5_catchesFrom_21 : decode cX5_catchesFrom 21 = .ok (.istore_n 3, 1) := by decide +kernel
theorem dX5_catchesFrom_22 : decode cX5_catchesFrom 22 = .ok (.iload_n 3, 1) := by decide +kernel
theorem dX5_catchesFrom_23 : decode cX5_catchesFrom 23 = .ok (.ifCond .lt 29, 3) := by decide +kernel
theorem dX5_catchesFrom_26 : decode cX5_catchesFrom 26 = .ok (.aload_n 0, 1) := by decide +kernel
theorem dX5_catchesFrom_27 : decode cX5_catchesFrom 27 = .ok (.getfield 19, 3) := by decide +kernel
theorem dX5_catchesFrom_30 : decode cX5_catchesFrom 30 = .ok (.bipush 11, 2) := by decide +kernel
theorem dX5_catchesFrom_32 : decode cX5_catchesFrom 32 = .ok (.iload_n 3, 1) := by decide +kernel
theorem dX5_catchesFrom_33 : decode cX5_catchesFrom 33 = .ok (.imul, 1) := by decide +kernel
theorem dX5_catchesFrom_34 : decode cX5_catchesFrom 34 = .ok (.iconst 4, 1) := by decide +kernel
theorem dX5_catchesFrom_35 : decode cX5_catchesFrom 35 = .ok (.iadd, 1) := by decide +kernel
theorem dX5_catchesFrom_36 : decode cX5_catchesFrom 36 = .ok (.iaload, 1) := by decide +kernel
theorem dX5_catchesFrom_37 : decode cX5_catchesFrom 37 = .ok (.aload_n 0, 1) := by decide +kernel
theorem dX5_catchesFrom_38 : decode cX5_catchesFrom 38 = .ok (.iload_n 3, 1) := by decide +kernel
theorem dX5_catchesFrom_39 : decode cX5_catchesFrom 39 = .ok (.iconst 5, 1) := by decide +kernel
theorem dX5_catchesFrom_40 : decode cX5_catchesFrom 40 = .ok (.invokevirtual 40, 3) := by decide +kernel
theorem dX5_catchesFrom_43 : decode cX5_catchesFrom 43 = .ok (.isub, 1) := by decide +kernel
theorem dX5_catchesFrom_44 : decode cX5_catchesFrom 44 = .ok (.iconst 2, 1) := by decide +kernel
theorem dX5_catchesFrom_45 : decode cX5_catchesFrom 45 = .ok (.if_icmp .lt 7, 3) := by decide +kernel
theorem dX5_catchesFrom_48 : decode cX5_catchesFrom 48 = .ok (.iconst 1, 1) := by decide +kernel
theorem dX5_catchesFrom_49 : decode cX5_catchesFrom 49 = .ok (.goto 4, 3) := by decide +kernel
theorem dX5_catchesFrom_52 : decode cX5_catchesFrom 52 = .ok (.iconst 0, 1) := by decide +kernel
theorem dX5_catchesFrom_53 : decode cX5_catchesFrom 53 = .ok (.ireturn, 1) := by decide +kernel
theorem dX5_nightPasses_0 : decode cX5_nightPasses 0 = .ok (.iconst 0, 1) := by decide +kernel
theorem dX5_nightPasses_1 : decode cX5_nightPasses 1 = .ok (.istore_n 1, 1) := by decide +kernel
theorem dX5_nightPasses_2 : decode cX5_nightPasses 2 = .ok (.iload_n 1, 1) := by decide +kernel
theorem dX5_nightPasses_3 : decode cX5_nightPasses 3 = .ok (.bipush 11, 2) := by decide +kernel
theorem dX5_nightPasses_5 : decode cX5_nightPasses 5 = .ok (.aload_n 0, 1) := by decide +kernel
theorem dX5_nightPasses_6 : decode cX5_nightPasses 6 = .ok (.getfield 7, 3) := by decide +kernel
theorem dX5_nightPasses_9 : decode cX5_nightPasses 9 = .ok (.sipush 199, 3) := by decide +kernel
theorem dX5_nightPasses_12 : decode cX5_nightPasses 12 = .ok (.iaload, 1) := by decide +kernel
theorem dX5_nightPasses_13 : decode cX5_nightPasses 13 = .ok (.imul, 1) := by decide +kernel
theorem dX5_nightPasses_14 : decode cX5_nightPasses 14 = .ok (.if_icmp .ge 21, 3) := by decide +kernel
theorem dX5_nightPasses_17 : decode cX5_nightPasses 17 = .ok (.aload_n 0, 1) := by decide +kernel
theorem dX5_nightPasses_18 : decode cX5_nightPasses 18 = .ok (.getfield 19, 3) := by decide +kernel
theorem dX5_nightPasses_21 : decode cX5_nightPasses 21 = .ok (.iload_n 1, 1) := by decide +kernel
theorem dX5_nightPasses_22 : decode cX5_nightPasses 22 = .ok (.aload_n 0, 1) := by decide +kernel
theorem dX5_nightPasses_23 : decode cX5_nightPasses 23 = .ok (.getfield 7, 3) := by decide +kernel
theorem dX5_nightPasses_26 : decode cX5_nightPasses 26 = .ok (.iload_n 1, 1) := by decide +kernel
theorem dX5_nightPasses_27 : decode cX5_nightPasses 27 = .ok (.iaload, 1) := by decide +kernel
theorem dX5_nightPasses_28 : decode cX5_nightPasses 28 = .ok (.iastore, 1) := by decide +kernel
theorem dX5_nightPasses_29 : decode cX5_nightPasses 29 = .ok (.iinc 1 1, 3) := by decide +kernel
theorem dX5_nightPasses_32 : decode cX5_nightPasses 32 = .ok (.goto (-30), 3) := by decide +kernel
theorem dX5_nightPasses_35 : decode cX5_nightPasses 35 = .ok (.iconst 0, 1) := by decide +kernel
theorem dX5_nightPasses_36 : decode cX5_nightPasses 36 = .ok (.istore_n 1, 1) := by decide +kernel
theorem dX5_nightPasses_37 : decode cX5_nightPasses 37 = .ok (.iload_n 1, 1) := by decide +kernel
theorem dX5_nightPasses_38 : decode cX5_nightPasses 38 = .ok (.aload_n 0, 1) := by decide +kernel
theorem dX5_nightPasses_39 : decode cX5_nightPasses 39 = .ok (.getfield 7, 3) := by decide +kernel
theorem dX5_nightPasses_42 : decode cX5_nightPasses 42 = .ok (.sipush 199, 3) := by decide +kernel
theorem dX5_nightPasses_45 : decode cX5_nightPasses 45 = .ok (.iaload, 1) := by decide +kernel
theorem dX5_nightPasses_46 : decode cX5_nightPasses 46 = .ok (.if_icmp .ge 86, 3) := by decide +kernel
theorem dX5_nightPasses_49 : decode cX5_nightPasses 49 = .ok (.aload_n 0, 1) := by decide +kernel
theorem dX5_nightPasses_50 : decode cX5_nightPasses 50 = .ok (.iload_n 1, 1) := by decide +kernel
theorem dX5_nightPasses_51 : decode cX5_nightPasses 51 = .ok (.iconst 0, 1) := by decide +kernel
theorem dX5_nightPasses_52 : decode cX5_nightPasses 52 = .ok (.invokevirtual 40, 3) := by decide +kernel
theorem dX5_nightPasses_55 : decode cX5_nightPasses 55 = .ok (.istore_n 2, 1) := by decide +kernel
theorem dX5_nightPasses_56 : decode cX5_nightPasses 56 = .ok (.aload_n 0, 1) := by decide +kernel
theorem dX5_nightPasses_57 : decode cX5_nightPasses 57 = .ok (.iload_n 1, 1) := by decide +kernel
theorem dX5_nightPasses_58 : decode cX5_nightPasses 58 = .ok (.iconst 1, 1) := by decide +kernel
theorem dX5_nightPasses_59 : decode cX5_nightPasses 59 = .ok (.invokevirtual 40, 3) := by decide +kernel
theorem dX5_nightPasses_62 : decode cX5_nightPasses 62 = .ok (.istore_n 3, 1) := by decide +kernel
theorem dX5_nightPasses_63 : decode cX5_nightPasses 63 = .ok (.aload_n 0, 1) := by decide +kernel
theorem dX5_nightPasses_64 : decode cX5_nightPasses 64 = .ok (.iload_n 1, 1) := by decide +kernel
theorem dX5_nightPasses_65 : decode cX5_nightPasses 65 = .ok (.iconst 4, 1) := by decide +kernel
theorem dX5_nightPasses_66 : decode cX5_nightPasses 66 = .ok (.invokevirtual 40, 3) := by decide +kernel
theorem dX5_nightPasses_69 : decode cX5_nightPasses 69 = .ok (.aload_n 0, 1) := by decide +kernel
theorem dX5_nightPasses_70 : decode cX5_nightPasses 70 = .ok (.iload_n 2, 1) := by decide +kernel
theorem dX5_nightPasses_71 : decode cX5_nightPasses 71 = .ok (.iload_n 3, 1) := by decide +kernel
theorem dX5_nightPasses_72 : decode cX5_nightPasses 72 = .ok (.iconst 1, 1) := by decide +kernel
theorem dX5_nightPasses_73 : decode cX5_nightPasses 73 = .ok (.isub, 1) := by decide +kernel
theorem dX5_nightPasses_74 : decode cX5_nightPasses 74 = .ok (.invokevirtual 102, 3) := by decide +kernel
theorem dX5_nightPasses_77 : decode cX5_nightPasses 77 = .ok (.ifCond .ne 14, 3) := by decide +kernel
theorem dX5_nightPasses_80 : decode cX5_nightPasses 80 = .ok (.aload_n 0, 1) := by decide +kernel
theorem dX5_nightPasses_81 : decode cX5_nightPasses 81 = .ok (.iload_n 2, 1) := by decide +kernel
theorem dX5_nightPasses_82 : decode cX5_nightPasses 82 = .ok (.iload_n 3, 1) := by decide +kernel
theorem dX5_nightPasses_83 : decode cX5_nightPasses 83 = .ok (.iconst 1, 1) := by decide +kernel
theorem dX5_nightPasses_84 : decode cX5_nightPasses 84 = .ok (.iadd, 1) := by decide +kernel
theorem dX5_nightPasses_85 : decode cX5_nightPasses 85 = .ok (.invokevirtual 102, 3) := by decide +kernel
theorem dX5_nightPasses_88 : decode cX5_nightPasses 88 = .ok (.ifCond .eq 7, 3) := by decide +kernel
theorem dX5_nightPasses_91 : decode cX5_nightPasses 91 = .ok (.iconst 1, 1) := by decide +kernel
theorem dX5_nightPasses_92 : decode cX5_nightPasses 92 = .ok (.goto 4, 3) := by decide +kernel
theorem dX5_nightPasses_95 : decode cX5_nightPasses 95 = .ok (.iconst (-1), 1) := by decide +kernel
theorem dX5_nightPasses_96 : decode cX5_nightPasses 96 = .ok (.iadd, 1) := by decide +kernel
theorem dX5_nightPasses_97 : decode cX5_nightPasses 97 = .ok (.istore 4, 2) := by decide +kernel
theorem dX5_nightPasses_99 : decode cX5_nightPasses 99 = .ok (.aload_n 0, 1) := by decide +kernel
theorem dX5_nightPasses_100 : decode cX5_nightPasses 100 = .ok (.iload_n 1, 1) := by decide +kernel
theorem dX5_nightPasses_101 : decode cX5_nightPasses 101 = .ok (.iconst 4, 1) := by decide +kernel
theorem dX5_nightPasses_102 : decode cX5_nightPasses 102 = .ok (.iload 4, 2) := by decide +kernel
theorem dX5_nightPasses_104 : decode cX5_nightPasses 104 = .ok (.iconst 5, 1) := by decide +kernel
theorem dX5_nightPasses_105 : decode cX5_nightPasses 105 = .ok (.if_icmp .le 7, 3) := by decide +kernel
theorem dX5_nightPasses_108 : decode cX5_nightPasses 108 = .ok (.iconst 5, 1) := by decide +kernel
theorem dX5_nightPasses_109 : decode cX5_nightPasses 109 = .ok (.goto 14, 3) := by decide +kernel
theorem dX5_nightPasses_112 : decode cX5_nightPasses 112 = .ok (.iload 4, 2) := by decide +kernel
theorem dX5_nightPasses_114 : decode cX5_nightPasses 114 = .ok (.ifCond .ge 7, 3) := by decide +kernel
theorem dX5_nightPasses_117 : decode cX5_nightPasses 117 = .ok (.iconst 0, 1) := by decide +kernel
theorem dX5_nightPasses_118 : decode cX5_nightPasses 118 = .ok (.goto 5, 3) := by decide +kernel
theorem dX5_nightPasses_121 : decode cX5_nightPasses 121 = .ok (.iload 4, 2) := by decide +kernel
theorem dX5_nightPasses_123 : decode cX5_nightPasses 123 = .ok (.invokevirtual 87, 3) := by decide +kernel
theorem dX5_nightPasses_126 : decode cX5_nightPasses 126 = .ok (.iinc 1 1, 3) := by decide +kernel
theorem dX5_nightPasses_129 : decode cX5_nightPasses 129 = .ok (.goto (-92), 3) := by decide +kernel
theorem dX5_nightPasses_132 : decode cX5_nightPasses 132 = .ok (.aload_n 0, 1) := by decide +kernel
theorem dX5_nightPasses_133 : decode cX5_nightPasses 133 = .ok (.getfield 7, 3) := by decide +kernel
theorem dX5_nightPasses_136 : decode cX5_nightPasses 136 = .ok (.sipush 209, 3) := by decide +kernel
theorem dX5_nightPasses_139 : decode cX5_nightPasses 139 = .ok (.dup2, 1) := by decide +kernel
theorem dX5_nightPasses_140 : decode cX5_nightPasses 140 = .ok (.iaload, 1) := by decide +kernel
theorem dX5_nightPasses_141 : decode cX5_nightPasses 141 = .ok (.iconst 1, 1) := by decide +kernel
theorem dX5_nightPasses_142 : decode cX5_nightPasses 142 = .ok (.iadd, 1) := by decide +kernel
theorem dX5_nightPasses_143 : decode cX5_nightPasses 143 = .ok (.iastore, 1) := by decide +kernel
theorem dX5_nightPasses_144 : decode cX5_nightPasses 144 = .ok (.return_, 1) := by decide +kernel
theorem dX5_colds_0 : decode cX5_colds 0 = .ok (.iconst 0, 1) := by decide +kernel
theorem dX5_colds_1 : decode cX5_colds 1 = .ok (.istore_n 1, 1) := by decide +kernel
theorem dX5_colds_2 : decode cX5_colds 2 = .ok (.iconst 0, 1) := by decide +kernel
theorem dX5_colds_3 : decode cX5_colds 3 = .ok (.istore_n 2, 1) := by decide +kernel
theorem dX5_colds_4 : decode cX5_colds 4 = .ok (.iload_n 2, 1) := by decide +kernel
theorem dX5_colds_5 : decode cX5_colds 5 = .ok (.aload_n 0, 1) := by decide +kernel
theorem dX5_colds_6 : decode cX5_colds 6 = .ok (.getfield 7, 3) := by decide +kernel
theorem dX5_colds_9 : decode cX5_colds 9 = .ok (.sipush 199, 3) := by decide +kernel
theorem dX5_colds_12 : decode cX5_colds 12 = .ok (.iaload, 1) := by decide +kernel
theorem dX5_colds_13 : decode cX5_colds 13 = .ok (.if_icmp .ge 28, 3) := by decide +kernel
theorem dX5_colds_16 : decode cX5_colds 16 = .ok (.iload_n 1, 1) := by decide +kernel
theorem dX5_colds_17 : decode cX5_colds 17 = .ok (.aload_n 0, 1) := by decide +kernel
theorem dX5_colds_18 : decode cX5_colds 18 = .ok (.iload_n 2, 1) := by decide +kernel
theorem dX5_colds_19 : decode cX5_colds 19 = .ok (.iconst 4, 1) := by decide +kernel
theorem dX5_colds_20 : decode cX5_colds 20 = .ok (.invokevirtual 40, 3) := by decide +kernel
theorem dX5_colds_23 : decode cX5_colds 23 = .ok (.ifCond .le 9, 3) := by decide +kernel
theorem dX5_colds_26 : decode cX5_colds 26 = .ok (.iconst 1, 1) := by decide +kernel
theorem dX5_colds_27 : decode cX5_colds 27 = .ok (.iload_n 2, 1) := by decide +kernel
theorem dX5_colds_28 : decode cX5_colds 28 = .ok (.ishl, 1) := by decide +kernel
theorem dX5_colds_29 : decode cX5_colds 29 = .ok (.goto 4, 3) := by decide +kernel
theorem dX5_colds_32 : decode cX5_colds 32 = .ok (.iconst 0, 1) := by decide +kernel
theorem dX5_colds_33 : decode cX5_colds 33 = .ok (.ior, 1) := by decide +kernel
theorem dX5_colds_34 : decode cX5_colds 34 = .ok (.istore_n 1, 1) := by decide +kernel
theorem dX5_colds_35 : decode cX5_colds 35 = .ok (.iinc 2 1, 3) := by decide +kernel
theorem dX5_colds_38 : decode cX5_colds 38 = .ok (.goto (-34), 3) := by decide +kernel
theorem dX5_colds_41 : decode cX5_colds 41 = .ok (.iload_n 1, 1) := by decide +kernel
theorem dX5_colds_42 : decode cX5_colds 42 = .ok (.ireturn, 1) := by decide +kernel
theorem dX5_bits_0 : decode cX5_bits 0 = .ok (.iconst 0, 1) := by decide +kernel
theorem dX5_bits_1 : decode cX5_bits 1 = .ok (.istore_n 1, 1) := by decide +kernel
theorem dX5_bits_2 : decode cX5_bits 2 = .ok (.iload_n 0, 1) := by decide +kernel
theorem dX5_bits_3 : decode cX5_bits 3 = .ok (.istore_n 2, 1) := by decide +kernel
theorem dX5_bits_4 : decode cX5_bits 4 = .ok (.iload_n 2, 1) := by decide +kernel
theorem dX5_bits_5 : decode cX5_bits 5 = .ok (.ifCond .le 16, 3) := by decide +kernel
theorem dX5_bits_8 : decode cX5_bits 8 = .ok (.iload_n 1, 1) := by decide +kernel
theorem dX5_bits_9 : decode cX5_bits 9 = .ok (.iload_n 2, 1) := by decide +kernel
theorem dX5_bits_10 : decode cX5_bits 10 = .ok (.iconst 2, 1) := by decide +kernel
theorem dX5_bits_11 : decode cX5_bits 11 = .ok (.irem, 1) := by decide +kernel
theorem dX5_bits_12 : decode cX5_bits 12 = .ok (.iadd, 1) := by decide +kernel
theorem dX5_bits_13 : decode cX5_bits 13 = .ok (.istore_n 1, 1) := by decide +kernel
theorem dX5_bits_14 : decode cX5_bits 14 = .ok (.iload_n 2, 1) := by decide +kernel
theorem dX5_bits_15 : decode cX5_bits 15 = .ok (.iconst 2, 1) := by decide +kernel
theorem dX5_bits_16 : decode cX5_bits 16 = .ok (.idiv, 1) := by decide +kernel
theorem dX5_bits_17 : decode cX5_bits 17 = .ok (.istore_n 2, 1) := by decide +kernel
theorem dX5_bits_18 : decode cX5_bits 18 = .ok (.goto (-14), 3) := by decide +kernel
theorem dX5_bits_21 : decode cX5_bits 21 = .ok (.iload_n 1, 1) := by decide +kernel
theorem dX5_bits_22 : decode cX5_bits 22 = .ok (.ireturn, 1) := by decide +kernel
theorem dX5_night_0 : decode cX5_night 0 = .ok (.aload_n 0, 1) := by decide +kernel
theorem dX5_night_1 : decode cX5_night 1 = .ok (.getfield 7, 3) := by decide +kernel
theorem dX5_night_4 : decode cX5_night 4 = .ok (.sipush 148, 3) := by decide +kernel
theorem dX5_night_7 : decode cX5_night 7 = .ok (.iaload, 1) := by decide +kernel
theorem dX5_night_8 : decode cX5_night 8 = .ok (.iconst 1, 1) := by decide +kernel
theorem dX5_night_9 : decode cX5_night 9 = .ok (.if_icmp .ne 6, 3) := by decide +kernel
theorem dX5_night_12 : decode cX5_night 12 = .ok (.ldc 82, 2) := by decide +kernel
theorem dX5_night_14 : decode cX5_night 14 = .ok (.ireturn, 1) := by decide +kernel
theorem dX5_night_15 : decode cX5_night 15 = .ok (.aload_n 0, 1) := by decide +kernel
theorem dX5_night_16 : decode cX5_night 16 = .ok (.getfield 7, 3) := by decide +kernel
theorem dX5_night_19 : decode cX5_night 19 = .ok (.sipush 209, 3) := by decide +kernel
theorem dX5_night_22 : decode cX5_night 22 = .ok (.iaload, 1) := by decide +kernel
theorem dX5_night_23 : decode cX5_night 23 = .ok (.sipush 999, 3) := by decide +kernel
theorem dX5_night_26 : decode cX5_night 26 = .ok (.if_icmp .ne 6, 3) := by decide +kernel
theorem dX5_night_29 : decode cX5_night 29 = .ok (.ldc 83, 2) := by decide +kernel
theorem dX5_night_31 : decode cX5_night 31 = .ok (.ireturn, 1) := by decide +kernel
theorem dX5_night_32 : decode cX5_night 32 = .ok (.aload_n 0, 1) := by decide +kernel
theorem dX5_night_33 : decode cX5_night 33 = .ok (.invokevirtual 84, 3) := by decide +kernel
theorem dX5_night_36 : decode cX5_night 36 = .ok (.aload_n 0, 1) := by decide +kernel
theorem dX5_night_37 : decode cX5_night 37 = .ok (.invokevirtual 105, 3) := by decide +kernel
theorem dX5_night_40 : decode cX5_night 40 = .ok (.aload_n 0, 1) := by decide +kernel
theorem dX5_night_41 : decode cX5_night 41 = .ok (.invokevirtual 108, 3) := by decide +kernel
theorem dX5_night_44 : decode cX5_night 44 = .ok (.invokestatic 111, 3) := by decide +kernel
theorem dX5_night_47 : decode cX5_night 47 = .ok (.ireturn, 1) := by decide +kernel
theorem dX5_set_0 : decode cX5_set 0 = .ok (.iload_n 1, 1) := by decide +kernel
theorem dX5_set_1 : decode cX5_set 1 = .ok (.iconst 0, 1) := by decide +kernel
theorem dX5_set_2 : decode cX5_set 2 = .ok (.iconst 2, 1) := by decide +kernel
theorem dX5_set_3 : decode cX5_set 3 = .ok (.invokestatic 36, 3) := by decide +kernel
theorem dX5_set_6 : decode cX5_set 6 = .ok (.ifCond .eq 13, 3) := by decide +kernel
theorem dX5_set_9 : decode cX5_set 9 = .ok (.iload_n 2, 1) := by decide +kernel
theorem dX5_set_10 : decode cX5_set 10 = .ok (.iconst 1, 1) := by decide +kernel
theorem dX5_set_11 : decode cX5_set 11 = .ok (.bipush 9, 2) := by decide +kernel
theorem dX5_set_13 : decode cX5_set 13 = .ok (.invokestatic 36, 3) := by decide +kernel
theorem dX5_set_16 : decode cX5_set 16 = .ok (.ifCond .ne 6, 3) := by decide +kernel
theorem dX5_set_19 : decode cX5_set 19 = .ok (.ldc 78, 2) := by decide +kernel
theorem dX5_set_21 : decode cX5_set 21 = .ok (.ireturn, 1) := by decide +kernel
theorem dX5_set_22 : decode cX5_set 22 = .ok (.aload_n 0, 1) := by decide +kernel
theorem dX5_set_23 : decode cX5_set 23 = .ok (.invokevirtual 84, 3) := by decide +kernel
theorem dX5_set_26 : decode cX5_set 26 = .ok (.aload_n 0, 1) := by decide +kernel
theorem dX5_set_27 : decode cX5_set 27 = .ok (.getfield 7, 3) := by decide +kernel
theorem dX5_set_30 : decode cX5_set 30 = .ok (.sipush 212, 3) := by decide +kernel
theorem dX5_set_33 : decode cX5_set 33 = .ok (.iload_n 1, 1) := by decide +kernel
theorem dX5_set_34 : decode cX5_set 34 = .ok (.iadd, 1) := by decide +kernel
theorem dX5_set_35 : decode cX5_set 35 = .ok (.iaload, 1) := by decide +kernel
theorem dX5_set_36 : decode cX5_set 36 = .ok (.istore_n 3, 1) := by decide +kernel
theorem dX5_set_37 : decode cX5_set 37 = .ok (.aload_n 0, 1) := by decide +kernel
theorem dX5_set_38 : decode cX5_set 38 = .ok (.getfield 7, 3) := by decide +kernel
theorem dX5_set_41 : decode cX5_set 41 = .ok (.sipush 212, 3) := by decide +kernel
theorem dX5_set_44 : decode cX5_set 44 = .ok (.iload_n 1, 1) := by decide +kernel
theorem dX5_set_45 : decode cX5_set 45 = .ok (.iadd, 1) := by decide +kernel
theorem dX5_set_46 : decode cX5_set 46 = .ok (.iload_n 2, 1) := by decide +kernel
theorem dX5_set_47 : decode cX5_set 47 = .ok (.iastore, 1) := by decide +kernel
theorem dX5_set_48 : decode cX5_set 48 = .ok (.iload_n 3, 1) := by decide +kernel
theorem dX5_set_49 : decode cX5_set 49 = .ok (.ireturn, 1) := by decide +kernel
theorem dX5_bidderOf_0 : decode cX5_bidderOf 0 = .ok (.aload_n 0, 1) := by decide +kernel
theorem dX5_bidderOf_1 : decode cX5_bidderOf 1 = .ok (.iload_n 1, 1) := by decide +kernel
theorem dX5_bidderOf_2 : decode cX5_bidderOf 2 = .ok (.invokevirtual 90, 3) := by decide +kernel
theorem dX5_bidderOf_5 : decode cX5_bidderOf 5 = .ok (.ifCond .eq 13, 3) := by decide +kernel
theorem dX5_bidderOf_8 : decode cX5_bidderOf 8 = .ok (.iload_n 2, 1) := by decide +kernel
theorem dX5_bidderOf_9 : decode cX5_bidderOf 9 = .ok (.iconst 0, 1) := by decide +kernel
theorem dX5_bidderOf_10 : decode cX5_bidderOf 10 = .ok (.bipush 10, 2) := by decide +kernel
theorem dX5_bidderOf_12 : decode cX5_bidderOf 12 = .ok (.invokestatic 36, 3) := by decide +kernel
theorem dX5_bidderOf_15 : decode cX5_bidderOf 15 = .ok (.ifCond .ne 6, 3) := by decide +kernel
theorem dX5_bidderOf_18 : decode cX5_bidderOf 18 = .ok (.ldc 78, 2) := by decide +kernel
theorem dX5_bidderOf_20 : decode cX5_bidderOf 20 = .ok (.ireturn, 1) := by decide +kernel
theorem dX5_bidderOf_21 : decode cX5_bidderOf 21 = .ok (.iload_n 2, 1) := by decide +kernel
theorem dX5_bidderOf_22 : decode cX5_bidderOf 22 = .ok (.bipush 6, 2) := by decide +kernel
theorem dX5_bidderOf_24 : decode cX5_bidderOf 24 = .ok (.if_icmp .ge 12, 3) := by decide +kernel
theorem dX5_bidderOf_27 : decode cX5_bidderOf 27 = .ok (.aload_n 0, 1) := by decide +kernel
theorem dX5_bidderOf_28 : decode cX5_bidderOf 28 = .ok (.iload_n 1, 1) := by decide +kernel
theorem dX5_bidderOf_29 : decode cX5_bidderOf 29 = .ok (.iload_n 2, 1) := by decide +kernel
theorem dX5_bidderOf_30 : decode cX5_bidderOf 30 = .ok (.invokevirtual 40, 3) := by decide +kernel
theorem dX5_bidderOf_33 : decode cX5_bidderOf 33 = .ok (.goto 28, 3) := by decide +kernel
theorem dX5_bidderOf_36 : decode cX5_bidderOf 36 = .ok (.iload_n 2, 1) := by decide +kernel
theorem dX5_bidderOf_37 : decode cX5_bidderOf 37 = .ok (.bipush 6, 2) := by decide +kernel
theorem dX5_bidderOf_39 : decode cX5_bidderOf 39 = .ok (.if_icmp .ne 14, 3) := by decide +kernel
theorem dX5_bidderOf_42 : decode cX5_bidderOf 42 = .ok (.bipush 100, 2) := by decide +kernel
theorem dX5_bidderOf_44 : decode cX5_bidderOf 44 = .ok (.aload_n 0, 1) := by decide +kernel
theorem dX5_bidderOf_45 : decode cX5_bidderOf 45 = .ok (.iload_n 1, 1) := by decide +kernel
theorem dX5_bidderOf_46 : decode cX5_bidderOf 46 = .ok (.invokevirtual 45, 3) := by decide +kernel
theorem dX5_bidderOf_49 : decode cX5_bidderOf 49 = .ok (.iadd, 1) := by decide +kernel
theorem dX5_bidderOf_50 : decode cX5_bidderOf 50 = .ok (.goto 11, 3) := by decide +kernel
theorem dX5_bidderOf_53 : decode cX5_bidderOf 53 = .ok (.aload_n 0, 1) := by decide +kernel
theorem dX5_bidderOf_54 : decode cX5_bidderOf 54 = .ok (.iload_n 1, 1) := by decide +kernel
theorem dX5_bidderOf_55 : decode cX5_bidderOf 55 = .ok (.iload_n 2, 1) := by decide +kernel
theorem dX5_bidderOf_56 : decode cX5_bidderOf 56 = .ok (.iconst 1, 1) := by decide +kernel
theorem dX5_bidderOf_57 : decode cX5_bidderOf 57 = .ok (.isub, 1) := by decide +kernel
theorem dX5_bidderOf_58 : decode cX5_bidderOf 58 = .ok (.invokevirtual 40, 3) := by decide +kernel
theorem dX5_bidderOf_61 : decode cX5_bidderOf 61 = .ok (.ireturn, 1) := by decide +kernel
theorem dX5_at_0 : decode cX5_at 0 = .ok (.iload_n 1, 1) := by decide +kernel
theorem dX5_at_1 : decode cX5_at 1 = .ok (.iload_n 2, 1) := by decide +kernel
theorem dX5_at_2 : decode cX5_at 2 = .ok (.invokestatic 74, 3) := by decide +kernel
theorem dX5_at_5 : decode cX5_at 5 = .ok (.ifCond .eq 12, 3) := by decide +kernel
theorem dX5_at_8 : decode cX5_at 8 = .ok (.aload_n 0, 1) := by decide +kernel
theorem dX5_at_9 : decode cX5_at 9 = .ok (.iload_n 1, 1) := by decide +kernel
theorem dX5_at_10 : decode cX5_at 10 = .ok (.iload_n 2, 1) := by decide +kernel
theorem dX5_at_11 : decode cX5_at 11 = .ok (.invokevirtual 79, 3) := by decide +kernel
theorem dX5_at_14 : decode cX5_at 14 = .ok (.goto 5, 3) := by decide +kernel
theorem dX5_at_17 : decode cX5_at 17 = .ok (.ldc 78, 2) := by decide +kernel
theorem dX5_at_19 : decode cX5_at 19 = .ok (.ireturn, 1) := by decide +kernel
theorem dX5_up_0 : decode cX5_up 0 = .ok (.iload_n 1, 1) := by decide +kernel
theorem dX5_up_1 : decode cX5_up 1 = .ok (.iconst 0, 1) := by decide +kernel
theorem dX5_up_2 : decode cX5_up 2 = .ok (.bipush 8, 2) := by decide +kernel
theorem dX5_up_4 : decode cX5_up 4 = .ok (.invokestatic 36, 3) := by decide +kernel
theorem dX5_up_7 : decode cX5_up 7 = .ok (.ifCond .ne 6, 3) := by decide +kernel
theorem dX5_up_10 : decode cX5_up 10 = .ok (.ldc 78, 2) := by decide +kernel
theorem dX5_up_12 : decode cX5_up 12 = .ok (.ireturn, 1) := by decide +kernel
theorem dX5_up_13 : decode cX5_up 13 = .ok (.aload_n 0, 1) := by decide +kernel
theorem dX5_up_14 : decode cX5_up 14 = .ok (.getfield 7, 3) := by decide +kernel
theorem dX5_up_17 : decode cX5_up 17 = .ok (.sipush 148, 3) := by decide +kernel
theorem dX5_up_20 : decode cX5_up 20 = .ok (.iaload, 1) := by decide +kernel
theorem dX5_up_21 : decode cX5_up 21 = .ok (.ifCond .ne 6, 3) := by decide +kernel
theorem dX5_up_24 : decode cX5_up 24 = .ok (.ldc 82, 2) := by decide +kernel
theorem dX5_up_26 : decode cX5_up 26 = .ok (.ireturn, 1) := by decide +kernel
theorem dX5_up_27 : decode cX5_up 27 = .ok (.iload_n 1, 1) := by decide +kernel
theorem dX5_up_28 : decode cX5_up 28 = .ok (.tableswitch 128 2 8 #[44, 69, 96, 96, 109, 114, 114], 44) := by decide +kernel
theorem dX5_up_72 : decode cX5_up 72 = .ok (.aload_n 0, 1) := by decide +kernel
theorem dX5_up_73 : decode cX5_up 73 = .ok (.getfield 7, 3) := by decide +kernel
theorem dX5_up_76 : decode cX5_up 76 = .ok (.sipush 152, 3) := by decide +kernel
theorem dX5_up_79 : decode cX5_up 79 = .ok (.iaload, 1) := by decide +kernel
theorem dX5_up_80 : decode cX5_up 80 = .ok (.ifCond .le 14, 3) := by decide +kernel
theorem dX5_up_83 : decode cX5_up 83 = .ok (.aload_n 0, 1) := by decide +kernel
theorem dX5_up_84 : decode cX5_up 84 = .ok (.getfield 7, 3) := by decide +kernel
theorem dX5_up_87 : decode cX5_up 87 = .ok (.sipush 151, 3) := by decide +kernel
theorem dX5_up_90 : decode cX5_up 90 = .ok (.iaload, 1) := by decide +kernel
theorem dX5_up_91 : decode cX5_up 91 = .ok (.goto 5, 3) := by decide +kernel
theorem dX5_up_94 : decode cX5_up 94 = .ok (.ldc 44, 2) := by decide +kernel
theorem dX5_up_96 : decode cX5_up 96 = .ok (.ireturn, 1) := by decide +kernel
theorem dX5_up_97 : decode cX5_up 97 = .ok (.aload_n 0, 1) := by decide +kernel
theorem dX5_up_98 : decode cX5_up 98 = .ok (.getfield 7, 3) := by decide +kernel
theorem dX5_up_101 : decode cX5_up 101 = .ok (.sipush 152, 3) := by decide +kernel
theorem dX5_up_104 : decode cX5_up 104 = .ok (.iaload, 1) := by decide +kernel
theorem dX5_up_105 : decode cX5_up 105 = .ok (.ifCond .le 16, 3) := by decide +kernel
theorem dX5_up_108 : decode cX5_up 108 = .ok (.aload_n 0, 1) := by decide +kernel
theorem dX5_up_109 : decode cX5_up 109 = .ok (.getfield 7, 3) := by decide +kernel
theorem dX5_up_112 : decode cX5_up 112 = .ok (.sipush 152, 3) := by decide +kernel
theorem dX5_up_115 : decode cX5_up 115 = .ok (.iaload, 1) := by decide +kernel
theorem dX5_up_116 : decode cX5_up 116 = .ok (.iconst 1, 1) := by decide +kernel
theorem dX5_up_117 : decode cX5_up 117 = .ok (.isub, 1) := by decide +kernel
theorem dX5_up_118 : decode cX5_up 118 = .ok (.goto 5, 3) := by decide +kernel
theorem dX5_up_121 : decode cX5_up 121 = .ok (.ldc 44, 2) := by decide +kernel
theorem dX5_up_123 : decode cX5_up 123 = .ok (.ireturn, 1) := by decide +kernel
theorem dX5_up_124 : decode cX5_up 124 = .ok (.aload_n 0, 1) := by decide +kernel
theorem dX5_up_125 : decode cX5_up 125 = .ok (.getfield 7, 3) := by decide +kernel
theorem dX5_up_128 : decode cX5_up 128 = .ok (.sipush 153, 3) := by decide +kernel
theorem dX5_up_131 : decode cX5_up 131 = .ok (.iload_n 1, 1) := by decide +kernel
theorem dX5_up_132 : decode cX5_up 132 = .ok (.iadd, 1) := by decide +kernel
theorem dX5_up_133 : decode cX5_up 133 = .ok (.iconst 4, 1) := by decide +kernel
theorem dX5_up_134 : decode cX5_up 134 = .ok (.isub, 1) := by decide +kernel
theorem dX5_up_135 : decode cX5_up 135 = .ok (.iaload, 1) := by decide +kernel
theorem dX5_up_136 : decode cX5_up 136 = .ok (.ireturn, 1) := by decide +kernel
theorem dX5_up_137 : decode cX5_up 137 = .ok (.aload_n 0, 1) := by decide +kernel
theorem dX5_up_138 : decode cX5_up 138 = .ok (.invokevirtual 49, 3) := by decide +kernel
theorem dX5_up_141 : decode cX5_up 141 = .ok (.ireturn, 1) := by decide +kernel
theorem dX5_up_142 : decode cX5_up 142 = .ok (.aload_n 0, 1) := by decide +kernel
theorem dX5_up_143 : decode cX5_up 143 = .ok (.getfield 7, 3) := by decide +kernel
theorem dX5_up_146 : decode cX5_up 146 = .ok (.sipush 155, 3) := by decide +kernel
theorem dX5_up_149 : decode cX5_up 149 = .ok (.iload_n 1, 1) := by decide +kernel
theorem dX5_up_150 : decode cX5_up 150 = .ok (.iadd, 1) := by decide +kernel
theorem dX5_up_151 : decode cX5_up 151 = .ok (.bipush 7, 2) := by decide +kernel
theorem dX5_up_153 : decode cX5_up 153 = .ok (.isub, 1) := by decide +kernel
theorem dX5_up_154 : decode cX5_up 154 = .ok (.iaload, 1) := by decide +kernel
theorem dX5_up_155 : decode cX5_up 155 = .ok (.ireturn, 1) := by decide +kernel
theorem dX5_up_156 : decode cX5_up 156 = .ok (.aload_n 0, 1) := by decide +kernel
theorem dX5_up_157 : decode cX5_up 157 = .ok (.getfield 7, 3) := by decide +kernel
theorem dX5_up_160 : decode cX5_up 160 = .ok (.sipush 149, 3) := by decide +kernel
theorem dX5_up_163 : decode cX5_up 163 = .ok (.iload_n 1, 1) := by decide +kernel
theorem dX5_up_164 : decode cX5_up 164 = .ok (.iadd, 1) := by decide +kernel
theorem dX5_up_165 : decode cX5_up 165 = .ok (.iaload, 1) := by decide +kernel
theorem dX5_up_166 : decode cX5_up 166 = .ok (.ireturn, 1) := by decide +kernel
theorem dX5_waiting_0 : decode cX5_waiting 0 = .ok (.iload_n 1, 1) := by decide +kernel
theorem dX5_waiting_1 : decode cX5_waiting 1 = .ok (.ifCond .lt 12, 3) := by decide +kernel
theorem dX5_waiting_4 : decode cX5_waiting 4 = .ok (.iload_n 2, 1) := by decide +kernel
theorem dX5_waiting_5 : decode cX5_waiting 5 = .ok (.iconst 0, 1) := by decide +kernel
theorem dX5_waiting_6 : decode cX5_waiting 6 = .ok (.iconst 1, 1) := by decide +kernel
theorem dX5_waiting_7 : decode cX5_waiting 7 = .ok (.invokestatic 36, 3) := by decide +kernel
theorem dX5_waiting_10 : decode cX5_waiting 10 = .ok (.ifCond .ne 6, 3) := by decide +kernel
theorem dX5_waiting_13 : decode cX5_waiting 13 = .ok (.ldc 78, 2) := by decide +kernel
theorem dX5_waiting_15 : decode cX5_waiting 15 = .ok (.ireturn, 1) := by decide +kernel
theorem dX5_waiting_16 : decode cX5_waiting 16 = .ok (.iload_n 1, 1) := by decide +kernel
theorem dX5_waiting_17 : decode cX5_waiting 17 = .ok (.aload_n 0, 1) := by decide +kernel
theorem dX5_waiting_18 : decode cX5_waiting 18 = .ok (.getfield 7, 3) := by decide +kernel
theorem dX5_waiting_21 : decode cX5_waiting 21 = .ok (.sipush 200, 3) := by decide +kernel
theorem dX5_waiting_24 : decode cX5_waiting 24 = .ok (.iaload, 1) := by decide +kernel
theorem dX5_waiting_25 : decode cX5_waiting 25 = .ok (.if_icmp .ge 20, 3) := by decide +kernel
theorem dX5_waiting_28 : decode cX5_waiting 28 = .ok (.aload_n 0, 1) := by decide +kernel
theorem dX5_waiting_29 : decode cX5_waiting 29 = .ok (.getfield 7, 3) := by decide +kernel
theorem dX5_waiting_32 : decode cX5_waiting 32 = .ok (.sipush 132, 3) := by decide +kernel
theorem dX5_waiting_35 : decode cX5_waiting 35 = .ok (.iconst 2, 1) := by decide +kernel
theorem dX5_waiting_36 : decode cX5_waiting 36 = .ok (.iload_n 1, 1) := by decide +kernel
theorem dX5_waiting_37 : decode cX5_waiting 37 = .ok (.imul, 1) := by decide +kernel
theorem dX5_waiting_38 : decode cX5_waiting 38 = .ok (.iadd, 1) := by decide +kernel
theorem dX5_waiting_39 : decode cX5_waiting 39 = .ok (.iload_n 2, 1) := by decide +kernel
theorem dX5_waiting_40 : decode cX5_waiting 40 = .ok (.iadd, 1) := by decide +kernel
theorem dX5_waiting_41 : decode cX5_waiting 41 = .ok (.iaload, 1) := by decide +kernel
theorem dX5_waiting_42 : decode cX5_waiting 42 = .ok (.goto 5, 3) := by decide +kernel
theorem dX5_waiting_45 : decode cX5_waiting 45 = .ok (.ldc 44, 2) := by decide +kernel
theorem dX5_waiting_47 : decode cX5_waiting 47 = .ok (.ireturn, 1) := by decide +kernel
theorem dX5_book_0 : decode cX5_book 0 = .ok (.iload_n 1, 1) := by decide +kernel
theorem dX5_book_1 : decode cX5_book 1 = .ok (.ifCond .lt 12, 3) := by decide +kernel
theorem dX5_book_4 : decode cX5_book 4 = .ok (.iload_n 2, 1) := by decide +kernel
theorem dX5_book_5 : decode cX5_book 5 = .ok (.iconst 0, 1) := by decide +kernel
theorem dX5_book_6 : decode cX5_book 6 = .ok (.iconst 4, 1) := by decide +kernel
theorem dX5_book_7 : decode cX5_book 7 = .ok (.invokestatic 36, 3) := by decide +kernel
theorem dX5_book_10 : decode cX5_book 10 = .ok (.ifCond .ne 6, 3) := by decide +kernel
theorem dX5_book_13 : decode cX5_book 13 = .ok (.ldc 78, 2) := by decide +kernel
theorem dX5_book_15 : decode cX5_book 15 = .ok (.ireturn, 1) := by decide +kernel
theorem dX5_book_16 : decode cX5_book 16 = .ok (.iload_n 1, 1) := by decide +kernel
theorem dX5_book_17 : decode cX5_book 17 = .ok (.aload_n 0, 1) := by decide +kernel
theorem dX5_book_18 : decode cX5_book 18 = .ok (.getfield 7, 3) := by decide +kernel
theorem dX5_book_21 : decode cX5_book 21 = .ok (.sipush 210, 3) := by decide +kernel
theorem dX5_book_24 : decode cX5_book 24 = .ok (.iaload, 1) := by decide +kernel
theorem dX5_book_25 : decode cX5_book 25 = .ok (.if_icmp .lt 6, 3) := by decide +kernel
theorem dX5_book_28 : decode cX5_book 28 = .ok (.ldc 44, 2) := by decide +kernel
theorem dX5_book_30 : decode cX5_book 30 = .ok (.ireturn, 1) := by decide +kernel
theorem dX5_book_31 : decode cX5_book 31 = .ok (.aload_n 0, 1) := by decide +kernel
theorem dX5_book_32 : decode cX5_book 32 = .ok (.getfield 7, 3) := by decide +kernel
theorem dX5_book_35 : decode cX5_book 35 = .ok (.sipush 158, 3) := by decide +kernel
theorem dX5_book_38 : decode cX5_book 38 = .ok (.iconst 5, 1) := by decide +kernel
theorem dX5_book_39 : decode cX5_book 39 = .ok (.iload_n 1, 1) := by decide +kernel
theorem dX5_book_40 : decode cX5_book 40 = .ok (.imul, 1) := by decide +kernel
theorem dX5_book_41 : decode cX5_book 41 = .ok (.iadd, 1) := by decide +kernel
theorem dX5_book_42 : decode cX5_book 42 = .ok (.iload_n 2, 1) := by decide +kernel
theorem dX5_book_43 : decode cX5_book 43 = .ok (.iadd, 1) := by decide +kernel
theorem dX5_book_44 : decode cX5_book 44 = .ok (.iaload, 1) := by decide +kernel
theorem dX5_book_45 : decode cX5_book 45 = .ok (.istore_n 3, 1) := by decide +kernel
theorem dX5_book_46 : decode cX5_book 46 = .ok (.iload_n 2, 1) := by decide +kernel
theorem dX5_book_47 : decode cX5_book 47 = .ok (.iconst 2, 1) := by decide +kernel
theorem dX5_book_48 : decode cX5_book 48 = .ok (.if_icmp .eq 7, 3) := by decide +kernel
theorem dX5_book_51 : decode cX5_book 51 = .ok (.iload_n 3, 1) := by decide +kernel
theorem dX5_book_52 : decode cX5_book 52 = .ok (.goto 15, 3) := by decide +kernel
theorem dX5_book_55 : decode cX5_book 55 = .ok (.iload_n 3, 1) := by decide +kernel
theorem dX5_book_56 : decode cX5_book 56 = .ok (.ifCond .le 9, 3) := by decide +kernel
theorem dX5_book_59 : decode cX5_book 59 = .ok (.iload_n 3, 1) := by decide +kernel
theorem dX5_book_60 : decode cX5_book 60 = .ok (.iconst 1, 1) := by decide +kernel
theorem dX5_book_61 : decode cX5_book 61 = .ok (.isub, 1) := by decide +kernel
theorem dX5_book_62 : decode cX5_book 62 = .ok (.goto 5, 3) := by decide +kernel
theorem dX5_book_65 : decode cX5_book 65 = .ok (.ldc 44, 2) := by decide +kernel
theorem dX5_book_67 : decode cX5_book 67 = .ok (.ireturn, 1) := by decide +kernel
theorem dX5_why_0 : decode cX5_why 0 = .ok (.aload_n 0, 1) := by decide +kernel
theorem dX5_why_1 : decode cX5_why 1 = .ok (.iload_n 1, 1) := by decide +kernel
theorem dX5_why_2 : decode cX5_why 2 = .ok (.invokevirtual 90, 3) := by decide +kernel
theorem dX5_why_5 : decode cX5_why 5 = .ok (.ifCond .eq 11, 3) := by decide +kernel
theorem dX5_why_8 : decode cX5_why 8 = .ok (.aload_n 0, 1) := by decide +kernel
theorem dX5_why_9 : decode cX5_why 9 = .ok (.iload_n 1, 1) := by decide +kernel
theorem dX5_why_10 : decode cX5_why 10 = .ok (.invokevirtual 53, 3) := by decide +kernel
theorem dX5_why_13 : decode cX5_why 13 = .ok (.goto 5, 3) := by decide +kernel
theorem dX5_why_16 : decode cX5_why 16 = .ok (.ldc 78, 2) := by decide +kernel
theorem dX5_why_18 : decode cX5_why 18 = .ok (.ireturn, 1) := by decide +kernel
theorem dX5_ifBeats_0 : decode cX5_ifBeats 0 = .ok (.iload_n 1, 1) := by decide +kernel
theorem dX5_ifBeats_1 : decode cX5_ifBeats 1 = .ok (.iconst 1, 1) := by decide +kernel
theorem dX5_ifBeats_2 : decode cX5_ifBeats 2 = .ok (.bipush 50, 2) := by decide +kernel
theorem dX5_ifBeats_4 : decode cX5_ifBeats 4 = .ok (.invokestatic 36, 3) := by decide +kernel
theorem dX5_ifBeats_7 : decode cX5_ifBeats 7 = .ok (.ifCond .eq 12, 3) := by decide +kernel
theorem dX5_ifBeats_10 : decode cX5_ifBeats 10 = .ok (.iload_n 2, 1) := by decide +kernel
theorem dX5_ifBeats_11 : decode cX5_ifBeats 11 = .ok (.iconst 0, 1) := by decide +kernel
theorem dX5_ifBeats_12 : decode cX5_ifBeats 12 = .ok (.iconst 3, 1) := by decide +kernel
theorem dX5_ifBeats_13 : decode cX5_ifBeats 13 = .ok (.invokestatic 36, 3) := by decide +kernel
theorem dX5_ifBeats_16 : decode cX5_ifBeats 16 = .ok (.ifCond .ne 6, 3) := by decide +kernel
theorem dX5_ifBeats_19 : decode cX5_ifBeats 19 = .ok (.ldc 78, 2) := by decide +kernel
theorem dX5_ifBeats_21 : decode cX5_ifBeats 21 = .ok (.ireturn, 1) := by decide +kernel
theorem dX5_ifBeats_22 : decode cX5_ifBeats 22 = .ok (.aload_n 0, 1) := by decide +kernel
theorem dX5_ifBeats_23 : decode cX5_ifBeats 23 = .ok (.getfield 7, 3) := by decide +kernel
theorem dX5_ifBeats_26 : decode cX5_ifBeats 26 = .ok (.aload_n 0, 1) := by decide +kernel
theorem dX5_ifBeats_27 : decode cX5_ifBeats 27 = .ok (.getfield 19, 3) := by decide +kernel
theorem dX5_ifBeats_30 : decode cX5_ifBeats 30 = .ok (.invokestatic 114, 3) := by decide +kernel
theorem dX5_ifBeats_33 : decode cX5_ifBeats 33 = .ok (.aload_n 0, 1) := by decide +kernel
theorem dX5_ifBeats_34 : decode cX5_ifBeats 34 = .ok (.iload_n 1, 1) := by decide +kernel
theorem dX5_ifBeats_35 : decode cX5_ifBeats 35 = .ok (.invokevirtual 99, 3) := by decide +kernel
theorem dX5_ifBeats_38 : decode cX5_ifBeats 38 = .ok (.iload_n 2, 1) := by decide +kernel
theorem dX5_ifBeats_39 : decode cX5_ifBeats 39 = .ok (.ifCond .ne 9, 3) := by decide +kernel
theorem dX5_ifBeats_42 : decode cX5_ifBeats 42 = .ok (.sipush 207, 3) := by decide +kernel
theorem dX5_ifBeats_45 : decode cX5_ifBeats 45 = .ok (.goto 28, 3) := by decide +kernel
theorem dX5_ifBeats_48 : decode cX5_ifBeats 48 = .ok (.iload_n 2, 1) := by decide +kernel
theorem dX5_ifBeats_49 : decode cX5_ifBeats 49 = .ok (.iconst 1, 1) := by decide +kernel
theorem dX5_ifBeats_50 : decode cX5_ifBeats 50 = .ok (.if_icmp .ne 9, 3) := by decide +kernel
theorem dX5_ifBeats_53 : decode cX5_ifBeats 53 = .ok (.sipush 208, 3) := by decide +kernel
theorem dX5_ifBeats_56 : decode cX5_ifBeats 56 = .ok (.goto 17, 3) := by decide +kernel
theorem dX5_ifBeats_59 : decode cX5_ifBeats 59 = .ok (.iload_n 2, 1) := by decide +kernel
theorem dX5_ifBeats_60 : decode cX5_ifBeats 60 = .ok (.iconst 2, 1) := by decide +kernel
theorem dX5_ifBeats_61 : decode cX5_ifBeats 61 = .ok (.if_icmp .ne 9, 3) := by decide +kernel
theorem dX5_ifBeats_64 : decode cX5_ifBeats 64 = .ok (.sipush 202, 3) := by decide +kernel
theorem dX5_ifBeats_67 : decode cX5_ifBeats 67 = .ok (.goto 6, 3) := by decide +kernel
theorem dX5_ifBeats_70 : decode cX5_ifBeats 70 = .ok (.sipush 205, 3) := by decide +kernel
theorem dX5_ifBeats_73 : decode cX5_ifBeats 73 = .ok (.istore_n 3, 1) := by decide +kernel
theorem dX5_ifBeats_74 : decode cX5_ifBeats 74 = .ok (.aload_n 0, 1) := by decide +kernel
theorem dX5_ifBeats_75 : decode cX5_ifBeats 75 = .ok (.getfield 7, 3) := by decide +kernel
theorem dX5_ifBeats_78 : decode cX5_ifBeats 78 = .ok (.iload_n 3, 1) := by decide +kernel
theorem dX5_ifBeats_79 : decode cX5_ifBeats 79 = .ok (.iaload, 1) := by decide +kernel
theorem dX5_ifBeats_80 : decode cX5_ifBeats 80 = .ok (.aload_n 0, 1) := by decide +kernel
theorem dX5_ifBeats_81 : decode cX5_ifBeats 81 = .ok (.getfield 19, 3) := by decide +kernel
theorem dX5_ifBeats_84 : decode cX5_ifBeats 84 = .ok (.iload_n 3, 1) := by decide +kernel
theorem dX5_ifBeats_85 : decode cX5_ifBeats 85 = .ok (.iaload, 1) := by decide +kernel
theorem dX5_ifBeats_86 : decode cX5_ifBeats 86 = .ok (.isub, 1) := by decide +kernel
theorem dX5_ifBeats_87 : decode cX5_ifBeats 87 = .ok (.istore 4, 2) := by decide +kernel
theorem dX5_ifBeats_89 : decode cX5_ifBeats 89 = .ok (.aload_n 0, 1) := by decide +kernel
theorem dX5_ifBeats_90 : decode cX5_ifBeats 90 = .ok (.getfield 19, 3) := by decide +kernel
theorem dX5_ifBeats_93 : decode cX5_ifBeats 93 = .ok (.aload_n 0, 1) := by decide +kernel
theorem dX5_ifBeats_94 : decode cX5_ifBeats 94 = .ok (.getfield 7, 3) := by decide +kernel
theorem dX5_ifBeats_97 : decode cX5_ifBeats 97 = .ok (.invokestatic 114, 3) := by decide +kernel
theorem dX5_ifBeats_100 : decode cX5_ifBeats 100 = .ok (.iload 4, 2) := by decide +kernel
theorem dX5_ifBeats_102 : decode cX5_ifBeats 102 = .ok (.ireturn, 1) := by decide +kernel
theorem dX5_goneIn_0 : decode cX5_goneIn 0 = .ok (.aload_n 0, 1) := by decide +kernel
theorem dX5_goneIn_1 : decode cX5_goneIn 1 = .ok (.getfield 7, 3) := by decide +kernel
theorem dX5_goneIn_4 : decode cX5_goneIn 4 = .ok (.sipush 148, 3) := by decide +kernel
theorem dX5_goneIn_7 : decode cX5_goneIn 7 = .ok (.iaload, 1) := by decide +kernel
theorem dX5_goneIn_8 : decode cX5_goneIn 8 = .ok (.ifCond .ne 6, 3) := by decide +kernel
theorem dX5_goneIn_11 : decode cX5_goneIn 11 = .ok (.ldc 82, 2) := by decide +kernel
theorem dX5_goneIn_13 : decode cX5_goneIn 13 = .ok (.ireturn, 1) := by decide +kernel
theorem dX5_goneIn_14 : decode cX5_goneIn 14 = .ok (.aload_n 0, 1) := by decide +kernel
theorem dX5_goneIn_15 : decode cX5_goneIn 15 = .ok (.getfield 7, 3) := by decide +kernel
theorem dX5_goneIn_18 : decode cX5_goneIn 18 = .ok (.aload_n 0, 1) := by decide +kernel
theorem dX5_goneIn_19 : decode cX5_goneIn 19 = .ok (.getfield 19, 3) := by decide +kernel
theorem dX5_goneIn_22 : decode cX5_goneIn 22 = .ok (.invokestatic 114, 3) := by decide +kernel
theorem dX5_goneIn_25 : decode cX5_goneIn 25 = .ok (.iconst 0, 1) := by decide +kernel
theorem dX5_goneIn_26 : decode cX5_goneIn 26 = .ok (.istore_n 1, 1) := by decide +kernel
theorem dX5_goneIn_27 : decode cX5_goneIn 27 = .ok (.iload_n 1, 1) := by decide +kernel
theorem dX5_goneIn_28 : decode cX5_goneIn 28 = .ok (.sipush 200, 3) := by decide +kernel
theorem dX5_goneIn_31 : decode cX5_goneIn 31 = .ok (.if_icmp .ge 25, 3) := by decide +kernel
theorem dX5_goneIn_34 : decode cX5_goneIn 34 = .ok (.aload_n 0, 1) := by decide +kernel
theorem dX5_goneIn_35 : decode cX5_goneIn 35 = .ok (.getfield 7, 3) := by decide +kernel
theorem dX5_goneIn_38 : decode cX5_goneIn 38 = .ok (.sipush 148, 3) := by decide +kernel
theorem dX5_goneIn_41 : decode cX5_goneIn 41 = .ok (.iaload, 1) := by decide +kernel
theorem dX5_goneIn_42 : decode cX5_goneIn 42 = .ok (.iconst 1, 1) := by decide +kernel
theorem dX5_goneIn_43 : decode cX5_goneIn 43 = .ok (.if_icmp .ne 13, 3) := by decide +kernel
theorem dX5_goneIn_46 : decode cX5_goneIn 46 = .ok (.aload_n 0, 1) := by decide +kernel
theorem dX5_goneIn_47 : decode cX5_goneIn 47 = .ok (.invokevirtual 93, 3) := by decide +kernel
theorem dX5_goneIn_50 : decode cX5_goneIn 50 = .ok (.iinc 1 1, 3) := by decide +kernel
theorem dX5_goneIn_53 : decode cX5_goneIn 53 = .ok (.goto (-26), 3) := by decide +kernel
theorem dX5_goneIn_56 : decode cX5_goneIn 56 = .ok (.aload_n 0, 1) := by decide +kernel
theorem dX5_goneIn_57 : decode cX5_goneIn 57 = .ok (.getfield 7, 3) := by decide +kernel
theorem dX5_goneIn_60 : decode cX5_goneIn 60 = .ok (.sipush 148, 3) := by decide +kernel
theorem dX5_goneIn_63 : decode cX5_goneIn 63 = .ok (.iaload, 1) := by decide +kernel
theorem dX5_goneIn_64 : decode cX5_goneIn 64 = .ok (.iconst 1, 1) := by decide +kernel
theorem dX5_goneIn_65 : decode cX5_goneIn 65 = .ok (.if_icmp .ne 8, 3) := by decide +kernel
theorem dX5_goneIn_68 : decode cX5_goneIn 68 = .ok (.ldc 44, 2) := by decide +kernel
theorem dX5_goneIn_70 : decode cX5_goneIn 70 = .ok (.goto 4, 3) := by decide +kernel
theorem dX5_goneIn_73 : decode cX5_goneIn 73 = .ok (.iload_n 1, 1) := by decide +kernel
theorem dX5_goneIn_74 : decode cX5_goneIn 74 = .ok (.istore_n 1, 1) := by decide +kernel
theorem dX5_goneIn_75 : decode cX5_goneIn 75 = .ok (.aload_n 0, 1) := by decide +kernel
theorem dX5_goneIn_76 : decode cX5_goneIn 76 = .ok (.getfield 19, 3) := by decide +kernel
theorem dX5_goneIn_79 : decode cX5_goneIn 79 = .ok (.aload_n 0, 1) := by decide +kernel
theorem dX5_goneIn_80 : decode cX5_goneIn 80 = .ok (.getfield 7, 3) := by decide +kernel
theorem dX5_goneIn_83 : decode cX5_goneIn 83 = .ok (.invokestatic 114, 3) := by decide +kernel
theorem dX5_goneIn_86 : decode cX5_goneIn 86 = .ok (.iload_n 1, 1) := by decide +kernel
theorem dX5_goneIn_87 : decode cX5_goneIn 87 = .ok (.ireturn, 1) := by decide +kernel
theorem dX5_coughing_0 : decode cX5_coughing 0 = .ok (.iconst 0, 1) := by decide +kernel
theorem dX5_coughing_1 : decode cX5_coughing 1 = .ok (.istore_n 1, 1) := by decide +kernel
theorem dX5_coughing_2 : decode cX5_coughing 2 = .ok (.iconst 0, 1) := by decide +kernel
theorem dX5_coughing_3 : decode cX5_coughing 3 = .ok (.istore_n 2, 1) := by decide +kernel
theorem dX5_coughing_4 : decode cX5_coughing 4 = .ok (.iload_n 2, 1) := by decide +kernel
theorem dX5_coughing_5 : decode cX5_coughing 5 = .ok (.aload_n 0, 1) := by decide +kernel
theorem dX5_coughing_6 : decode cX5_coughing 6 = .ok (.getfield 7, 3) := by decide +kernel
theorem dX5_coughing_9 : decode cX5_coughing 9 = .ok (.sipush 199, 3) := by decide +kernel
theorem dX5_coughing_12 : decode cX5_coughing 12 = .ok (.iaload, 1) := by decide +kernel
theorem dX5_coughing_13 : decode cX5_coughing 13 = .ok (.if_icmp .ge 27, 3) := by decide +kernel
theorem dX5_coughing_16 : decode cX5_coughing 16 = .ok (.iload_n 1, 1) := by decide +kernel
theorem dX5_coughing_17 : decode cX5_coughing 17 = .ok (.aload_n 0, 1) := by decide +kernel
theorem dX5_coughing_18 : decode cX5_coughing 18 = .ok (.iload_n 2, 1) := by decide +kernel
theorem dX5_coughing_19 : decode cX5_coughing 19 = .ok (.invokevirtual 64, 3) := by decide +kernel
theorem dX5_coughing_22 : decode cX5_coughing 22 = .ok (.ifCond .eq 9, 3) := by decide +kernel
theorem dX5_coughing_25 : decode cX5_coughing 25 = .ok (.iconst 1, 1) := by decide +kernel
theorem dX5_coughing_26 : decode cX5_coughing 26 = .ok (.iload_n 2, 1) := by decide +kernel
theorem dX5_coughing_27 : decode cX5_coughing 27 = .ok (.ishl, 1) := by decide +kernel
theorem dX5_coughing_28 : decode cX5_coughing 28 = .ok (.goto 4, 3) := by decide +kernel
theorem dX5_coughing_31 : decode cX5_coughing 31 = .ok (.iconst 0, 1) := by decide +kernel
theorem dX5_coughing_32 : decode cX5_coughing 32 = .ok (.ior, 1) := by decide +kernel
theorem dX5_coughing_33 : decode cX5_coughing 33 = .ok (.istore_n 1, 1) := by decide +kernel
theorem dX5_coughing_34 : decode cX5_coughing 34 = .ok (.iinc 2 1, 3) := by decide +kernel
theorem dX5_coughing_37 : decode cX5_coughing 37 = .ok (.goto (-33), 3) := by decide +kernel
theorem dX5_coughing_40 : decode cX5_coughing 40 = .ok (.iload_n 1, 1) := by decide +kernel
theorem dX5_coughing_41 : decode cX5_coughing 41 = .ok (.ireturn, 1) := by decide +kernel
theorem dX5_loudest_0 : decode cX5_loudest 0 = .ok (.ldc 44, 2) := by decide +kernel
theorem dX5_loudest_2 : decode cX5_loudest 2 = .ok (.istore_n 1, 1) := by decide +kernel
theorem dX5_loudest_3 : decode cX5_loudest 3 = .ok (.iconst 0, 1) := by decide +kernel
theorem dX5_loudest_4 : decode cX5_loudest 4 = .ok (.istore_n 2, 1) := by decide +kernel
theorem dX5_loudest_5 : decode cX5_loudest 5 = .ok (.iload_n 2, 1) := by decide +kernel
theorem dX5_loudest_6 : decode cX5_loudest 6 = .ok (.aload_n 0, 1) := by decide +kernel
theorem dX5_loudest_7 : decode cX5_loudest 7 = .ok (.getfield 7, 3) := by decide +kernel
theorem dX5_loudest_10 : decode cX5_loudest 10 = .ok (.sipush 199, 3) := by decide +kernel
theorem dX5_loudest_13 : decode cX5_loudest 13 = .ok (.iaload, 1) := by decide +kernel
theorem dX5_loudest_14 : decode cX5_loudest 14 = .ok (.if_icmp .ge 32, 3) := by decide +kernel
theorem dX5_loudest_17 : decode cX5_loudest 17 = .ok (.iload_n 1, 1) := by decide +kernel
theorem dX5_loudest_18 : decode cX5_loudest 18 = .ok (.ifCond .lt 16, 3) := by decide +kernel
theorem dX5_loudest_21 : decode cX5_loudest 21 = .ok (.aload_n 0, 1) := by decide +kernel
theorem dX5_loudest_22 : decode cX5_loudest 22 = .ok (.iload_n 2, 1) := by decide +kernel
theorem dX5_loudest_23 : decode cX5_loudest 23 = .ok (.invokevirtual 45, 3) := by decide +kernel
theorem dX5_loudest_26 : decode cX5_loudest 26 = .ok (.aload_n 0, 1) := by decide +kernel
theorem dX5_loudest_27 : decode cX5_loudest 27 = .ok (.iload_n 1, 1) := by decide +kernel
theorem dX5_loudest_28 : decode cX5_loudest 28 = .ok (.invokevirtual 45, 3) := by decide +kernel
theorem dX5_loudest_31 : decode cX5_loudest 31 = .ok (.if_icmp .le 7, 3) := by decide +kernel
theorem dX5_loudest_34 : decode cX5_loudest 34 = .ok (.iload_n 2, 1) := by decide +kernel
theorem dX5_loudest_35 : decode cX5_loudest 35 = .ok (.goto 4, 3) := by decide +kernel
theorem dX5_loudest_38 : decode cX5_loudest 38 = .ok (.iload_n 1, 1) := by decide +kernel
theorem dX5_loudest_39 : decode cX5_loudest 39 = .ok (.istore_n 1, 1) := by decide +kernel
theorem dX5_loudest_40 : decode cX5_loudest 40 = .ok (.iinc 2 1, 3) := by decide +kernel
theorem dX5_loudest_43 : decode cX5_loudest 43 = .ok (.goto (-38), 3) := by decide +kernel
theorem dX5_loudest_46 : decode cX5_loudest 46 = .ok (.iload_n 1, 1) := by decide +kernel
theorem dX5_loudest_47 : decode cX5_loudest 47 = .ok (.ireturn, 1) := by decide +kernel
theorem dX5_ifNights_0 : decode cX5_ifNights 0 = .ok (.iload_n 1, 1) := by decide +kernel
theorem dX5_ifNights_1 : decode cX5_ifNights 1 = .ok (.iconst 1, 1) := by decide +kernel
theorem dX5_ifNights_2 : decode cX5_ifNights 2 = .ok (.bipush 20, 2) := by decide +kernel
theorem dX5_ifNights_4 : decode cX5_ifNights 4 = .ok (.invokestatic 36, 3) := by decide +kernel
theorem dX5_ifNights_7 : decode cX5_ifNights 7 = .ok (.ifCond .ne 6, 3) := by decide +kernel
theorem dX5_ifNights_10 : decode cX5_ifNights 10 = .ok (.ldc 78, 2) := by decide +kernel
theorem dX5_ifNights_12 : decode cX5_ifNights 12 = .ok (.ireturn, 1) := by decide +kernel
theorem dX5_ifNights_13 : decode cX5_ifNights 13 = .ok (.aload_n 0, 1) := by decide +kernel
theorem dX5_ifNights_14 : decode cX5_ifNights 14 = .ok (.getfield 7, 3) := by decide +kernel
theorem dX5_ifNights_17 : decode cX5_ifNights 17 = .ok (.aload_n 0, 1) := by decide +kernel
theorem dX5_ifNights_18 : decode cX5_ifNights 18 = .ok (.getfield 16, 3) := by decide +kernel
theorem dX5_ifNights_21 : decode cX5_ifNights 21 = .ok (.invokestatic 114, 3) := by decide +kernel
theorem dX5_ifNights_24 : decode cX5_ifNights 24 = .ok (.iconst 0, 1) := by decide +kernel
theorem dX5_ifNights_25 : decode cX5_ifNights 25 = .ok (.istore_n 2, 1) := by decide +kernel
theorem dX5_ifNights_26 : decode cX5_ifNights 26 = .ok (.iload_n 2, 1) := by decide +kernel
theorem dX5_ifNights_27 : decode cX5_ifNights 27 = .ok (.iload_n 1, 1) := by decide +kernel
theorem dX5_ifNights_28 : decode cX5_ifNights 28 = .ok (.if_icmp .ge 13, 3) := by decide +kernel
theorem dX5_ifNights_31 : decode cX5_ifNights 31 = .ok (.aload_n 0, 1) := by decide +kernel
theorem dX5_ifNights_32 : decode cX5_ifNights 32 = .ok (.invokevirtual 105, 3) := by decide +kernel
theorem dX5_ifNights_35 : decode cX5_ifNights 35 = .ok (.iinc 2 1, 3) := by decide +kernel
theorem dX5_ifNights_38 : decode cX5_ifNights 38 = .ok (.goto (-12), 3) := by decide +kernel
theorem dX5_ifNights_41 : decode cX5_ifNights 41 = .ok (.aload_n 0, 1) := by decide +kernel
theorem dX5_ifNights_42 : decode cX5_ifNights 42 = .ok (.invokevirtual 108, 3) := by decide +kernel
theorem dX5_ifNights_45 : decode cX5_ifNights 45 = .ok (.invokestatic 111, 3) := by decide +kernel
theorem dX5_ifNights_48 : decode cX5_ifNights 48 = .ok (.istore_n 2, 1) := by decide +kernel
theorem dX5_ifNights_49 : decode cX5_ifNights 49 = .ok (.aload_n 0, 1) := by decide +kernel
theorem dX5_ifNights_50 : decode cX5_ifNights 50 = .ok (.getfield 16, 3) := by decide +kernel
theorem dX5_ifNights_53 : decode cX5_ifNights 53 = .ok (.aload_n 0, 1) := by decide +kernel
theorem dX5_ifNights_54 : decode cX5_ifNights 54 = .ok (.getfield 7, 3) := by decide +kernel
theorem dX5_ifNights_57 : decode cX5_ifNights 57 = .ok (.invokestatic 114, 3) := by decide +kernel
theorem dX5_ifNights_60 : decode cX5_ifNights 60 = .ok (.iload_n 2, 1) := by decide +kernel
theorem dX5_ifNights_61 : decode cX5_ifNights 61 = .ok (.ireturn, 1) := by decide +kernel
theorem dX5_mean_0 : decode cX5_mean 0 = .ok (.aload_n 0, 1) := by decide +kernel
theorem dX5_mean_1 : decode cX5_mean 1 = .ok (.getfield 7, 3) := by decide +kernel
theorem dX5_mean_4 : decode cX5_mean 4 = .ok (.sipush 205, 3) := by decide +kernel
theorem dX5_mean_7 : decode cX5_mean 7 = .ok (.iaload, 1) := by decide +kernel
theorem dX5_mean_8 : decode cX5_mean 8 = .ok (.i2f, 1) := by decide +kernel
theorem dX5_mean_9 : decode cX5_mean 9 = .ok (.fstore_n 1, 1) := by decide +kernel
theorem dX5_mean_10 : decode cX5_mean 10 = .ok (.aload_n 0, 1) := by decide +kernel
theorem dX5_mean_11 : decode cX5_mean 11 = .ok (.getfield 7, 3) := by decide +kernel
theorem dX5_mean_14 : decode cX5_mean 14 = .ok (.sipush 202, 3) := by decide +kernel
theorem dX5_mean_17 : decode cX5_mean 17 = .ok (.iaload, 1) := by decide +kernel
theorem dX5_mean_18 : decode cX5_mean 18 = .ok (.i2f, 1) := by decide +kernel
theorem dX5_mean_19 : decode cX5_mean 19 = .ok (.fstore_n 2, 1) := by decide +kernel
theorem dX5_mean_20 : decode cX5_mean 20 = .ok (.aload_n 0, 1) := by decide +kernel
theorem dX5_mean_21 : decode cX5_mean 21 = .ok (.getfield 7, 3) := by decide +kernel
theorem dX5_mean_24 : decode cX5_mean 24 = .ok (.sipush 202, 3) := by decide +kernel
theorem dX5_mean_27 : decode cX5_mean 27 = .ok (.iaload, 1) := by decide +kernel
theorem dX5_mean_28 : decode cX5_mean 28 = .ok (.ifCond .ne 8, 3) := by decide +kernel
theorem dX5_mean_31 : decode cX5_mean 31 = .ok (.ldc 44, 2) := by decide +kernel
theorem dX5_mean_33 : decode cX5_mean 33 = .ok (.goto 9, 3) := by decide +kernel
theorem dX5_mean_36 : decode cX5_mean 36 = .ok (.fload_n 1, 1) := by decide +kernel
theorem dX5_mean_37 : decode cX5_mean 37 = .ok (.fload_n 2, 1) := by decide +kernel
theorem dX5_mean_38 : decode cX5_mean 38 = .ok (.fdiv, 1) := by decide +kernel
theorem dX5_mean_39 : decode cX5_mean 39 = .ok (.invokestatic 118, 3) := by decide +kernel
theorem dX5_mean_42 : decode cX5_mean 42 = .ok (.ireturn, 1) := by decide +kernel
theorem dX5_byPurses_0 : decode cX5_byPurses 0 = .ok (.iconst 0, 1) := by decide +kernel
theorem dX5_byPurses_1 : decode cX5_byPurses 1 = .ok (.istore_n 1, 1) := by decide +kernel
theorem dX5_byPurses_2 : decode cX5_byPurses 2 = .ok (.iconst 0, 1) := by decide +kernel
theorem dX5_byPurses_3 : decode cX5_byPurses 3 = .ok (.istore_n 2, 1) := by decide +kernel
theorem dX5_byPurses_4 : decode cX5_byPurses 4 = .ok (.iload_n 2, 1) := by decide +kernel
theorem dX5_byPurses_5 : decode cX5_byPurses 5 = .ok (.aload_n 0, 1) := by decide +kernel
theorem dX5_byPurses_6 : decode cX5_byPurses 6 = .ok (.getfield 7, 3) := by decide +kernel
theorem dX5_byPurses_9 : decode cX5_byPurses 9 = .ok (.sipush 199, 3) := by decide +kernel
theorem dX5_byPurses_12 : decode cX5_byPurses 12 = .ok (.iaload, 1) := by decide +kernel
theorem dX5_byPurses_13 : decode cX5_byPurses 13 = .ok (.if_icmp .ge 26, 3) := by decide +kernel
theorem dX5_byPurses_16 : decode cX5_byPurses 16 = .ok (.iload_n 1, 1) := by decide +kernel
theorem dX5_byPurses_17 : decode cX5_byPurses 17 = .ok (.aload_n 0, 1) := by decide +kernel
theorem dX5_byPurses_18 : decode cX5_byPurses 18 = .ok (.iload_n 2, 1) := by decide +kernel
theorem dX5_byPurses_19 : decode cX5_byPurses 19 = .ok (.bipush 10, 2) := by decide +kernel
theorem dX5_byPurses_21 : decode cX5_byPurses 21 = .ok (.invokevirtual 40, 3) := by decide +kernel
theorem dX5_byPurses_24 : decode cX5_byPurses 24 = .ok (.aload_n 0, 1) := by decide +kernel
theorem dX5_byPurses_25 : decode cX5_byPurses 25 = .ok (.iload_n 2, 1) := by decide +kernel
theorem dX5_byPurses_26 : decode cX5_byPurses 26 = .ok (.iconst 2, 1) := by decide +kernel
theorem dX5_byPurses_27 : decode cX5_byPurses 27 = .ok (.invokevirtual 40, 3) := by decide +kernel
theorem dX5_byPurses_30 : decode cX5_byPurses 30 = .ok (.isub, 1) := by decide +kernel
theorem dX5_byPurses_31 : decode cX5_byPurses 31 = .ok (.iadd, 1) := by decide +kernel
theorem dX5_byPurses_32 : decode cX5_byPurses 32 = .ok (.istore_n 1, 1) := by decide +kernel
theorem dX5_byPurses_33 : decode cX5_byPurses 33 = .ok (.iinc 2 1, 3) := by decide +kernel
theorem dX5_byPurses_36 : decode cX5_byPurses 36 = .ok (.goto (-32), 3) := by decide +kernel
theorem dX5_byPurses_39 : decode cX5_byPurses 39 = .ok (.iload_n 1, 1) := by decide +kernel
theorem dX5_byPurses_40 : decode cX5_byPurses 40 = .ok (.ireturn, 1) := by decide +kernel
theorem dX5_count_0 : decode cX5_count 0 = .ok (.iload_n 1, 1) := by decide +kernel
theorem dX5_count_1 : decode cX5_count 1 = .ok (.tableswitch 211 0 22 #[107, 107, 107, 118, 127, 127, 127, 127, 127, 140, 145, 145, 145, 159, 164, 164, 178, 183, 188, 211, 197, 197, 197], 107) := by decide +kernel
theorem dX5_count_108 : decode cX5_count 108 = .ok (.aload_n 0, 1) := by decide +kernel
theorem dX5_count_109 : decode cX5_count 109 = .ok (.getfield 7, 3) := by decide +kernel
theorem dX5_count_112 : decode cX5_count 112 = .ok (.sipush 198, 3) := by decide +kernel
theorem dX5_count_115 : decode cX5_count 115 = .ok (.iload_n 1, 1) := by decide +kernel
theorem dX5_count_116 : decode cX5_count 116 = .ok (.iadd, 1) := by decide +kernel
theorem dX5_count_117 : decode cX5_count 117 = .ok (.iaload, 1) := by decide +kernel
theorem dX5_count_118 : decode cX5_count 118 = .ok (.ireturn, 1) := by decide +kernel
theorem dX5_count_119 : decode cX5_count 119 = .ok (.aload_n 0, 1) := by decide +kernel
theorem dX5_count_120 : decode cX5_count 120 = .ok (.getfield 7, 3) := by decide +kernel
theorem dX5_count_123 : decode cX5_count 123 = .ok (.sipush 148, 3) := by decide +kernel
theorem dX5_count_126 : decode cX5_count 126 = .ok (.iaload, 1) := by decide +kernel
theorem dX5_count_127 : decode cX5_count 127 = .ok (.ireturn, 1) := by decide +kernel
theorem dX5_count_128 : decode cX5_count 128 = .ok (.aload_n 0, 1) := by decide +kernel
theorem dX5_count_129 : decode cX5_count 129 = .ok (.getfield 7, 3) := by decide +kernel
theorem dX5_count_132 : decode cX5_count 132 = .ok (.sipush 201, 3) := by decide +kernel
theorem dX5_count_135 : decode cX5_count 135 = .ok (.iload_n 1, 1) := by decide +kernel
theorem dX5_count_136 : decode cX5_count 136 = .ok (.iadd, 1) := by decide +kernel
theorem dX5_count_137 : decode cX5_count 137 = .ok (.iconst 4, 1) := by decide +kernel
theorem dX5_count_138 : decode cX5_count 138 = .ok (.isub, 1) := by decide +kernel
theorem dX5_count_139 : decode cX5_count 139 = .ok (.iaload, 1) := by decide +kernel
theorem dX5_count_140 : decode cX5_count 140 = .ok (.ireturn, 1) := by decide +kernel
theorem dX5_count_141 : decode cX5_count 141 = .ok (.aload_n 0, 1) := by decide +kernel
theorem dX5_count_142 : decode cX5_count 142 = .ok (.invokevirtual 124, 3) := by decide +kernel
theorem dX5_count_145 : decode cX5_count 145 = .ok (.ireturn, 1) := by decide +kernel
theorem dX5_count_146 : decode cX5_count 146 = .ok (.aload_n 0, 1) := by decide +kernel
theorem dX5_count_147 : decode cX5_count 147 = .ok (.getfield 7, 3) := by decide +kernel
theorem dX5_count_150 : decode cX5_count 150 = .ok (.sipush 206, 3) := by decide +kernel
theorem dX5_count_153 : decode cX5_count 153 = .ok (.iload_n 1, 1) := by decide +kernel
theorem dX5_count_154 : decode cX5_count 154 = .ok (.iadd, 1) := by decide +kernel
theorem dX5_count_155 : decode cX5_count 155 = .ok (.bipush 10, 2) := by decide +kernel
theorem dX5_count_157 : decode cX5_count 157 = .ok (.isub, 1) := by decide +kernel
theorem dX5_count_158 : decode cX5_count 158 = .ok (.iaload, 1) := by decide +kernel
theorem dX5_count_159 : decode cX5_count 159 = .ok (.ireturn, 1) := by decide +kernel
theorem dX5_count_160 : decode cX5_count 160 = .ok (.aload_n 0, 1) := by decide +kernel
theorem dX5_count_161 : decode cX5_count 161 = .ok (.invokevirtual 108, 3) := by decide +kernel
theorem dX5_count_164 : decode cX5_count 164 = .ok (.ireturn, 1) := by decide +kernel
theorem dX5_count_165 : decode cX5_count 165 = .ok (.aload_n 0, 1) := by decide +kernel
theorem dX5_count_166 : decode cX5_count 166 = .ok (.getfield 7, 3) := by decide +kernel
theorem dX5_count_169 : decode cX5_count 169 = .ok (.sipush 209, 3) := by decide +kernel
theorem dX5_count_172 : decode cX5_count 172 = .ok (.iload_n 1, 1) := by decide +kernel
theorem dX5_count_173 : decode cX5_count 173 = .ok (.iadd, 1) := by decide +kernel
theorem dX5_count_174 : decode cX5_count 174 = .ok (.bipush 14, 2) := by decide +kernel
theorem dX5_count_176 : decode cX5_count 176 = .ok (.isub, 1) := by decide +kernel
theorem dX5_count_177 : decode cX5_count 177 = .ok (.iaload, 1) := by decide +kernel
theorem dX5_count_178 : decode cX5_count 178 = .ok (.ireturn, 1) := by decide +kernel
theorem dX5_count_179 : decode cX5_count 179 = .ok (.aload_n 0, 1) := by decide +kernel
theorem dX5_count_180 : decode cX5_count 180 = .ok (.getfield 32, 3) := by decide +kernel
theorem dX5_count_183 : decode cX5_count 183 = .ok (.ireturn, 1) := by decide +kernel
theorem dX5_count_184 : decode cX5_count 184 = .ok (.aload_n 0, 1) := by decide +kernel
theorem dX5_count_185 : decode cX5_count 185 = .ok (.getfield 127, 3) := by decide +kernel
theorem dX5_count_188 : decode cX5_count 188 = .ok (.ireturn, 1) := by decide +kernel
theorem dX5_count_189 : decode cX5_count 189 = .ok (.aload_n 0, 1) := by decide +kernel
theorem dX5_count_190 : decode cX5_count 190 = .ok (.getfield 7, 3) := by decide +kernel
theorem dX5_count_193 : decode cX5_count 193 = .ok (.sipush 211, 3) := by decide +kernel
theorem dX5_count_196 : decode cX5_count 196 = .ok (.iaload, 1) := by decide +kernel
theorem dX5_count_197 : decode cX5_count 197 = .ok (.ireturn, 1) := by decide +kernel
theorem dX5_count_198 : decode cX5_count 198 = .ok (.aload_n 0, 1) := by decide +kernel
theorem dX5_count_199 : decode cX5_count 199 = .ok (.getfield 7, 3) := by decide +kernel
theorem dX5_count_202 : decode cX5_count 202 = .ok (.sipush 212, 3) := by decide +kernel
theorem dX5_count_205 : decode cX5_count 205 = .ok (.iload_n 1, 1) := by decide +kernel
theorem dX5_count_206 : decode cX5_count 206 = .ok (.iadd, 1) := by decide +kernel
theorem dX5_count_207 : decode cX5_count 207 = .ok (.bipush 20, 2) := by decide +kernel
theorem dX5_count_209 : decode cX5_count 209 = .ok (.isub, 1) := by decide +kernel
theorem dX5_count_210 : decode cX5_count 210 = .ok (.iaload, 1) := by decide +kernel
theorem dX5_count_211 : decode cX5_count 211 = .ok (.ireturn, 1) := by decide +kernel
theorem dX5_count_212 : decode cX5_count 212 = .ok (.ldc 78, 2) := by decide +kernel
theorem dX5_count_214 : decode cX5_count 214 = .ok (.ireturn, 1) := by decide +kernel
theorem dX5_undo_0 : decode cX5_undo 0 = .ok (.aload_n 0, 1) := by decide +kernel
theorem dX5_undo_1 : decode cX5_undo 1 = .ok (.getfield 32, 3) := by decide +kernel
theorem dX5_undo_4 : decode cX5_undo 4 = .ok (.ifCond .ne 6, 3) := by decide +kernel
theorem dX5_undo_7 : decode cX5_undo 7 = .ok (.ldc 82, 2) := by decide +kernel
theorem dX5_undo_9 : decode cX5_undo 9 = .ok (.ireturn, 1) := by decide +kernel
theorem dX5_undo_10 : decode cX5_undo 10 = .ok (.aload_n 0, 1) := by decide +kernel
theorem dX5_undo_11 : decode cX5_undo 11 = .ok (.dup, 1) := by decide +kernel
theorem dX5_undo_12 : decode cX5_undo 12 = .ok (.getfield 32, 3) := by decide +kernel
theorem dX5_undo_15 : decode cX5_undo 15 = .ok (.iconst 1, 1) := by decide +kernel
theorem dX5_undo_16 : decode cX5_undo 16 = .ok (.isub, 1) := by decide +kernel
theorem dX5_undo_17 : decode cX5_undo 17 = .ok (.putfield 32, 3) := by decide +kernel
theorem dX5_undo_20 : decode cX5_undo 20 = .ok (.iconst 0, 1) := by decide +kernel
theorem dX5_undo_21 : decode cX5_undo 21 = .ok (.istore_n 1, 1) := by decide +kernel
theorem dX5_undo_22 : decode cX5_undo 22 = .ok (.iload_n 1, 1) := by decide +kernel
theorem dX5_undo_23 : decode cX5_undo 23 = .ok (.sipush 215, 3) := by decide +kernel
theorem dX5_undo_26 : decode cX5_undo 26 = .ok (.if_icmp .ge 30, 3) := by decide +kernel
theorem dX5_undo_29 : decode cX5_undo 29 = .ok (.aload_n 0, 1) := by decide +kernel
theorem dX5_undo_30 : decode cX5_undo 30 = .ok (.getfield 7, 3) := by decide +kernel
theorem dX5_undo_33 : decode cX5_undo 33 = .ok (.iload_n 1, 1) := by decide +kernel
theorem dX5_undo_34 : decode cX5_undo 34 = .ok (.aload_n 0, 1) := by decide +kernel
theorem dX5_undo_35 : decode cX5_undo 35 = .ok (.getfield 13, 3) := by decide +kernel
theorem dX5_undo_38 : decode cX5_undo 38 = .ok (.sipush 215, 3) := by decide +kernel
theorem dX5_undo_41 : decode cX5_undo 41 = .ok (.aload_n 0, 1) := by decide +kernel
theorem dX5_undo_42 : decode cX5_undo 42 = .ok (.getfield 32, 3) := by decide +kernel
theorem dX5_undo_45 : decode cX5_undo 45 = .ok (.imul, 1) := by decide +kernel
theorem dX5_undo_46 : decode cX5_undo 46 = .ok (.iload_n 1, 1) := by decide +kernel
theorem dX5_undo_47 : decode cX5_undo 47 = .ok (.iadd, 1) := by decide +kernel
theorem dX5_undo_48 : decode cX5_undo 48 = .ok (.iaload, 1) := by decide +kernel
theorem dX5_undo_49 : decode cX5_undo 49 = .ok (.iastore, 1) := by decide +kernel
theorem dX5_undo_50 : decode cX5_undo 50 = .ok (.iinc 1 1, 3) := by decide +kernel
theorem dX5_undo_53 : decode cX5_undo 53 = .ok (.goto (-31), 3) := by decide +kernel
theorem dX5_undo_56 : decode cX5_undo 56 = .ok (.aload_n 0, 1) := by decide +kernel
theorem dX5_undo_57 : decode cX5_undo 57 = .ok (.getfield 32, 3) := by decide +kernel
theorem dX5_undo_60 : decode cX5_undo 60 = .ok (.ireturn, 1) := by decide +kernel
theorem dX5_type_0 : decode cX5_type 0 = .ok (.iload_n 1, 1) := by decide +kernel
theorem dX5_type_1 : decode cX5_type 1 = .ok (.bipush 32, 2) := by decide +kernel
theorem dX5_type_3 : decode cX5_type 3 = .ok (.bipush 126, 2) := by decide +kernel
theorem dX5_type_5 : decode cX5_type 5 = .ok (.invokestatic 36, 3) := by decide +kernel
theorem dX5_type_8 : decode cX5_type 8 = .ok (.ifCond .ne 6, 3) := by decide +kernel
theorem dX5_type_11 : decode cX5_type 11 = .ok (.ldc 78, 2) := by decide +kernel
theorem dX5_type_13 : decode cX5_type 13 = .ok (.ireturn, 1) := by decide +kernel
theorem dX5_type_14 : decode cX5_type 14 = .ok (.aload_n 0, 1) := by decide +kernel
theorem dX5_type_15 : decode cX5_type 15 = .ok (.getfield 127, 3) := by decide +kernel
theorem dX5_type_18 : decode cX5_type 18 = .ok (.bipush 60, 2) := by decide +kernel
theorem dX5_type_20 : decode cX5_type 20 = .ok (.if_icmp .ne 6, 3) := by decide +kernel
theorem dX5_type_23 : decode cX5_type 23 = .ok (.ldc 83, 2) := by decide +kernel
theorem dX5_type_25 : decode cX5_type 25 = .ok (.ireturn, 1) := by decide +kernel
theorem dX5_type_26 : decode cX5_type 26 = .ok (.aload_n 0, 1) := by decide +kernel
theorem dX5_type_27 : decode cX5_type 27 = .ok (.getfield 22, 3) := by decide +kernel
theorem dX5_type_30 : decode cX5_type 30 = .ok (.aload_n 0, 1) := by decide +kernel
theorem dX5_type_31 : decode cX5_type 31 = .ok (.getfield 127, 3) := by decide +kernel
theorem dX5_type_34 : decode cX5_type 34 = .ok (.iload_n 1, 1) := by decide +kernel
theorem dX5_type_35 : decode cX5_type 35 = .ok (.iastore, 1) := by decide +kernel
theorem dX5_type_36 : decode cX5_type 36 = .ok (.aload_n 0, 1) := by decide +kernel
theorem dX5_type_37 : decode cX5_type 37 = .ok (.dup, 1) := by decide +kernel
theorem dX5_type_38 : decode cX5_type 38 = .ok (.getfield 127, 3) := by decide +kernel
theorem dX5_type_41 : decode cX5_type 41 = .ok (.iconst 1, 1) := by decide +kernel
theorem dX5_type_42 : decode cX5_type 42 = .ok (.iadd, 1) := by decide +kernel
theorem dX5_type_43 : decode cX5_type 43 = .ok (.putfield 127, 3) := by decide +kernel
theorem dX5_type_46 : decode cX5_type 46 = .ok (.aload_n 0, 1) := by decide +kernel
theorem dX5_type_47 : decode cX5_type 47 = .ok (.getfield 127, 3) := by decide +kernel
theorem dX5_type_50 : decode cX5_type 50 = .ok (.ireturn, 1) := by decide +kernel
theorem dX5_clearText_0 : decode cX5_clearText 0 = .ok (.aload_n 0, 1) := by decide +kernel
theorem dX5_clearText_1 : decode cX5_clearText 1 = .ok (.getfield 127, 3) := by decide +kernel
theorem dX5_clearText_4 : decode cX5_clearText 4 = .ok (.istore_n 1, 1) := by decide +kernel
theorem dX5_clearText_5 : decode cX5_clearText 5 = .ok (.aload_n 0, 1) := by decide +kernel
theorem dX5_clearText_6 : decode cX5_clearText 6 = .ok (.iconst 0, 1) := by decide +kernel
theorem dX5_clearText_7 : decode cX5_clearText 7 = .ok (.putfield 127, 3) := by decide +kernel
theorem dX5_clearText_10 : decode cX5_clearText 10 = .ok (.iload_n 1, 1) := by decide +kernel
theorem dX5_clearText_11 : decode cX5_clearText 11 = .ok (.ireturn, 1) := by decide +kernel
theorem dX5_isAt_0 : decode cX5_isAt 0 = .ok (.aload_n 0, 1) := by decide +kernel
theorem dX5_isAt_1 : decode cX5_isAt 1 = .ok (.getfield 130, 3) := by decide +kernel
theorem dX5_isAt_4 : decode cX5_isAt 4 = .ok (.aload_n 0, 1) := by decide +kernel
theorem dX5_isAt_5 : decode cX5_isAt 5 = .ok (.getfield 127, 3) := by decide +kernel
theorem dX5_isAt_8 : decode cX5_isAt 8 = .ok (.if_icmp .ge 24, 3) := by decide +kernel
theorem dX5_isAt_11 : decode cX5_isAt 11 = .ok (.aload_n 0, 1) := by decide +kernel
theorem dX5_isAt_12 : decode cX5_isAt 12 = .ok (.getfield 22, 3) := by decide +kernel
theorem dX5_isAt_15 : decode cX5_isAt 15 = .ok (.aload_n 0, 1) := by decide +kernel
theorem dX5_isAt_16 : decode cX5_isAt 16 = .ok (.getfield 130, 3) := by decide +kernel
theorem dX5_isAt_19 : decode cX5_isAt 19 = .ok (.iaload, 1) := by decide +kernel
theorem dX5_isAt_20 : decode cX5_isAt 20 = .ok (.iload_n 1, 1) := by decide +kernel
theorem dX5_isAt_21 : decode cX5_isAt 21 = .ok (.iload_n 2, 1) := by decide +kernel
theorem dX5_isAt_22 : decode cX5_isAt 22 = .ok (.invokestatic 36, 3) := by decide +kernel
theorem dX5_isAt_25 : decode cX5_isAt 25 = .ok (.ifCond .eq 7, 3) := by decide +kernel
theorem dX5_isAt_28 : decode cX5_isAt 28 = .ok (.iconst 1, 1) := by decide +kernel
theorem dX5_isAt_29 : decode cX5_isAt 29 = .ok (.goto 4, 3) := by decide +kernel
theorem dX5_isAt_32 : decode cX5_isAt 32 = .ok (.iconst 0, 1) := by decide +kernel
theorem dX5_isAt_33 : decode cX5_isAt 33 = .ok (.ireturn, 1) := by decide +kernel
theorem dX5_sign_0 : decode cX5_sign 0 = .ok (.aload_n 0, 1) := by decide +kernel
theorem dX5_sign_1 : decode cX5_sign 1 = .ok (.iload_n 1, 1) := by decide +kernel
theorem dX5_sign_2 : decode cX5_sign 2 = .ok (.iload_n 1, 1) := by decide +kernel
theorem dX5_sign_3 : decode cX5_sign 3 = .ok (.invokevirtual 133, 3) := by decide +kernel
theorem dX5_sign_6 : decode cX5_sign 6 = .ok (.istore_n 2, 1) := by decide +kernel
theorem dX5_sign_7 : decode cX5_sign 7 = .ok (.aload_n 0, 1) := by decide +kernel
theorem dX5_sign_8 : decode cX5_sign 8 = .ok (.dup, 1) := by decide +kernel
theorem dX5_sign_9 : decode cX5_sign 9 = .ok (.getfield 130, 3) := by decide +kernel
theorem dX5_sign_12 : decode cX5_sign 12 = .ok (.iload_n 2, 1) := by decide +kernel
theorem dX5_sign_13 : decode cX5_sign 13 = .ok (.ifCond .eq 7, 3) := by decide +kernel
theorem dX5_sign_16 : decode cX5_sign 16 = .ok (.iconst 1, 1) := by decide +kernel
theorem dX5_sign_17 : decode cX5_sign 17 = .ok (.goto 4, 3) := by decide +kernel
theorem dX5_sign_20 : decode cX5_sign 20 = .ok (.iconst 0, 1) := by decide +kernel
theorem dX5_sign_21 : decode cX5_sign 21 = .ok (.iadd, 1) := by decide +kernel
theorem dX5_sign_22 : decode cX5_sign 22 = .ok (.putfield 130, 3) := by decide +kernel
theorem dX5_sign_25 : decode cX5_sign 25 = .ok (.iload_n 2, 1) := by decide +kernel
theorem dX5_sign_26 : decode cX5_sign 26 = .ok (.ireturn, 1) := by decide +kernel
theorem dX5_numbered_0 : decode cX5_numbered 0 = .ok (.aload_n 0, 1) := by decide +kernel
theorem dX5_numbered_1 : decode cX5_numbered 1 = .ok (.getfield 130, 3) := by decide +kernel
theorem dX5_numbered_4 : decode cX5_numbered 4 = .ok (.istore_n 2, 1) := by decide +kernel
theorem dX5_numbered_5 : decode cX5_numbered 5 = .ok (.aload_n 0, 1) := by decide +kernel
theorem dX5_numbered_6 : decode cX5_numbered 6 = .ok (.getfield 25, 3) := by decide +kernel
theorem dX5_numbered_9 : decode cX5_numbered 9 = .ok (.iload_n 1, 1) := by decide +kernel
theorem dX5_numbered_10 : decode cX5_numbered 10 = .ok (.iconst 0, 1) := by decide +kernel
theorem dX5_numbered_11 : decode cX5_numbered 11 = .ok (.iastore, 1) := by decide +kernel
theorem dX5_numbered_12 : decode cX5_numbered 12 = .ok (.aload_n 0, 1) := by decide +kernel
theorem dX5_numbered_13 : decode cX5_numbered 13 = .ok (.bipush 48, 2) := by decide +kernel
theorem dX5_numbered_15 : decode cX5_numbered 15 = .ok (.bipush 57, 2) := by decide +kernel
theorem dX5_numbered_17 : decode cX5_numbered 17 = .ok (.invokevirtual 133, 3) := by decide +kernel
theorem dX5_numbered_20 : decode cX5_numbered 20 = .ok (.ifCond .eq 54, 3) := by decide +kernel
theorem dX5_numbered_23 : decode cX5_numbered 23 = .ok (.aload_n 0, 1) := by decide +kernel
theorem dX5_numbered_24 : decode cX5_numbered 24 = .ok (.getfield 130, 3) := by decide +kernel
theorem dX5_numbered_27 : decode cX5_numbered 27 = .ok (.iload_n 2, 1) := by decide +kernel
theorem dX5_numbered_28 : decode cX5_numbered 28 = .ok (.isub, 1) := by decide +kernel
theorem dX5_numbered_29 : decode cX5_numbered 29 = .ok (.iconst 3, 1) := by decide +kernel
theorem dX5_numbered_30 : decode cX5_numbered 30 = .ok (.if_icmp .ge 44, 3) := by decide +kernel
theorem dX5_numbered_33 : decode cX5_numbered 33 = .ok (.aload_n 0, 1) := by decide +kernel
theorem dX5_numbered_34 : decode cX5_numbered 34 = .ok (.getfield 25, 3) := by decide +kernel
theorem dX5_numbered_37 : decode cX5_numbered 37 = .ok (.iload_n 1, 1) := by decide +kernel
theorem dX5_numbered_38 : decode cX5_numbered 38 = .ok (.bipush 10, 2) := by decide +kernel
theorem dX5_numbered_40 : decode cX5_numbered 40 = .ok (.aload_n 0, 1) := by decide +kernel
theorem dX5_numbered_41 : decode cX5_numbered 41 = .ok (.getfield 25, 3) := by decide +kernel
theorem dX5_numbered_44 : decode cX5_numbered 44 = .ok (.iload_n 1, 1) := by decide +kernel
theorem dX5_numbered_45 : decode cX5_numbered 45 = .ok (.iaload, 1) := by decide +kernel
theorem dX5_numbered_46 : decode cX5_numbered 46 = .ok (.imul, 1) := by decide +kernel
theorem dX5_numbered_47 : decode cX5_numbered 47 = .ok (.aload_n 0, 1) := by decide +kernel
theorem dX5_numbered_48 : decode cX5_numbered 48 = .ok (.getfield 22, 3) := by decide +kernel
theorem dX5_numbered_51 : decode cX5_numbered 51 = .ok (.aload_n 0, 1) := by decide +kernel
theorem dX5_numbered_52 : decode cX5_numbered 52 = .ok (.getfield 130, 3) := by decide +kernel
theorem dX5_numbered_55 : decode cX5_numbered 55 = .ok (.iaload, 1) := by decide +kernel
theorem dX5_numbered_56 : decode cX5_numbered 56 = .ok (.iadd, 1) := by decide +kernel
theorem dX5_numbered_57 : decode cX5_numbered 57 = .ok (.bipush 48, 2) := by decide +kernel
theorem dX5_numbered_59 : decode cX5_numbered 59 = .ok (.isub, 1) := by decide +kernel
theorem dX5_numbered_60 : decode cX5_numbered 60 = .ok (.iastore, 1) := by decide +kernel
theorem dX5_numbered_61 : decode cX5_numbered 61 = .ok (.aload_n 0, 1) := by decide +kernel
theorem dX5_numbered_62 : decode cX5_numbered 62 = .ok (.dup, 1) := by decide +kernel
theorem dX5_numbered_63 : decode cX5_numbered 63 = .ok (.getfield 130, 3) := by decide +kernel
theorem dX5_numbered_66 : decode cX5_numbered 66 = .ok (.iconst 1, 1) := by decide +kernel
theorem dX5_numbered_67 : decode cX5_numbered 67 = .ok (.iadd, 1) := by decide +kernel
theorem dX5_numbered_68 : decode cX5_numbered 68 = .ok (.putfield 130, 3) := by decide +kernel
theorem dX5_numbered_71 : decode cX5_numbered 71 = .ok (.goto (-59), 3) := by decide +kernel
theorem dX5_numbered_74 : decode cX5_numbered 74 = .ok (.aload_n 0, 1) := by decide +kernel
theorem dX5_numbered_75 : decode cX5_numbered 75 = .ok (.getfield 130, 3) := by decide +kernel
theorem dX5_numbered_78 : decode cX5_numbered 78 = .ok (.iload_n 2, 1) := by decide +kernel
theorem dX5_numbered_79 : decode cX5_numbered 79 = .ok (.if_icmp .le 7, 3) := by decide +kernel
theorem dX5_numbered_82 : decode cX5_numbered 82 = .ok (.iconst 1, 1) := by decide +kernel
theorem dX5_numbered_83 : decode cX5_numbered 83 = .ok (.goto 4, 3) := by decide +kernel
theorem dX5_numbered_86 : decode cX5_numbered 86 = .ok (.iconst 0, 1) := by decide +kernel
theorem dX5_numbered_87 : decode cX5_numbered 87 = .ok (.ireturn, 1) := by decide +kernel
theorem dX5_numbersOf_0 : decode cX5_numbersOf 0 = .ok (.iload_n 0, 1) := by decide +kernel
theorem dX5_numbersOf_1 : decode cX5_numbersOf 1 = .ok (.tableswitch 103 98 117 #[99, 99, 103, 103, 103, 103, 103, 103, 103, 103, 97, 97, 101, 103, 95, 103, 103, 103, 103, 101], 95) := by decide +kernel
theorem dX5_numbersOf_96 : decode cX5_numbersOf 96 = .ok (.iconst 4, 1) := by decide +kernel
theorem dX5_numbersOf_97 : decode cX5_numbersOf 97 = .ok (.ireturn, 1) := by decide +kernel
theorem dX5_numbersOf_98 : decode cX5_numbersOf 98 = .ok (.iconst 2, 1) := by decide +kernel
theorem dX5_numbersOf_99 : decode cX5_numbersOf 99 = .ok (.ireturn, 1) := by decide +kernel
theorem dX5_numbersOf_100 : decode cX5_numbersOf 100 = .ok (.iconst 1, 1) := by decide +kernel
theorem dX5_numbersOf_101 : decode cX5_numbersOf 101 = .ok (.ireturn, 1) := by decide +kernel
theorem dX5_numbersOf_102 : decode cX5_numbersOf 102 = .ok (.iconst 0, 1) := by decide +kernel
theorem dX5_numbersOf_103 : decode cX5_numbersOf 103 = .ok (.ireturn, 1) := by decide +kernel
theorem dX5_numbersOf_104 : decode cX5_numbersOf 104 = .ok (.ldc 44, 2) := by decide +kernel
theorem dX5_numbersOf_106 : decode cX5_numbersOf 106 = .ok (.ireturn, 1) := by decide +kernel
theorem dX5_parses_0 : decode cX5_parses 0 = .ok (.aload_n 0, 1) := by decide +kernel
theorem dX5_parses_1 : decode cX5_parses 1 = .ok (.aload_n 0, 1) := by decide +kernel
theorem dX5_parses_2 : decode cX5_parses 2 = .ok (.bipush 33, 2) := by decide +kernel
theorem dX5_parses_4 : decode cX5_parses 4 = .ok (.bipush 126, 2) := by decide +kernel
theorem dX5_parses_6 : decode cX5_parses 6 = .ok (.invokevirtual 133, 3) := by decide +kernel
theorem dX5_parses_9 : decode cX5_parses 9 = .ok (.ifCond .eq 15, 3) := by decide +kernel
theorem dX5_parses_12 : decode cX5_parses 12 = .ok (.aload_n 0, 1) := by decide +kernel
theorem dX5_parses_13 : decode cX5_parses 13 = .ok (.getfield 22, 3) := by decide +kernel
theorem dX5_parses_16 : decode cX5_parses 16 = .ok (.aload_n 0, 1) := by decide +kernel
theorem dX5_parses_17 : decode cX5_parses 17 = .ok (.getfield 130, 3) := by decide +kernel
theorem dX5_parses_20 : decode cX5_parses 20 = .ok (.iaload, 1) := by decide +kernel
theorem dX5_parses_21 : decode cX5_parses 21 = .ok (.goto 4, 3) := by decide +kernel
theorem dX5_parses_24 : decode cX5_parses 24 = .ok (.iconst 0, 1) := by decide +kernel
theorem dX5_parses_25 : decode cX5_parses 25 = .ok (.putfield 136, 3) := by decide +kernel
theorem dX5_parses_28 : decode cX5_parses 28 = .ok (.aload_n 0, 1) := by decide +kernel
theorem dX5_parses_29 : decode cX5_parses 29 = .ok (.getfield 136, 3) := by decide +kernel
theorem dX5_parses_32 : decode cX5_parses 32 = .ok (.invokestatic 139, 3) := by decide +kernel
theorem dX5_parses_35 : decode cX5_parses 35 = .ok (.istore_n 1, 1) := by decide +kernel
theorem dX5_parses_36 : decode cX5_parses 36 = .ok (.iload_n 1, 1) := by decide +kernel
theorem dX5_parses_37 : decode cX5_parses 37 = .ok (.ifCond .ge 5, 3) := by decide +kernel
theorem dX5_parses_40 : decode cX5_parses 40 = .ok (.iconst 0, 1) := by decide +kernel
theorem dX5_parses_41 : decode cX5_parses 41 = .ok (.ireturn, 1) := by decide +kernel
theorem dX5_parses_42 : decode cX5_parses 42 = .ok (.aload_n 0, 1) := by decide +kernel
theorem dX5_parses_43 : decode cX5_parses 43 = .ok (.dup, 1) := by decide +kernel
theorem dX5_parses_44 : decode cX5_parses 44 = .ok (.getfield 130, 3) := by decide +kernel
theorem dX5_parses_47 : decode cX5_parses 47 = .ok (.iconst 1, 1) := by decide +kernel
theorem dX5_parses_48 : decode cX5_parses 48 = .ok (.iadd, 1) := by decide +kernel
theorem dX5_parses_49 : decode cX5_parses 49 = .ok (.putfield 130, 3) := by decide +kernel
theorem dX5_parses_52 : decode cX5_parses 52 = .ok (.iload_n 1, 1) := by decide +kernel
theorem dX5_parses_53 : decode cX5_parses 53 = .ok (.ifCond .eq 11, 3) := by decide +kernel
theorem dX5_parses_56 : decode cX5_parses 56 = .ok (.aload_n 0, 1) := by decide +kernel
theorem dX5_parses_57 : decode cX5_parses 57 = .ok (.iconst 0, 1) := by decide +kernel
theorem dX5_parses_58 : decode cX5_parses 58 = .ok (.invokevirtual 142, 3) := by decide +kernel
theorem dX5_parses_61 : decode cX5_parses 61 = .ok (.ifCond .eq 7, 3) := by decide +kernel
theorem dX5_parses_64 : decode cX5_parses 64 = .ok (.iconst 1, 1) := by decide +kernel
theorem dX5_parses_65 : decode cX5_parses 65 = .ok (.goto 4, 3) := by decide +kernel
theorem dX5_parses_68 : decode cX5_parses 68 = .ok (.iconst 0, 1) := by decide +kernel
theorem dX5_parses_69 : decode cX5_parses 69 = .ok (.istore_n 2, 1) := by decide +kernel
theorem dX5_parses_70 : decode cX5_parses 70 = .ok (.iconst 1, 1) := by decide +kernel
theorem dX5_parses_71 : decode cX5_parses 71 = .ok (.istore_n 3, 1) := by decide +kernel
theorem dX5_parses_72 : decode cX5_parses 72 = .ok (.iload_n 3, 1) := by decide +kernel
theorem dX5_parses_73 : decode cX5_parses 73 = .ok (.iload_n 1, 1) := by decide +kernel
theorem dX5_parses_74 : decode cX5_parses 74 = .ok (.if_icmp .ge 36, 3) := by decide +kernel
theorem dX5_parses_77 : decode cX5_parses 77 = .ok (.iload_n 2, 1) := by decide +kernel
theorem dX5_parses_78 : decode cX5_parses 78 = .ok (.ifCond .eq 32, 3) := by decide +kernel
theorem dX5_parses_81 : decode cX5_parses 81 = .ok (.aload_n 0, 1) := by decide +kernel
theorem dX5_parses_82 : decode cX5_parses 82 = .ok (.bipush 44, 2) := by decide +kernel
theorem dX5_parses_84 : decode cX5_parses 84 = .ok (.invokevirtual 145, 3) := by decide +kernel
theorem dX5_parses_87 : decode cX5_parses 87 = .ok (.ifCond .eq 15, 3) := by decide +kernel
theorem dX5_parses_90 : decode cX5_parses 90 = .ok (.aload_n 0, 1) := by decide +kernel
theorem dX5_parses_91 : decode cX5_parses 91 = .ok (.iload_n 3, 1) := by decide +kernel
theorem dX5_parses_92 : decode cX5_parses 92 = .ok (.invokevirtual 142, 3) := by decide +kernel
theorem dX5_parses_95 : decode cX5_parses 95 = .ok (.ifCond .eq 7, 3) := by decide +kernel
theorem dX5_parses_98 : decode cX5_parses 98 = .ok (.iconst 1, 1) := by decide +kernel
theorem dX5_parses_99 : decode cX5_parses 99 = .ok (.goto 4, 3) := by decide +kernel
theorem dX5_parses_102 : decode cX5_parses 102 = .ok (.iconst 0, 1) := by decide +kernel
theorem dX5_parses_103 : decode cX5_parses 103 = .ok (.istore_n 2, 1) := by decide +kernel
theorem dX5_parses_104 : decode cX5_parses 104 = .ok (.iinc 3 1, 3) := by decide +kernel
theorem dX5_parses_107 : decode cX5_parses 107 = .ok (.goto (-35), 3) := by decide +kernel
theorem dX5_parses_110 : decode cX5_parses 110 = .ok (.iload_n 2, 1) := by decide +kernel
theorem dX5_parses_111 : decode cX5_parses 111 = .ok (.ifCond .eq 16, 3) := by decide +kernel
theorem dX5_parses_114 : decode cX5_parses 114 = .ok (.aload_n 0, 1) := by decide +kernel
theorem dX5_parses_115 : decode cX5_parses 115 = .ok (.bipush 59, 2) := by decide +kernel
theorem dX5_parses_117 : decode cX5_parses 117 = .ok (.invokevirtual 145, 3) := by decide +kernel
theorem dX5_parses_120 : decode cX5_parses 120 = .ok (.ifCond .eq 7, 3) := by decide +kernel
theorem dX5_parses_123 : decode cX5_parses 123 = .ok (.iconst 1, 1) := by decide +kernel
theorem dX5_parses_124 : decode cX5_parses 124 = .ok (.goto 4, 3) := by decide +kernel
theorem dX5_parses_127 : decode cX5_parses 127 = .ok (.iconst 0, 1) := by decide +kernel
theorem dX5_parses_128 : decode cX5_parses 128 = .ok (.ireturn, 1) := by decide +kernel
theorem dX5_does_0 : decode cX5_does 0 = .ok (.aload_n 0, 1) := by decide +kernel
theorem dX5_does_1 : decode cX5_does 1 = .ok (.getfield 136, 3) := by decide +kernel
theorem dX5_does_4 : decode cX5_does 4 = .ok (.tableswitch 186 98 117 #[170, 159, 186, 186, 186, 186, 186, 186, 186, 186, 125, 142, 186, 186, 96, 186, 186, 186, 186, 181], 96) := by decide +kernel
theorem dX5_does_100 : decode cX5_does 100 = .ok (.aload_n 0, 1) := by decide +kernel
theorem dX5_does_101 : decode cX5_does 101 = .ok (.aload_n 0, 1) := by decide +kernel
theorem dX5_does_102 : decode cX5_does 102 = .ok (.getfield 25, 3) := by decide +kernel
theorem dX5_does_105 : decode cX5_does 105 = .ok (.iconst 0, 1) := by decide +kernel
theorem dX5_does_106 : decode cX5_does 106 = .ok (.iaload, 1) := by decide +kernel
theorem dX5_does_107 : decode cX5_does 107 = .ok (.aload_n 0, 1) := by decide +kernel
theorem dX5_does_108 : decode cX5_does 108 = .ok (.getfield 25, 3) := by decide +kernel
theorem dX5_does_111 : decode cX5_does 111 = .ok (.iconst 1, 1) := by decide +kernel
theorem dX5_does_112 : decode cX5_does 112 = .ok (.iaload, 1) := by decide +kernel
theorem dX5_does_113 : decode cX5_does 113 = .ok (.aload_n 0, 1) := by decide +kernel
theorem dX5_does_114 : decode cX5_does 114 = .ok (.getfield 25, 3) := by decide +kernel
theorem dX5_does_117 : decode cX5_does 117 = .ok (.iconst 2, 1) := by decide +kernel
theorem dX5_does_118 : decode cX5_does 118 = .ok (.iaload, 1) := by decide +kernel
theorem dX5_does_119 : decode cX5_does 119 = .ok (.aload_n 0, 1) := by decide +kernel
theorem dX5_does_120 : decode cX5_does 120 = .ok (.getfield 25, 3) := by decide +kernel
theorem dX5_does_123 : decode cX5_does 123 = .ok (.iconst 3, 1) := by decide +kernel
theorem dX5_does_124 : decode cX5_does 124 = .ok (.iaload, 1) := by decide +kernel
theorem dX5_does_125 : decode cX5_does 125 = .ok (.invokevirtual 148, 3) := by decide +kernel
theorem dX5_does_128 : decode cX5_does 128 = .ok (.ireturn, 1) := by decide +kernel
theorem dX5_does_129 : decode cX5_does 129 = .ok (.aload_n 0, 1) := by decide +kernel
theorem dX5_does_130 : decode cX5_does 130 = .ok (.aload_n 0, 1) := by decide +kernel
theorem dX5_does_131 : decode cX5_does 131 = .ok (.getfield 25, 3) := by decide +kernel
theorem dX5_does_134 : decode cX5_does 134 = .ok (.iconst 0, 1) := by decide +kernel
theorem dX5_does_135 : decode cX5_does 135 = .ok (.iaload, 1) := by decide +kernel
theorem dX5_does_136 : decode cX5_does 136 = .ok (.aload_n 0, 1) := by decide +kernel
theorem dX5_does_137 : decode cX5_does 137 = .ok (.getfield 25, 3) := by decide +kernel
theorem dX5_does_140 : decode cX5_does 140 = .ok (.iconst 1, 1) := by decide +kernel
theorem dX5_does_141 : decode cX5_does 141 = .ok (.iaload, 1) := by decide +kernel
theorem dX5_does_142 : decode cX5_does 142 = .ok (.invokevirtual 152, 3) := by decide +kernel
theorem dX5_does_145 : decode cX5_does 145 = .ok (.ireturn, 1) := by decide +kernel
theorem dX5_does_146 : decode cX5_does 146 = .ok (.aload_n 0, 1) := by decide +kernel
theorem dX5_does_147 : decode cX5_does 147 = .ok (.aload_n 0, 1) := by decide +kernel
theorem dX5_does_148 : decode cX5_does 148 = .ok (.getfield 25, 3) := by decide +kernel
theorem dX5_does_151 : decode cX5_does 151 = .ok (.iconst 0, 1) := by decide +kernel
theorem dX5_does_152 : decode cX5_does 152 = .ok (.iaload, 1) := by decide +kernel
theorem dX5_does_153 : decode cX5_does 153 = .ok (.aload_n 0, 1) := by decide +kernel
theorem dX5_does_154 : decode cX5_does 154 = .ok (.getfield 25, 3) := by decide +kernel
theorem dX5_does_157 : decode cX5_does 157 = .ok (.iconst 1, 1) := by decide +kernel
theorem dX5_does_158 : decode cX5_does 158 = .ok (.iaload, 1) := by decide +kernel
theorem dX5_does_159 : decode cX5_does 159 = .ok (.invokevirtual 155, 3) := by decide +kernel
theorem dX5_does_162 : decode cX5_does 162 = .ok (.ireturn, 1) := by decide +kernel
theorem dX5_does_163 : decode cX5_does 163 = .ok (.aload_n 0, 1) := by decide +kernel
theorem dX5_does_164 : decode cX5_does 164 = .ok (.aload_n 0, 1) := by decide +kernel
theorem dX5_does_165 : decode cX5_does 165 = .ok (.getfield 25, 3) := by decide +kernel
theorem dX5_does_168 : decode cX5_does 168 = .ok (.iconst 0, 1) := by decide +kernel
theorem dX5_does_169 : decode cX5_does 169 = .ok (.iaload, 1) := by decide +kernel
theorem dX5_does_170 : decode cX5_does 170 = .ok (.invokevirtual 158, 3) := by decide +kernel
theorem dX5_does_173 : decode cX5_does 173 = .ok (.ireturn, 1) := by decide +kernel
theorem dX5_does_174 : decode cX5_does 174 = .ok (.aload_n 0, 1) := by decide +kernel
theorem dX5_does_175 : decode cX5_does 175 = .ok (.aload_n 0, 1) := by decide +kernel
theorem dX5_does_176 : decode cX5_does 176 = .ok (.getfield 25, 3) := by decide +kernel
theorem dX5_does_179 : decode cX5_does 179 = .ok (.iconst 0, 1) := by decide +kernel
theorem dX5_does_180 : decode cX5_does 180 = .ok (.iaload, 1) := by decide +kernel
theorem dX5_does_181 : decode cX5_does 181 = .ok (.invokevirtual 161, 3) := by decide +kernel
theorem dX5_does_184 : decode cX5_does 184 = .ok (.ireturn, 1) := by decide +kernel
theorem dX5_does_185 : decode cX5_does 185 = .ok (.aload_n 0, 1) := by decide +kernel
theorem dX5_does_186 : decode cX5_does 186 = .ok (.invokevirtual 164, 3) := by decide +kernel
theorem dX5_does_189 : decode cX5_does 189 = .ok (.ireturn, 1) := by decide +kernel
theorem dX5_does_190 : decode cX5_does 190 = .ok (.aload_n 0, 1) := by decide +kernel
theorem dX5_does_191 : decode cX5_does 191 = .ok (.invokevirtual 167, 3) := by decide +kernel
theorem dX5_does_194 : decode cX5_does 194 = .ok (.ireturn, 1) := by decide +kernel
theorem dX5_plays_0 : decode cX5_plays 0 = .ok (.aload_n 0, 1) := by decide +kernel
theorem dX5_plays_1 : decode cX5_plays 1 = .ok (.iconst 1, 1) := by decide +kernel
theorem dX5_plays_2 : decode cX5_plays 2 = .ok (.putfield 28, 3) := by decide +kernel
theorem dX5_plays_5 : decode cX5_plays 5 = .ok (.aload_n 0, 1) := by decide +kernel
theorem dX5_plays_6 : decode cX5_plays 6 = .ok (.iconst 0, 1) := by decide +kernel
theorem dX5_plays_7 : decode cX5_plays 7 = .ok (.putfield 130, 3) := by decide +kernel
theorem dX5_plays_10 : decode cX5_plays 10 = .ok (.aload_n 0, 1) := by decide +kernel
theorem dX5_plays_11 : decode cX5_plays 11 = .ok (.iconst 0, 1) := by decide +kernel
theorem dX5_plays_12 : decode cX5_plays 12 = .ok (.putfield 170, 3) := by decide +kernel
theorem dX5_plays_15 : decode cX5_plays 15 = .ok (.aload_n 0, 1) := by decide +kernel
theorem dX5_plays_16 : decode cX5_plays 16 = .ok (.iconst 0, 1) := by decide +kernel
theorem dX5_plays_17 : decode cX5_plays 17 = .ok (.putfield 173, 3) := by decide +kernel
theorem dX5_plays_20 : decode cX5_plays 20 = .ok (.iconst 1, 1) := by decide +kernel
theorem dX5_plays_21 : decode cX5_plays 21 = .ok (.istore_n 1, 1) := by decide +kernel
theorem dX5_plays_22 : decode cX5_plays 22 = .ok (.aload_n 0, 1) := by decide +kernel
theorem dX5_plays_23 : decode cX5_plays 23 = .ok (.getfield 130, 3) := by decide +kernel
theorem dX5_plays_26 : decode cX5_plays 26 = .ok (.aload_n 0, 1) := by decide +kernel
theorem dX5_plays_27 : decode cX5_plays 27 = .ok (.getfield 127, 3) := by decide +kernel
theorem dX5_plays_30 : decode cX5_plays 30 = .ok (.if_icmp .ge 94, 3) := by decide +kernel
theorem dX5_plays_33 : decode cX5_plays 33 = .ok (.iload_n 1, 1) := by decide +kernel
theorem dX5_plays_34 : decode cX5_plays 34 = .ok (.ifCond .eq 90, 3) := by decide +kernel
theorem dX5_plays_37 : decode cX5_plays 37 = .ok (.aload_n 0, 1) := by decide +kernel
theorem dX5_plays_38 : decode cX5_plays 38 = .ok (.aload_n 0, 1) := by decide +kernel
theorem dX5_plays_39 : decode cX5_plays 39 = .ok (.getfield 130, 3) := by decide +kernel
theorem dX5_plays_42 : decode cX5_plays 42 = .ok (.putfield 170, 3) := by decide +kernel
theorem dX5_plays_45 : decode cX5_plays 45 = .ok (.aload_n 0, 1) := by decide +kernel
theorem dX5_plays_46 : decode cX5_plays 46 = .ok (.invokevirtual 176, 3) := by decide +kernel
theorem dX5_plays_49 : decode cX5_plays 49 = .ok (.istore_n 2, 1) := by decide +kernel
theorem dX5_plays_50 : decode cX5_plays 50 = .ok (.iload_n 2, 1) := by decide +kernel
theorem dX5_plays_51 : decode cX5_plays 51 = .ok (.ifCond .eq 10, 3) := by decide +kernel
theorem dX5_plays_54 : decode cX5_plays 54 = .ok (.aload_n 0, 1) := by decide +kernel
theorem dX5_plays_55 : decode cX5_plays 55 = .ok (.invokevirtual 180, 3) := by decide +kernel
theorem dX5_plays_58 : decode cX5_plays 58 = .ok (.goto 4, 3) := by decide +kernel
theorem dX5_plays_61 : decode cX5_plays 61 = .ok (.iconst 0, 1) := by decide +kernel
theorem dX5_plays_62 : decode cX5_plays 62 = .ok (.istore_n 3, 1) := by decide +kernel
theorem dX5_plays_63 : decode cX5_plays 63 = .ok (.iload_n 2, 1) := by decide +kernel
theorem dX5_plays_64 : decode cX5_plays 64 = .ok (.ifCond .eq 11, 3) := by decide +kernel
theorem dX5_plays_67 : decode cX5_plays 67 = .ok (.iload_n 3, 1) := by decide +kernel
theorem dX5_plays_68 : decode cX5_plays 68 = .ok (.ifCond .lt 7, 3) := by decide +kernel
theorem dX5_plays_71 : decode cX5_plays 71 = .ok (.iconst 1, 1) := by decide +kernel
theorem dX5_plays_72 : decode cX5_plays 72 = .ok (.goto 4, 3) := by decide +kernel
theorem dX5_plays_75 : decode cX5_plays 75 = .ok (.iconst 0, 1) := by decide +kernel
theorem dX5_plays_76 : decode cX5_plays 76 = .ok (.istore_n 1, 1) := by decide +kernel
theorem dX5_plays_77 : decode cX5_plays 77 = .ok (.aload_n 0, 1) := by decide +kernel
theorem dX5_plays_78 : decode cX5_plays 78 = .ok (.iload_n 2, 1) := by decide +kernel
theorem dX5_plays_79 : decode cX5_plays 79 = .ok (.ifCond .eq 7, 3) := by decide +kernel
theorem dX5_plays_82 : decode cX5_plays 82 = .ok (.iconst 2, 1) := by decide +kernel
theorem dX5_plays_83 : decode cX5_plays 83 = .ok (.goto 4, 3) := by decide +kernel
theorem dX5_plays_86 : decode cX5_plays 86 = .ok (.iconst 1, 1) := by decide +kernel
theorem dX5_plays_87 : decode cX5_plays 87 = .ok (.putfield 183, 3) := by decide +kernel
theorem dX5_plays_90 : decode cX5_plays 90 = .ok (.aload_n 0, 1) := by decide +kernel
theorem dX5_plays_91 : decode cX5_plays 91 = .ok (.iload_n 2, 1) := by decide +kernel
theorem dX5_plays_92 : decode cX5_plays 92 = .ok (.ifCond .eq 7, 3) := by decide +kernel
theorem dX5_plays_95 : decode cX5_plays 95 = .ok (.iload_n 3, 1) := by decide +kernel
theorem dX5_plays_96 : decode cX5_plays 96 = .ok (.goto 12, 3) := by decide +kernel
theorem dX5_plays_99 : decode cX5_plays 99 = .ok (.aload_n 0, 1) := by decide +kernel
theorem dX5_plays_100 : decode cX5_plays 100 = .ok (.getfield 130, 3) := by decide +kernel
theorem dX5_plays_103 : decode cX5_plays 103 = .ok (.aload_n 0, 1) := by decide +kernel
theorem dX5_plays_104 : decode cX5_plays 104 = .ok (.getfield 170, 3) := by decide +kernel
theorem dX5_plays_107 : decode cX5_plays 107 = .ok (.isub, 1) := by decide +kernel
theorem dX5_plays_108 : decode cX5_plays 108 = .ok (.putfield 186, 3) := by decide +kernel
theorem dX5_plays_111 : decode cX5_plays 111 = .ok (.aload_n 0, 1) := by decide +kernel
theorem dX5_plays_112 : decode cX5_plays 112 = .ok (.dup, 1) := by decide +kernel
theorem dX5_plays_113 : decode cX5_plays 113 = .ok (.getfield 173, 3) := by decide +kernel
theorem dX5_plays_116 : decode cX5_plays 116 = .ok (.iconst 1, 1) := by decide +kernel
theorem dX5_plays_117 : decode cX5_plays 117 = .ok (.iadd, 1) := by decide +kernel
theorem dX5_plays_118 : decode cX5_plays 118 = .ok (.putfield 173, 3) := by decide +kernel
theorem dX5_plays_121 : decode cX5_plays 121 = .ok (.goto (-99), 3) := by decide +kernel
theorem dX5_plays_124 : decode cX5_plays 124 = .ok (.aload_n 0, 1) := by decide +kernel
theorem dX5_plays_125 : decode cX5_plays 125 = .ok (.iconst 0, 1) := by decide +kernel
theorem dX5_plays_126 : decode cX5_plays 126 = .ok (.putfield 28, 3) := by decide +kernel
theorem dX5_plays_129 : decode cX5_plays 129 = .ok (.iload_n 1, 1) := by decide +kernel
theorem dX5_plays_130 : decode cX5_plays 130 = .ok (.ireturn, 1) := by decide +kernel
theorem dX5_fault_0 : decode cX5_fault 0 = .ok (.iload_n 1, 1) := by decide +kernel
theorem dX5_fault_1 : decode cX5_fault 1 = .ok (.iconst 0, 1) := by decide +kernel
theorem dX5_fault_2 : decode cX5_fault 2 = .ok (.iconst 2, 1) := by decide +kernel
theorem dX5_fault_3 : decode cX5_fault 3 = .ok (.invokestatic 36, 3) := by decide +kernel
theorem dX5_fault_6 : decode cX5_fault 6 = .ok (.ifCond .ne 6, 3) := by decide +kernel
theorem dX5_fault_9 : decode cX5_fault 9 = .ok (.ldc 78, 2) := by decide +kernel
theorem dX5_fault_11 : decode cX5_fault 11 = .ok (.ireturn, 1) := by decide +kernel
theorem dX5_fault_12 : decode cX5_fault 12 = .ok (.aload_n 0, 1) := by decide +kernel
theorem dX5_fault_13 : decode cX5_fault 13 = .ok (.getfield 7, 3) := by decide +kernel
theorem dX5_fault_16 : decode cX5_fault 16 = .ok (.aload_n 0, 1) := by decide +kernel
theorem dX5_fault_17 : decode cX5_fault 17 = .ok (.getfield 16, 3) := by decide +kernel
theorem dX5_fault_20 : decode cX5_fault 20 = .ok (.invokestatic 114, 3) := by decide +kernel
theorem dX5_fault_23 : decode cX5_fault 23 = .ok (.aload_n 0, 1) := by decide +kernel
theorem dX5_fault_24 : decode cX5_fault 24 = .ok (.invokevirtual 189, 3) := by decide +kernel
theorem dX5_fault_27 : decode cX5_fault 27 = .ok (.istore_n 2, 1) := by decide +kernel
theorem dX5_fault_28 : decode cX5_fault 28 = .ok (.aload_n 0, 1) := by decide +kernel
theorem dX5_fault_29 : decode cX5_fault 29 = .ok (.getfield 16, 3) := by decide +kernel
theorem dX5_fault_32 : decode cX5_fault 32 = .ok (.aload_n 0, 1) := by decide +kernel
theorem dX5_fault_33 : decode cX5_fault 33 = .ok (.getfield 7, 3) := by decide +kernel
theorem dX5_fault_36 : decode cX5_fault 36 = .ok (.invokestatic 114, 3) := by decide +kernel
theorem dX5_fault_39 : decode cX5_fault 39 = .ok (.iload_n 2, 1) := by decide +kernel
theorem dX5_fault_40 : decode cX5_fault 40 = .ok (.ifCond .eq 8, 3) := by decide +kernel
theorem dX5_fault_43 : decode cX5_fault 43 = .ok (.ldc 44, 2) := by decide +kernel
theorem dX5_fault_45 : decode cX5_fault 45 = .ok (.goto 30, 3) := by decide +kernel
theorem dX5_fault_48 : decode cX5_fault 48 = .ok (.iload_n 1, 1) := by decide +kernel
theorem dX5_fault_49 : decode cX5_fault 49 = .ok (.ifCond .ne 10, 3) := by decide +kernel
theorem dX5_fault_52 : decode cX5_fault 52 = .ok (.aload_n 0, 1) := by decide +kernel
theorem dX5_fault_53 : decode cX5_fault 53 = .ok (.getfield 170, 3) := by decide +kernel
theorem dX5_fault_56 : decode cX5_fault 56 = .ok (.goto 19, 3) := by decide +kernel
theorem dX5_fault_59 : decode cX5_fault 59 = .ok (.iload_n 1, 1) := by decide +kernel
theorem dX5_fault_60 : decode cX5_fault 60 = .ok (.iconst 1, 1) := by decide +kernel
theorem dX5_fault_61 : decode cX5_fault 61 = .ok (.if_icmp .ne 10, 3) := by decide +kernel
theorem dX5_fault_64 : decode cX5_fault 64 = .ok (.aload_n 0, 1) := by decide +kernel
theorem dX5_fault_65 : decode cX5_fault 65 = .ok (.getfield 183, 3) := by decide +kernel
theorem dX5_fault_68 : decode cX5_fault 68 = .ok (.goto 7, 3) := by decide +kernel
theorem dX5_fault_71 : decode cX5_fault 71 = .ok (.aload_n 0, 1) := by decide +kernel
theorem dX5_fault_72 : decode cX5_fault 72 = .ok (.getfield 186, 3) := by decide +kernel
theorem dX5_fault_75 : decode cX5_fault 75 = .ok (.ireturn, 1) := by decide +kernel
theorem dX5_play_0 : decode cX5_play 0 = .ok (.aload_n 0, 1) := by decide +kernel
theorem dX5_play_1 : decode cX5_play 1 = .ok (.getfield 7, 3) := by decide +kernel
theorem dX5_play_4 : decode cX5_play 4 = .ok (.aload_n 0, 1) := by decide +kernel
theorem dX5_play_5 : decode cX5_play 5 = .ok (.getfield 16, 3) := by decide +kernel
theorem dX5_play_8 : decode cX5_play 8 = .ok (.invokestatic 114, 3) := by decide +kernel
theorem dX5_play_11 : decode cX5_play 11 = .ok (.aload_n 0, 1) := by decide +kernel
theorem dX5_play_12 : decode cX5_play 12 = .ok (.invokevirtual 189, 3) := by decide +kernel
theorem dX5_play_15 : decode cX5_play 15 = .ok (.istore_n 1, 1) := by decide +kernel
theorem dX5_play_16 : decode cX5_play 16 = .ok (.aload_n 0, 1) := by decide +kernel
theorem dX5_play_17 : decode cX5_play 17 = .ok (.getfield 16, 3) := by decide +kernel
theorem dX5_play_20 : decode cX5_play 20 = .ok (.aload_n 0, 1) := by decide +kernel
theorem dX5_play_21 : decode cX5_play 21 = .ok (.getfield 7, 3) := by decide +kernel
theorem dX5_play_24 : decode cX5_play 24 = .ok (.invokestatic 114, 3) := by decide +kernel
theorem dX5_play_27 : decode cX5_play 27 = .ok (.iload_n 1, 1) := by decide +kernel
theorem dX5_play_28 : decode cX5_play 28 = .ok (.ifCond .ne 6, 3) := by decide +kernel
theorem dX5_play_31 : decode cX5_play 31 = .ok (.ldc 82, 2) := by decide +kernel
theorem dX5_play_33 : decode cX5_play 33 = .ok (.ireturn, 1) := by decide +kernel
theorem dX5_play_34 : decode cX5_play 34 = .ok (.aload_n 0, 1) := by decide +kernel
theorem dX5_play_35 : decode cX5_play 35 = .ok (.invokevirtual 84, 3) := by decide +kernel
theorem dX5_play_38 : decode cX5_play 38 = .ok (.aload_n 0, 1) := by decide +kernel
theorem dX5_play_39 : decode cX5_play 39 = .ok (.invokevirtual 189, 3) := by decide +kernel
theorem dX5_play_42 : decode cX5_play 42 = .ok (.ifCond .eq 10, 3) := by decide +kernel
theorem dX5_play_45 : decode cX5_play 45 = .ok (.aload_n 0, 1) := by decide +kernel
theorem dX5_play_46 : decode cX5_play 46 = .ok (.getfield 173, 3) := by decide +kernel
theorem dX5_play_49 : decode cX5_play 49 = .ok (.goto 5, 3) := by decide +kernel
theorem dX5_play_52 : decode cX5_play 52 = .ok (.ldc 44, 2) := by decide +kernel
theorem dX5_play_54 : decode cX5_play 54 = .ok (.ireturn, 1) := by decide +kernel
theorem dJxf58ca_isNaN_12338_0 : decode cJxf58ca_isNaN_12338 0 = .ok (.fload_n 0, 1) := by decide +kernel
theorem dJxf58ca_isNaN_12338_1 : decode cJxf58ca_isNaN_12338 1 = .ok (.fload_n 0, 1) := by decide +kernel
theorem dJxf58ca_isNaN_12338_2 : decode cJxf58ca_isNaN_12338 2 = .ok (.fcmp .l, 1) := by decide +kernel
theorem dJxf58ca_isNaN_12338_3 : decode cJxf58ca_isNaN_12338 3 = .ok (.ifCond .eq 7, 3) := by decide +kernel
theorem dJxf58ca_isNaN_12338_6 : decode cJxf58ca_isNaN_12338 6 = .ok (.iconst 1, 1) := by decide +kernel
theorem dJxf58ca_isNaN_12338_7 : decode cJxf58ca_isNaN_12338 7 = .ok (.goto 4, 3) := by decide +kernel
theorem dJxf58ca_isNaN_12338_10 : decode cJxf58ca_isNaN_12338 10 = .ok (.iconst 0, 1) := by decide +kernel
theorem dJxf58ca_isNaN_12338_11 : decode cJxf58ca_isNaN_12338 11 = .ok (.ireturn, 1) := by decide +kernel
theorem dJxf58ca_floatToIntBits_5c35a_0 : decode cJxf58ca_floatToIntBits_5c35a 0 = .ok (.fload_n 0, 1) := by decide +kernel
theorem dJxf58ca_floatToIntBits_5c35a_1 : decode cJxf58ca_floatToIntBits_5c35a 1 = .ok (.invokestatic 59, 3) := by decide +kernel
theorem dJxf58ca_floatToIntBits_5c35a_4 : decode cJxf58ca_floatToIntBits_5c35a 4 = .ok (.ifCond .ne 8, 3) := by decide +kernel
theorem dJxf58ca_floatToIntBits_5c35a_7 : decode cJxf58ca_floatToIntBits_5c35a 7 = .ok (.fload_n 0, 1) := by decide +kernel
theorem dJxf58ca_floatToIntBits_5c35a_8 : decode cJxf58ca_floatToIntBits_5c35a 8 = .ok (.invokestatic 74, 3) := by decide +kernel
theorem dJxf58ca_floatToIntBits_5c35a_11 : decode cJxf58ca_floatToIntBits_5c35a 11 = .ok (.ireturn, 1) := by decide +kernel
theorem dJxf58ca_floatToIntBits_5c35a_12 : decode cJxf58ca_floatToIntBits_5c35a 12 = .ok (.ldc 77, 2) := by decide +kernel
theorem dJxf58ca_floatToIntBits_5c35a_14 : decode cJxf58ca_floatToIntBits_5c35a 14 = .ok (.ireturn, 1) := by decide +kernel
theorem dJ6_bitCount_0f7a4_0 : decode cJ6_bitCount_0f7a4 0 = .ok (.iload_n 0, 1) := by decide +kernel
theorem dJ6_bitCount_0f7a4_1 : decode cJ6_bitCount_0f7a4 1 = .ok (.iload_n 0, 1) := by decide +kernel
theorem dJ6_bitCount_0f7a4_2 : decode cJ6_bitCount_0f7a4 2 = .ok (.iconst 1, 1) := by decide +kernel
theorem dJ6_bitCount_0f7a4_3 : decode cJ6_bitCount_0f7a4 3 = .ok (.iushr, 1) := by decide +kernel
theorem dJ6_bitCount_0f7a4_4 : decode cJ6_bitCount_0f7a4 4 = .ok (.ldc_w 265, 3) := by decide +kernel
theorem dJ6_bitCount_0f7a4_7 : decode cJ6_bitCount_0f7a4 7 = .ok (.iand, 1) := by decide +kernel
theorem dJ6_bitCount_0f7a4_8 : decode cJ6_bitCount_0f7a4 8 = .ok (.isub, 1) := by decide +kernel
theorem dJ6_bitCount_0f7a4_9 : decode cJ6_bitCount_0f7a4 9 = .ok (.istore_n 0, 1) := by decide +kernel
theorem dJ6_bitCount_0f7a4_10 : decode cJ6_bitCount_0f7a4 10 = .ok (.iload_n 0, 1) := by decide +kernel
theorem dJ6_bitCount_0f7a4_11 : decode cJ6_bitCount_0f7a4 11 = .ok (.ldc_w 266, 3) := by decide +kernel
theorem dJ6_bitCount_0f7a4_14 : decode cJ6_bitCount_0f7a4 14 = .ok (.iand, 1) := by decide +kernel
theorem dJ6_bitCount_0f7a4_15 : decode cJ6_bitCount_0f7a4 15 = .ok (.iload_n 0, 1) := by decide +kernel
theorem dJ6_bitCount_0f7a4_16 : decode cJ6_bitCount_0f7a4 16 = .ok (.iconst 2, 1) := by decide +kernel
theorem dJ6_bitCount_0f7a4_17 : decode cJ6_bitCount_0f7a4 17 = .ok (.iushr, 1) := by decide +kernel
theorem dJ6_bitCount_0f7a4_18 : decode cJ6_bitCount_0f7a4 18 = .ok (.ldc_w 266, 3) := by decide +kernel
theorem dJ6_bitCount_0f7a4_21 : decode cJ6_bitCount_0f7a4 21 = .ok (.iand, 1) := by decide +kernel
theorem dJ6_bitCount_0f7a4_22 : decode cJ6_bitCount_0f7a4 22 = .ok (.iadd, 1) := by decide +kernel
theorem dJ6_bitCount_0f7a4_23 : decode cJ6_bitCount_0f7a4 23 = .ok (.istore_n 0, 1) := by decide +kernel
theorem dJ6_bitCount_0f7a4_24 : decode cJ6_bitCount_0f7a4 24 = .ok (.iload_n 0, 1) := by decide +kernel
theorem dJ6_bitCount_0f7a4_25 : decode cJ6_bitCount_0f7a4 25 = .ok (.iload_n 0, 1) := by decide +kernel
theorem dJ6_bitCount_0f7a4_26 : decode cJ6_bitCount_0f7a4 26 = .ok (.iconst 4, 1) := by decide +kernel
theorem dJ6_bitCount_0f7a4_27 : decode cJ6_bitCount_0f7a4 27 = .ok (.iushr, 1) := by decide +kernel
theorem dJ6_bitCount_0f7a4_28 : decode cJ6_bitCount_0f7a4 28 = .ok (.iadd, 1) := by decide +kernel
theorem dJ6_bitCount_0f7a4_29 : decode cJ6_bitCount_0f7a4 29 = .ok (.ldc_w 267, 3) := by decide +kernel
theorem dJ6_bitCount_0f7a4_32 : decode cJ6_bitCount_0f7a4 32 = .ok (.iand, 1) := by decide +kernel
theorem dJ6_bitCount_0f7a4_33 : decode cJ6_bitCount_0f7a4 33 = .ok (.istore_n 0, 1) := by decide +kernel
theorem dJ6_bitCount_0f7a4_34 : decode cJ6_bitCount_0f7a4 34 = .ok (.iload_n 0, 1) := by decide +kernel
theorem dJ6_bitCount_0f7a4_35 : decode cJ6_bitCount_0f7a4 35 = .ok (.iload_n 0, 1) := by decide +kernel
theorem dJ6_bitCount_0f7a4_36 : decode cJ6_bitCount_0f7a4 36 = .ok (.bipush 8, 2) := by decide +kernel
theorem dJ6_bitCount_0f7a4_38 : decode cJ6_bitCount_0f7a4 38 = .ok (.iushr, 1) := by decide +kernel
theorem dJ6_bitCount_0f7a4_39 : decode cJ6_bitCount_0f7a4 39 = .ok (.iadd, 1) := by decide +kernel
theorem dJ6_bitCount_0f7a4_40 : decode cJ6_bitCount_0f7a4 40 = .ok (.istore_n 0, 1) := by decide +kernel
theorem dJ6_bitCount_0f7a4_41 : decode cJ6_bitCount_0f7a4 41 = .ok (.iload_n 0, 1) := by decide +kernel
theorem dJ6_bitCount_0f7a4_42 : decode cJ6_bitCount_0f7a4 42 = .ok (.iload_n 0, 1) := by decide +kernel
theorem dJ6_bitCount_0f7a4_43 : decode cJ6_bitCount_0f7a4 43 = .ok (.bipush 16, 2) := by decide +kernel
theorem dJ6_bitCount_0f7a4_45 : decode cJ6_bitCount_0f7a4 45 = .ok (.iushr, 1) := by decide +kernel
theorem dJ6_bitCount_0f7a4_46 : decode cJ6_bitCount_0f7a4 46 = .ok (.iadd, 1) := by decide +kernel
theorem dJ6_bitCount_0f7a4_47 : decode cJ6_bitCount_0f7a4 47 = .ok (.istore_n 0, 1) := by decide +kernel
theorem dJ6_bitCount_0f7a4_48 : decode cJ6_bitCount_0f7a4 48 = .ok (.iload_n 0, 1) := by decide +kernel
theorem dJ6_bitCount_0f7a4_49 : decode cJ6_bitCount_0f7a4 49 = .ok (.bipush 63, 2) := by decide +kernel
theorem dJ6_bitCount_0f7a4_51 : decode cJ6_bitCount_0f7a4 51 = .ok (.iand, 1) := by decide +kernel
theorem dJ6_bitCount_0f7a4_52 : decode cJ6_bitCount_0f7a4 52 = .ok (.ireturn, 1) := by decide +kernel
theorem dJ9_max_7cf53_0 : decode cJ9_max_7cf53 0 = .ok (.iload_n 0, 1) := by decide +kernel
theorem dJ9_max_7cf53_1 : decode cJ9_max_7cf53 1 = .ok (.iload_n 1, 1) := by decide +kernel
theorem dJ9_max_7cf53_2 : decode cJ9_max_7cf53 2 = .ok (.if_icmp .lt 7, 3) := by decide +kernel
theorem dJ9_max_7cf53_5 : decode cJ9_max_7cf53 5 = .ok (.iload_n 0, 1) := by decide +kernel
theorem dJ9_max_7cf53_6 : decode cJ9_max_7cf53 6 = .ok (.goto 4, 3) := by decide +kernel
theorem dJ9_max_7cf53_9 : decode cJ9_max_7cf53 9 = .ok (.iload_n 1, 1) := by decide +kernel
theorem dJ9_max_7cf53_10 : decode cJ9_max_7cf53 10 = .ok (.ireturn, 1) := by decide +kernel
theorem dJ9_min_7cf53_0 : decode cJ9_min_7cf53 0 = .ok (.iload_n 0, 1) := by decide +kernel
theorem dJ9_min_7cf53_1 : decode cJ9_min_7cf53 1 = .ok (.iload_n 1, 1) := by decide +kernel
theorem dJ9_min_7cf53_2 : decode cJ9_min_7cf53 2 = .ok (.if_icmp .gt 7, 3) := by decide +kernel
theorem dJ9_min_7cf53_5 : decode cJ9_min_7cf53 5 = .ok (.iload_n 0, 1) := by decide +kernel
theorem dJ9_min_7cf53_6 : decode cJ9_min_7cf53 6 = .ok (.goto 4, 3) := by decide +kernel
theorem dJ9_min_7cf53_9 : decode cJ9_min_7cf53 9 = .ok (.iload_n 1, 1) := by decide +kernel
theorem dJ9_min_7cf53_10 : decode cJ9_min_7cf53 10 = .ok (.ireturn, 1) := by decide +kernel
theorem dL_law_0 : decode cL_law 0 = .ok (.new 7, 3) := by decide +kernel
theorem dL_law_3 : decode cL_law 3 = .ok (.dup, 1) := by decide +kernel
theorem dL_law_4 : decode cL_law 4 = .ok (.invokespecial 9, 3) := by decide +kernel
theorem dL_law_7 : decode cL_law 7 = .ok (.astore_n 1, 1) := by decide +kernel
theorem dL_law_8 : decode cL_law 8 = .ok (.new 10, 3) := by decide +kernel
theorem dL_law_11 : decode cL_law 11 = .ok (.dup, 1) := by decide +kernel
theorem dL_law_12 : decode cL_law 12 = .ok (.invokespecial 12, 3) := by decide +kernel
theorem dL_law_15 : decode cL_law 15 = .ok (.astore_n 2, 1) := by decide +kernel
theorem dL_law_16 : decode cL_law 16 = .ok (.iconst 0, 1) := by decide +kernel
theorem dL_law_17 : decode cL_law 17 = .ok (.istore_n 3, 1) := by decide +kernel
theorem dL_law_18 : decode cL_law 18 = .ok (.iload_n 3, 1) := by decide +kernel
theorem dL_law_19 : decode cL_law 19 = .ok (.aload_n 0, 1) := by decide +kernel
theorem dL_law_20 : decode cL_law 20 = .ok (.arraylength, 1) := by decide +kernel
theorem dL_law_21 : decode cL_law 21 = .ok (.iconst 5, 1) := by decide +kernel
theorem dL_law_22 : decode cL_law 22 = .ok (.isub, 1) := by decide +kernel
theorem dL_law_23 : decode cL_law 23 = .ok (.if_icmp .gt 790, 3) := by decide +kernel
theorem dL_law_26 : decode cL_law 26 = .ok (.aload_n 0, 1) := by decide +kernel
theorem dL_law_27 : decode cL_law 27 = .ok (.iload_n 3, 1) := by decide +kernel
theorem dL_law_28 : decode cL_law 28 = .ok (.iaload, 1) := by decide +kernel
theorem dL_law_29 : decode cL_law 29 = .ok (.bipush 31, 2) := by decide +kernel
theorem dL_law_31 : decode cL_law 31 = .ok (.iand, 1) := by decide +kernel
theorem dL_law_32 : decode cL_law 32 = .ok (.tableswitch 775 0 26 #[124, 177, 210, 243, 276, 289, 312, 335, 348, 381, 414, 447, 470, 503, 536, 559, 592, 605, 618, 631, 654, 667, 690, 703, 726, 739, 762], 124) := by decide +kernel
theorem dL_law_156 : decode cL_law 156 = .ok (.aload_n 1, 1) := by decide +kernel
theorem dL_law_157 : decode cL_law 157 = .ok (.aload_n 0, 1) := by decide +kernel
theorem dL_law_158 : decode cL_law 158 = .ok (.iload_n 3, 1) := by decide +kernel
theorem dL_law_159 : decode cL_law 159 = .ok (.iconst 1, 1) := by decide +kernel
theorem dL_law_160 : decode cL_law 160 = .ok (.iadd, 1) := by decide +kernel
theorem dL_law_161 : decode cL_law 161 = .ok (.iaload, 1) := by decide +kernel
theorem dL_law_162 : decode cL_law 162 = .ok (.aload_n 0, 1) := by decide +kernel
theorem dL_law_163 : decode cL_law 163 = .ok (.iload_n 3, 1) := by decide +kernel
theorem dL_law_164 : decode cL_law 164 = .ok (.iconst 2, 1) := by decide +kernel
theorem dL_law_165 : decode cL_law 165 = .ok (.iadd, 1) := by decide +kernel
theorem dL_law_166 : decode cL_law 166 = .ok (.iaload, 1) := by decide +kernel
theorem dL_law_167 : decode cL_law 167 = .ok (.aload_n 0, 1) := by decide +kernel
theorem dL_law_168 : decode cL_law 168 = .ok (.iload_n 3, 1) := by decide +kernel
theorem dL_law_169 : decode cL_law 169 = .ok (.iconst 3, 1) := by decide +kernel
theorem dL_law_170 : decode cL_law 170 = .ok (.iadd, 1) := by decide +kernel
theorem dL_law_171 : decode cL_law 171 = .ok (.iaload, 1) := by decide +kernel
theorem dL_law_172 : decode cL_law 172 = .ok (.aload_n 0, 1) := by decide +kernel
theorem dL_law_173 : decode cL_law 173 = .ok (.iload_n 3, 1) := by decide +kernel
theorem dL_law_174 : decode cL_law 174 = .ok (.iconst 4, 1) := by decide +kernel
theorem dL_law_175 : decode cL_law 175 = .ok (.iadd, 1) := by decide +kernel
theorem dL_law_176 : decode cL_law 176 = .ok (.iaload, 1) := by decide +kernel
theorem dL_law_177 : decode cL_law 177 = .ok (.invokevirtual 13, 3) := by decide +kernel
theorem dL_law_180 : decode cL_law 180 = .ok (.aload_n 2, 1) := by decide +kernel
theorem dL_law_181 : decode cL_law 181 = .ok (.aload_n 0, 1) := by decide +kernel
theorem dL_law_182 : decode cL_law 182 = .ok (.iload_n 3, 1) := by decide +kernel
theorem dL_law_183 : decode cL_law 183 = .ok (.iconst 1, 1) := by decide +kernel
theorem dL_law_184 : decode cL_law 184 = .ok (.iadd, 1) := by decide +kernel
theorem dL_law_185 : decode cL_law 185 = .ok (.iaload, 1) := by decide +kernel
theorem dL_law_186 : decode cL_law 186 = .ok (.aload_n 0, 1) := by decide +kernel
theorem dL_law_187 : decode cL_law 187 = .ok (.iload_n 3, 1) := by decide +kernel
theorem dL_law_188 : decode cL_law 188 = .ok (.iconst 2, 1) := by decide +kernel
theorem dL_law_189 : decode cL_law 189 = .ok (.iadd, 1) := by decide +kernel
theorem dL_law_190 : decode cL_law 190 = .ok (.iaload, 1) := by decide +kernel
theorem dL_law_191 : decode cL_law 191 = .ok (.aload_n 0, 1) := by decide +kernel
theorem dL_law_192 : decode cL_law 192 = .ok (.iload_n 3, 1) := by decide +kernel
theorem dL_law_193 : decode cL_law 193 = .ok (.iconst 3, 1) := by decide +kernel
theorem dL_law_194 : decode cL_law 194 = .ok (.iadd, 1) := by decide +kernel
theorem dL_law_195 : decode cL_law 195 = .ok (.iaload, 1) := by decide +kernel
theorem dL_law_196 : decode cL_law 196 = .ok (.aload_n 0, 1) := by decide +kernel
theorem dL_law_197 : decode cL_law 197 = .ok (.iload_n 3, 1) := by decide +kernel
theorem dL_law_198 : decode cL_law 198 = .ok (.iconst 4, 1) := by decide +kernel
theorem dL_law_199 : decode cL_law 199 = .ok (.iadd, 1) := by decide +kernel
theorem dL_law_200 : decode cL_law 200 = .ok (.iaload, 1) := by decide +kernel
theorem dL_law_201 : decode cL_law 201 = .ok (.invokevirtual 17, 3) := by decide +kernel
theorem dL_law_204 : decode cL_law 204 = .ok (.if_icmp .eq 603, 3) := by decide +kernel
theorem dL_law_207 : decode cL_law 207 = .ok (.iconst 0, 1) := by decide +kernel
theorem dL_law_208 : decode cL_law 208 = .ok (.ireturn, 1) := by decide +kernel
theorem dL_law_209 : decode cL_law 209 = .ok (.aload_n 1, 1) := by decide +kernel
theorem dL_law_210 : decode cL_law 210 = .ok (.aload_n 0, 1) := by decide +kernel
theorem dL_law_211 : decode cL_law 211 = .ok (.iload_n 3, 1) := by decide +kernel
theorem dL_law_212 : decode cL_law 212 = .ok (.iconst 1, 1) := by decide +kernel
theorem dL_law_213 : decode cL_law 213 = .ok (.iadd, 1) := by decide +kernel
theorem dL_law_214 : decode cL_law 214 = .ok (.iaload, 1) := by decide +kernel
theorem dL_law_215 : decode cL_law 215 = .ok (.aload_n 0, 1) := by decide +kernel
theorem dL_law_216 : decode cL_law 216 = .ok (.iload_n 3, 1) := by decide +kernel
theorem dL_law_217 : decode cL_law 217 = .ok (.iconst 2, 1) := by decide +kernel
theorem dL_law_218 : decode cL_law 218 = .ok (.iadd, 1) := by decide +kernel
theorem dL_law_219 : decode cL_law 219 = .ok (.iaload, 1) := by decide +kernel
theorem dL_law_220 : decode cL_law 220 = .ok (.invokevirtual 18, 3) := by decide +kernel
theorem dL_law_223 : decode cL_law 223 = .ok (.aload_n 2, 1) := by decide +kernel
theorem dL_law_224 : decode cL_law 224 = .ok (.aload_n 0, 1) := by decide +kernel
theorem dL_law_225 : decode cL_law 225 = .ok (.iload_n 3, 1) := by decide +kernel
theorem dL_law_226 : decode cL_law 226 = .ok (.iconst 1, 1) := by decide +kernel
theorem dL_law_227 : decode cL_law 227 = .ok (.iadd, 1) := by decide +kernel
theorem dL_law_228 : decode cL_law 228 = .ok (.iaload, 1) := by decide +kernel
theorem dL_law_229 : decode cL_law 229 = .ok (.aload_n 0, 1) := by decide +kernel
theorem dL_law_230 : decode cL_law 230 = .ok (.iload_n 3, 1) := by decide +kernel
theorem dL_law_231 : decode cL_law 231 = .ok (.iconst 2, 1) := by decide +kernel
theorem dL_law_232 : decode cL_law 232 = .ok (.iadd, 1) := by decide +kernel
theorem dL_law_233 : decode cL_law 233 = .ok (.iaload, 1) := by decide +kernel
theorem dL_law_234 : decode cL_law 234 = .ok (.invokevirtual 22, 3) := by decide +kernel
theorem dL_law_237 : decode cL_law 237 = .ok (.if_icmp .eq 570, 3) := by decide +kernel
theorem dL_law_240 : decode cL_law 240 = .ok (.iconst 0, 1) := by decide +kernel
theorem dL_law_241 : decode cL_law 241 = .ok (.ireturn, 1) := by decide +kernel
theorem dL_law_242 : decode cL_law 242 = .ok (.aload_n 1, 1) := by decide +kernel
theorem dL_law_243 : decode cL_law 243 = .ok (.aload_n 0, 1) := by decide +kernel
theorem dL_law_244 : decode cL_law 244 = .ok (.iload_n 3, 1) := by decide +kernel
theorem dL_law_245 : decode cL_law 245 = .ok (.iconst 1, 1) := by decide +kernel
theorem dL_law_246 : decode cL_law 246 = .ok (.iadd, 1) := by decide +kernel
theorem dL_law_247 : decode cL_law 247 = .ok (.iaload, 1) := by decide +kernel
theorem dL_law_248 : decode cL_law 248 = .ok (.aload_n 0, 1) := by decide +kernel
theorem dL_law_249 : decode cL_law 249 = .ok (.iload_n 3, 1) := by decide +kernel
theorem dL_law_250 : decode cL_law 250 = .ok (.iconst 2, 1) := by decide +kernel
theorem dL_law_251 : decode cL_law 251 = .ok (.iadd, 1) := by decide +kernel
theorem dL_law_252 : decode cL_law 252 = .ok (.iaload, 1) := by decide +kernel
theorem dL_law_253 : decode cL_law 253 = .ok (.invokevirtual 23, 3) := by decide +kernel
theorem dL_law_256 : decode cL_law 256 = .ok (.aload_n 2, 1) := by decide +kernel
theorem dL_law_257 : decode cL_law 257 = .ok (.aload_n 0, 1) := by decide +kernel
theorem dL_law_258 : decode cL_law 258 = .ok (.iload_n 3, 1) := by decide +kernel
theorem dL_law_259 : decode cL_law 259 = .ok (.iconst 1, 1) := by decide +kernel
theorem dL_law_260 : decode cL_law 260 = .ok (.iadd, 1) := by decide +kernel
theorem dL_law_261 : decode cL_law 261 = .ok (.iaload, 1) := by decide +kernel
theorem dL_law_262 : decode cL_law 262 = .ok (.aload_n 0, 1) := by decide +kernel
theorem dL_law_263 : decode cL_law 263 = .ok (.iload_n 3, 1) := by decide +kernel
theorem dL_law_264 : decode cL_law 264 = .ok (.iconst 2, 1) := by decide +kernel
theorem dL_law_265 : decode cL_law 265 = .ok (.iadd, 1) := by decide +kernel
theorem dL_law_266 : decode cL_law 266 = .ok (.iaload, 1) := by decide +kernel
theorem dL_law_267 : decode cL_law 267 = .ok (.invokevirtual 26, 3) := by decide +kernel
theorem dL_law_270 : decode cL_law 270 = .ok (.if_icmp .eq 537, 3) := by decide +kernel
theorem dL_law_273 : decode cL_law 273 = .ok (.iconst 0, 1) := by decide +kernel
theorem dL_law_274 : decode cL_law 274 = .ok (.ireturn, 1) := by decide +kernel
theorem dL_law_275 : decode cL_law 275 = .ok (.aload_n 1, 1) := by decide +kernel
theorem dL_law_276 : decode cL_law 276 = .ok (.aload_n 0, 1) := by decide +kernel
theorem dL_law_277 : decode cL_law 277 = .ok (.iload_n 3, 1) := by decide +kernel
theorem dL_law_278 : decode cL_law 278 = .ok (.iconst 1, 1) := by decide +kernel
theorem dL_law_279 : decode cL_law 279 = .ok (.iadd, 1) := by decide +kernel
theorem dL_law_280 : decode cL_law 280 = .ok (.iaload, 1) := by decide +kernel
theorem dL_law_281 : decode cL_law 281 = .ok (.aload_n 0, 1) := by decide +kernel
theorem dL_law_282 : decode cL_law 282 = .ok (.iload_n 3, 1) := by decide +kernel
theorem dL_law_283 : decode cL_law 283 = .ok (.iconst 2, 1) := by decide +kernel
theorem dL_law_284 : decode cL_law 284 = .ok (.iadd, 1) := by decide +kernel
theorem dL_law_285 : decode cL_law 285 = .ok (.iaload, 1) := by decide +kernel
theorem dL_law_286 : decode cL_law 286 = .ok (.invokevirtual 27, 3) := by decide +kernel
theorem dL_law_289 : decode cL_law 289 = .ok (.aload_n 2, 1) := by decide +kernel
theorem dL_law_290 : decode cL_law 290 = .ok (.aload_n 0, 1) := by decide +kernel
theorem dL_law_291 : decode cL_law 291 = .ok (.iload_n 3, 1) := by decide +kernel
theorem dL_law_292 : decode cL_law 292 = .ok (.iconst 1, 1) := by decide +kernel
theorem dL_law_293 : decode cL_law 293 = .ok (.iadd, 1) := by decide +kernel
theorem dL_law_294 : decode cL_law 294 = .ok (.iaload, 1) := by decide +kernel
theorem dL_law_295 : decode cL_law 295 = .ok (.aload_n 0, 1) := by decide +kernel
theorem dL_law_296 : decode cL_law 296 = .ok (.iload_n 3, 1) := by decide +kernel
theorem dL_law_297 : decode cL_law 297 = .ok (.iconst 2, 1) := by decide +kernel
theorem dL_law_298 : decode cL_law 298 = .ok (.iadd, 1) := by decide +kernel
theorem dL_law_299 : decode cL_law 299 = .ok (.iaload, 1) := by decide +kernel
theorem dL_law_300 : decode cL_law 300 = .ok (.invokevirtual 30, 3) := by decide +kernel
theorem dL_law_303 : decode cL_law 303 = .ok (.if_icmp .eq 504, 3) := by decide +kernel
theorem dL_law_306 : decode cL_law 306 = .ok (.iconst 0, 1) := by decide +kernel
theorem dL_law_307 : decode cL_law 307 = .ok (.ireturn, 1) := by decide +kernel
theorem dL_law_308 : decode cL_law 308 = .ok (.aload_n 1, 1) := by decide +kernel
theorem dL_law_309 : decode cL_law 309 = .ok (.invokevirtual 31, 3) := by decide +kernel
theorem dL_law_312 : decode cL_law 312 = .ok (.aload_n 2, 1) := by decide +kernel
theorem dL_law_313 : decode cL_law 313 = .ok (.invokevirtual 35, 3) := by decide +kernel
theorem dL_law_316 : decode cL_law 316 = .ok (.if_icmp .eq 491, 3) := by decide +kernel
theorem dL_law_319 : decode cL_law 319 = .ok (.iconst 0, 1) := by decide +kernel
theorem dL_law_320 : decode cL_law 320 = .ok (.ireturn, 1) := by decide +kernel
theorem dL_law_321 : decode cL_law 321 = .ok (.aload_n 1, 1) := by decide +kernel
theorem dL_law_322 : decode cL_law 322 = .ok (.aload_n 0, 1) := by decide +kernel
theorem dL_law_323 : decode cL_law 323 = .ok (.iload_n 3, 1) := by decide +kernel
theorem dL_law_324 : decode cL_law 324 = .ok (.iconst 1, 1) := by decide +kernel
theorem dL_law_325 : decode cL_law 325 = .ok (.iadd, 1) := by decide +kernel
theorem dL_law_326 : decode cL_law 326 = .ok (.iaload, 1) := by decide +kernel
theorem dL_law_327 : decode cL_law 327 = .ok (.invokevirtual 36, 3) := by decide +kernel
theorem dL_law_330 : decode cL_law 330 = .ok (.aload_n 2, 1) := by decide +kernel
theorem dL_law_331 : decode cL_law 331 = .ok (.aload_n 0, 1) := by decide +kernel
theorem dL_law_332 : decode cL_law 332 = .ok (.iload_n 3, 1) := by decide +kernel
theorem dL_law_333 : decode cL_law 333 = .ok (.iconst 1, 1) := by decide +kernel
theorem dL_law_334 : decode cL_law 334 = .ok (.iadd, 1) := by decide +kernel
theorem dL_law_335 : decode cL_law 335 = .ok (.iaload, 1) := by decide +kernel
theorem dL_law_336 : decode cL_law 336 = .ok (.invokevirtual 40, 3) := by decide +kernel
theorem dL_law_339 : decode cL_law 339 = .ok (.if_icmp .eq 468, 3) := by decide +kernel
theorem dL_law_342 : decode cL_law 342 = .ok (.iconst 0, 1) := by decide +kernel
theorem dL_law_343 : decode cL_law 343 = .ok (.ireturn, 1) := by decide +kernel
theorem dL_law_344 : decode cL_law 344 = .ok (.aload_n 1, 1) := by decide +kernel
theorem dL_law_345 : decode cL_law 345 = .ok (.aload_n 0, 1) := by decide +kernel
theorem dL_law_346 : decode cL_law 346 = .ok (.iload_n 3, 1) := by decide +kernel
theorem dL_law_347 : decode cL_law 347 = .ok (.iconst 1, 1) := by decide +kernel
theorem dL_law_348 : decode cL_law 348 = .ok (.iadd, 1) := by decide +kernel
theorem dL_law_349 : decode cL_law 349 = .ok (.iaload, 1) := by decide +kernel
theorem dL_law_350 : decode cL_law 350 = .ok (.invokevirtual 41, 3) := by decide +kernel
theorem dL_law_353 : decode cL_law 353 = .ok (.aload_n 2, 1) := by decide +kernel
theorem dL_law_354 : decode cL_law 354 = .ok (.aload_n 0, 1) := by decide +kernel
theorem dL_law_355 : decode cL_law 355 = .ok (.iload_n 3, 1) := by decide +kernel
theorem dL_law_356 : decode cL_law 356 = .ok (.iconst 1, 1) := by decide +kernel
theorem dL_law_357 : decode cL_law 357 = .ok (.iadd, 1) := by decide +kernel
theorem dL_law_358 : decode cL_law 358 = .ok (.iaload, 1) := by decide +kernel
theorem dL_law_359 : decode cL_law 359 = .ok (.invokevirtual 44, 3) := by decide +kernel
theorem dL_law_362 : decode cL_law 362 = .ok (.if_icmp .eq 445, 3) := by decide +kernel
theorem dL_law_365 : decode cL_law 365 = .ok (.iconst 0, 1) := by decide +kernel
theorem dL_law_366 : decode cL_law 366 = .ok (.ireturn, 1) := by decide +kernel
theorem dL_law_367 : decode cL_law 367 = .ok (.aload_n 1, 1) := by decide +kernel
theorem dL_law_368 : decode cL_law 368 = .ok (.invokevirtual 45, 3) := by decide +kernel
theorem dL_law_371 : decode cL_law 371 = .ok (.aload_n 2, 1) := by decide +kernel
theorem dL_law_372 : decode cL_law 372 = .ok (.invokevirtual 48, 3) := by decide +kernel
theorem dL_law_375 : decode cL_law 375 = .ok (.if_icmp .eq 432, 3) := by decide +kernel
theorem dL_law_378 : decode cL_law 378 = .ok (.iconst 0, 1) := by decide +kernel
theorem dL_law_379 : decode cL_law 379 = .ok (.ireturn, 1) := by decide +kernel
theorem dL_law_380 : decode cL_law 380 = .ok (.aload_n 1, 1) := by decide +kernel
theorem dL_law_381 : decode cL_law 381 = .ok (.aload_n 0, 1) := by decide +kernel
theorem dL_law_382 : decode cL_law 382 = .ok (.iload_n 3, 1) := by decide +kernel
theorem dL_law_383 : decode cL_law 383 = .ok (.iconst 1, 1) := by decide +kernel
theorem dL_law_384 : decode cL_law 384 = .ok (.iadd, 1) := by decide +kernel
theorem dL_law_385 : decode cL_law 385 = .ok (.iaload, 1) := by decide +kernel
theorem dL_law_386 : decode cL_law 386 = .ok (.aload_n 0, 1) := by decide +kernel
theorem dL_law_387 : decode cL_law 387 = .ok (.iload_n 3, 1) := by decide +kernel
theorem dL_law_388 : decode cL_law 388 = .ok (.iconst 2, 1) := by decide +kernel
theorem dL_law_389 : decode cL_law 389 = .ok (.iadd, 1) := by decide +kernel
theorem dL_law_390 : decode cL_law 390 = .ok (.iaload, 1) := by decide +kernel
theorem dL_law_391 : decode cL_law 391 = .ok (.invokevirtual 49, 3) := by decide +kernel
theorem dL_law_394 : decode cL_law 394 = .ok (.aload_n 2, 1) := by decide +kernel
theorem dL_law_395 : decode cL_law 395 = .ok (.aload_n 0, 1) := by decide +kernel
theorem dL_law_396 : decode cL_law 396 = .ok (.iload_n 3, 1) := by decide +kernel
theorem dL_law_397 : decode cL_law 397 = .ok (.iconst 1, 1) := by decide +kernel
theorem dL_law_398 : decode cL_law 398 = .ok (.iadd, 1) := by decide +kernel
theorem dL_law_399 : decode cL_law 399 = .ok (.iaload, 1) := by decide +kernel
theorem dL_law_400 : decode cL_law 400 = .ok (.aload_n 0, 1) := by decide +kernel
theorem dL_law_401 : decode cL_law 401 = .ok (.iload_n 3, 1) := by decide +kernel
theorem dL_law_402 : decode cL_law 402 = .ok (.iconst 2, 1) := by decide +kernel
theorem dL_law_403 : decode cL_law 403 = .ok (.iadd, 1) := by decide +kernel
theorem dL_law_404 : decode cL_law 404 = .ok (.iaload, 1) := by decide +kernel
theorem dL_law_405 : decode cL_law 405 = .ok (.invokevirtual 52, 3) := by decide +kernel
theorem dL_law_408 : decode cL_law 408 = .ok (.if_icmp .eq 399, 3) := by decide +kernel
theorem dL_law_411 : decode cL_law 411 = .ok (.iconst 0, 1) := by decide +kernel
theorem dL_law_412 : decode cL_law 412 = .ok (.ireturn, 1) := by decide +kernel
theorem dL_law_413 : decode cL_law 413 = .ok (.aload_n 1, 1) := by decide +kernel
theorem dL_law_414 : decode cL_law 414 = .ok (.aload_n 0, 1) := by decide +kernel
theorem dL_law_415 : decode cL_law 415 = .ok (.iload_n 3, 1) := by decide +kernel
theorem dL_law_416 : decode cL_law 416 = .ok (.iconst 1, 1) := by decide +kernel
theorem dL_law_417 : decode cL_law 417 = .ok (.iadd, 1) := by decide +kernel
theorem dL_law_418 : decode cL_law 418 = .ok (.iaload, 1) := by decide +kernel
theorem dL_law_419 : decode cL_law 419 = .ok (.aload_n 0, 1) := by decide +kernel
theorem dL_law_420 : decode cL_law 420 = .ok (.iload_n 3, 1) := by decide +kernel
theorem dL_law_421 : decode cL_law 421 = .ok (.iconst 2, 1) := by decide +kernel
theorem dL_law_422 : decode cL_law 422 = .ok (.iadd, 1) := by decide +kernel
theorem dL_law_423 : decode cL_law 423 = .ok (.iaload, 1) := by decide +kernel
theorem dL_law_424 : decode cL_law 424 = .ok (.invokevirtual 53, 3) := by decide +kernel
theorem dL_law_427 : decode cL_law 427 = .ok (.aload_n 2, 1) := by decide +kernel
theorem dL_law_428 : decode cL_law 428 = .ok (.aload_n 0, 1) := by decide +kernel
theorem dL_law_429 : decode cL_law 429 = .ok (.iload_n 3, 1) := by decide +kernel
theorem dL_law_430 : decode cL_law 430 = .ok (.iconst 1, 1) := by decide +kernel
theorem dL_law_431 : decode cL_law 431 = .ok (.iadd, 1) := by decide +kernel
theorem dL_law_432 : decode cL_law 432 = .ok (.iaload, 1) := by decide +kernel
theorem dL_law_433 : decode cL_law 433 = .ok (.aload_n 0, 1) := by decide +kernel
theorem dL_law_434 : decode cL_law 434 = .ok (.iload_n 3, 1) := by decide +kernel
theorem dL_law_435 : decode cL_law 435 = .ok (.iconst 2, 1) := by decide +kernel
theorem dL_law_436 : decode cL_law 436 = .ok (.iadd, 1) := by decide +kernel
theorem dL_law_437 : decode cL_law 437 = .ok (.iaload, 1) := by decide +kernel
theorem dL_law_438 : decode cL_law 438 = .ok (.invokevirtual 56, 3) := by decide +kernel
theorem dL_law_441 : decode cL_law 441 = .ok (.if_icmp .eq 366, 3) := by decide +kernel
theorem dL_law_444 : decode cL_law 444 = .ok (.iconst 0, 1) := by decide +kernel
theorem dL_law_445 : decode cL_law 445 = .ok (.ireturn, 1) := by decide +kernel
theorem dL_law_446 : decode cL_law 446 = .ok (.aload_n 1, 1) := by decide +kernel
theorem dL_law_447 : decode cL_law 447 = .ok (.aload_n 0, 1) := by decide +kernel
theorem dL_law_448 : decode cL_law 448 = .ok (.iload_n 3, 1) := by decide +kernel
theorem dL_law_449 : decode cL_law 449 = .ok (.iconst 1, 1) := by decide +kernel
theorem dL_law_450 : decode cL_law 450 = .ok (.iadd, 1) := by decide +kernel
theorem dL_law_451 : decode cL_law 451 = .ok (.iaload, 1) := by decide +kernel
theorem dL_law_452 : decode cL_law 452 = .ok (.aload_n 0, 1) := by decide +kernel
theorem dL_law_453 : decode cL_law 453 = .ok (.iload_n 3, 1) := by decide +kernel
theorem dL_law_454 : decode cL_law 454 = .ok (.iconst 2, 1) := by decide +kernel
theorem dL_law_455 : decode cL_law 455 = .ok (.iadd, 1) := by decide +kernel
theorem dL_law_456 : decode cL_law 456 = .ok (.iaload, 1) := by decide +kernel
theorem dL_law_457 : decode cL_law 457 = .ok (.invokevirtual 57, 3) := by decide +kernel
theorem dL_law_460 : decode cL_law 460 = .ok (.aload_n 2, 1) := by decide +kernel
theorem dL_law_461 : decode cL_law 461 = .ok (.aload_n 0, 1) := by decide +kernel
theorem dL_law_462 : decode cL_law 462 = .ok (.iload_n 3, 1) := by decide +kernel
theorem dL_law_463 : decode cL_law 463 = .ok (.iconst 1, 1) := by decide +kernel
theorem dL_law_464 : decode cL_law 464 = .ok (.iadd, 1) := by decide +kernel
theorem dL_law_465 : decode cL_law 465 = .ok (.iaload, 1) := by decide +kernel
theorem dL_law_466 : decode cL_law 466 = .ok (.aload_n 0, 1) := by decide +kernel
theorem dL_law_467 : decode cL_law 467 = .ok (.iload_n 3, 1) := by decide +kernel
theorem dL_law_468 : decode cL_law 468 = .ok (.iconst 2, 1) := by decide +kernel
theorem dL_law_469 : decode cL_law 469 = .ok (.iadd, 1) := by decide +kernel
theorem dL_law_470 : decode cL_law 470 = .ok (.iaload, 1) := by decide +kernel
theorem dL_law_471 : decode cL_law 471 = .ok (.invokevirtual 60, 3) := by decide +kernel
theorem dL_law_474 : decode cL_law 474 = .ok (.if_icmp .eq 333, 3) := by decide +kernel
theorem dL_law_477 : decode cL_law 477 = .ok (.iconst 0, 1) := by decide +kernel
theorem dL_law_478 : decode cL_law 478 = .ok (.ireturn, 1) := by decide +kernel
theorem dL_law_479 : decode cL_law 479 = .ok (.aload_n 1, 1) := by decide +kernel
theorem dL_law_480 : decode cL_law 480 = .ok (.aload_n 0, 1) := by decide +kernel
theorem dL_law_481 : decode cL_law 481 = .ok (.iload_n 3, 1) := by decide +kernel
theorem dL_law_482 : decode cL_law 482 = .ok (.iconst 1, 1) := by decide +kernel
theorem dL_law_483 : decode cL_law 483 = .ok (.iadd, 1) := by decide +kernel
theorem dL_law_484 : decode cL_law 484 = .ok (.iaload, 1) := by decide +kernel
theorem dL_law_485 : decode cL_law 485 = .ok (.invokevirtual 61, 3) := by decide +kernel
theorem dL_law_488 : decode cL_law 488 = .ok (.aload_n 2, 1) := by decide +kernel
theorem dL_law_489 : decode cL_law 489 = .ok (.aload_n 0, 1) := by decide +kernel
theorem dL_law_490 : decode cL_law 490 = .ok (.iload_n 3, 1) := by decide +kernel
theorem dL_law_491 : decode cL_law 491 = .ok (.iconst 1, 1) := by decide +kernel
theorem dL_law_492 : decode cL_law 492 = .ok (.iadd, 1) := by decide +kernel
theorem dL_law_493 : decode cL_law 493 = .ok (.iaload, 1) := by decide +kernel
theorem dL_law_494 : decode cL_law 494 = .ok (.invokevirtual 64, 3) := by decide +kernel
theorem dL_law_497 : decode cL_law 497 = .ok (.if_icmp .eq 310, 3) := by decide +kernel
theorem dL_law_500 : decode cL_law 500 = .ok (.iconst 0, 1) := by decide +kernel
theorem dL_law_501 : decode cL_law 501 = .ok (.ireturn, 1) := by decide +kernel
theorem dL_law_502 : decode cL_law 502 = .ok (.aload_n 1, 1) := by decide +kernel
theorem dL_law_503 : decode cL_law 503 = .ok (.aload_n 0, 1) := by decide +kernel
theorem dL_law_504 : decode cL_law 504 = .ok (.iload_n 3, 1) := by decide +kernel
theorem dL_law_505 : decode cL_law 505 = .ok (.iconst 1, 1) := by decide +kernel
theorem dL_law_506 : decode cL_law 506 = .ok (.iadd, 1) := by decide +kernel
theorem dL_law_507 : decode cL_law 507 = .ok (.iaload, 1) := by decide +kernel
theorem dL_law_508 : decode cL_law 508 = .ok (.aload_n 0, 1) := by decide +kernel
theorem dL_law_509 : decode cL_law 509 = .ok (.iload_n 3, 1) := by decide +kernel
theorem dL_law_510 : decode cL_law 510 = .ok (.iconst 2, 1) := by decide +kernel
theorem dL_law_511 : decode cL_law 511 = .ok (.iadd, 1) := by decide +kernel
theorem dL_law_512 : decode cL_law 512 = .ok (.iaload, 1) := by decide +kernel
theorem dL_law_513 : decode cL_law 513 = .ok (.invokevirtual 65, 3) := by decide +kernel
theorem dL_law_516 : decode cL_law 516 = .ok (.aload_n 2, 1) := by decide +kernel
theorem dL_law_517 : decode cL_law 517 = .ok (.aload_n 0, 1) := by decide +kernel
theorem dL_law_518 : decode cL_law 518 = .ok (.iload_n 3, 1) := by decide +kernel
theorem dL_law_519 : decode cL_law 519 = .ok (.iconst 1, 1) := by decide +kernel
theorem dL_law_520 : decode cL_law 520 = .ok (.iadd, 1) := by decide +kernel
theorem dL_law_521 : decode cL_law 521 = .ok (.iaload, 1) := by decide +kernel
theorem dL_law_522 : decode cL_law 522 = .ok (.aload_n 0, 1) := by decide +kernel
theorem dL_law_523 : decode cL_law 523 = .ok (.iload_n 3, 1) := by decide +kernel
theorem dL_law_524 : decode cL_law 524 = .ok (.iconst 2, 1) := by decide +kernel
theorem dL_law_525 : decode cL_law 525 = .ok (.iadd, 1) := by decide +kernel
theorem dL_law_526 : decode cL_law 526 = .ok (.iaload, 1) := by decide +kernel
theorem dL_law_527 : decode cL_law 527 = .ok (.invokevirtual 68, 3) := by decide +kernel
theorem dL_law_530 : decode cL_law 530 = .ok (.if_icmp .eq 277, 3) := by decide +kernel
theorem dL_law_533 : decode cL_law 533 = .ok (.iconst 0, 1) := by decide +kernel
theorem dL_law_534 : decode cL_law 534 = .ok (.ireturn, 1) := by decide +kernel
theorem dL_law_535 : decode cL_law 535 = .ok (.aload_n 1, 1) := by decide +kernel
theorem dL_law_536 : decode cL_law 536 = .ok (.aload_n 0, 1) := by decide +kernel
theorem dL_law_537 : decode cL_law 537 = .ok (.iload_n 3, 1) := by decide +kernel
theorem dL_law_538 : decode cL_law 538 = .ok (.iconst 1, 1) := by decide +kernel
theorem dL_law_539 : decode cL_law 539 = .ok (.iadd, 1) := by decide +kernel
theorem dL_law_540 : decode cL_law 540 = .ok (.iaload, 1) := by decide +kernel
theorem dL_law_541 : decode cL_law 541 = .ok (.aload_n 0, 1) := by decide +kernel
theorem dL_law_542 : decode cL_law 542 = .ok (.iload_n 3, 1) := by decide +kernel
theorem dL_law_543 : decode cL_law 543 = .ok (.iconst 2, 1) := by decide +kernel
theorem dL_law_544 : decode cL_law 544 = .ok (.iadd, 1) := by decide +kernel
theorem dL_law_545 : decode cL_law 545 = .ok (.iaload, 1) := by decide +kernel
theorem dL_law_546 : decode cL_law 546 = .ok (.invokevirtual 69, 3) := by decide +kernel
theorem dL_law_549 : decode cL_law 549 = .ok (.aload_n 2, 1) := by decide +kernel
theorem dL_law_550 : decode cL_law 550 = .ok (.aload_n 0, 1) := by decide +kernel
theorem dL_law_551 : decode cL_law 551 = .ok (.iload_n 3, 1) := by decide +kernel
theorem dL_law_552 : decode cL_law 552 = .ok (.iconst 1, 1) := by decide +kernel
theorem dL_law_553 : decode cL_law 553 = .ok (.iadd, 1) := by decide +kernel
theorem dL_law_554 : decode cL_law 554 = .ok (.iaload, 1) := by decide +kernel
theorem dL_law_555 : decode cL_law 555 = .ok (.aload_n 0, 1) := by decide +kernel
theorem dL_law_556 : decode cL_law 556 = .ok (.iload_n 3, 1) := by decide +kernel
theorem dL_law_557 : decode cL_law 557 = .ok (.iconst 2, 1) := by decide +kernel
theorem dL_law_558 : decode cL_law 558 = .ok (.iadd, 1) := by decide +kernel
theorem dL_law_559 : decode cL_law 559 = .ok (.iaload, 1) := by decide +kernel
theorem dL_law_560 : decode cL_law 560 = .ok (.invokevirtual 72, 3) := by decide +kernel
theorem dL_law_563 : decode cL_law 563 = .ok (.if_icmp .eq 244, 3) := by decide +kernel
theorem dL_law_566 : decode cL_law 566 = .ok (.iconst 0, 1) := by decide +kernel
theorem dL_law_567 : decode cL_law 567 = .ok (.ireturn, 1) := by decide +kernel
theorem dL_law_568 : decode cL_law 568 = .ok (.aload_n 1, 1) := by decide +kernel
theorem dL_law_569 : decode cL_law 569 = .ok (.aload_n 0, 1) := by decide +kernel
theorem dL_law_570 : decode cL_law 570 = .ok (.iload_n 3, 1) := by decide +kernel
theorem dL_law_571 : decode cL_law 571 = .ok (.iconst 1, 1) := by decide +kernel
theorem dL_law_572 : decode cL_law 572 = .ok (.iadd, 1) := by decide +kernel
theorem dL_law_573 : decode cL_law 573 = .ok (.iaload, 1) := by decide +kernel
theorem dL_law_574 : decode cL_law 574 = .ok (.invokevirtual 73, 3) := by decide +kernel
theorem dL_law_577 : decode cL_law 577 = .ok (.aload_n 2, 1) := by decide +kernel
theorem dL_law_578 : decode cL_law 578 = .ok (.aload_n 0, 1) := by decide +kernel
theorem dL_law_579 : decode cL_law 579 = .ok (.iload_n 3, 1) := by decide +kernel
theorem dL_law_580 : decode cL_law 580 = .ok (.iconst 1, 1) := by decide +kernel
theorem dL_law_581 : decode cL_law 581 = .ok (.iadd, 1) := by decide +kernel
theorem dL_law_582 : decode cL_law 582 = .ok (.iaload, 1) := by decide +kernel
theorem dL_law_583 : decode cL_law 583 = .ok (.invokevirtual 76, 3) := by decide +kernel
theorem dL_law_586 : decode cL_law 586 = .ok (.if_icmp .eq 221, 3) := by decide +kernel
theorem dL_law_589 : decode cL_law 589 = .ok (.iconst 0, 1) := by decide +kernel
theorem dL_law_590 : decode cL_law 590 = .ok (.ireturn, 1) := by decide +kernel
theorem dL_law_591 : decode cL_law 591 = .ok (.aload_n 1, 1) := by decide +kernel
theorem dL_law_592 : decode cL_law 592 = .ok (.aload_n 0, 1) := by decide +kernel
theorem dL_law_593 : decode cL_law 593 = .ok (.iload_n 3, 1) := by decide +kernel
theorem dL_law_594 : decode cL_law 594 = .ok (.iconst 1, 1) := by decide +kernel
theorem dL_law_595 : decode cL_law 595 = .ok (.iadd, 1) := by decide +kernel
theorem dL_law_596 : decode cL_law 596 = .ok (.iaload, 1) := by decide +kernel
theorem dL_law_597 : decode cL_law 597 = .ok (.aload_n 0, 1) := by decide +kernel
theorem dL_law_598 : decode cL_law 598 = .ok (.iload_n 3, 1) := by decide +kernel
theorem dL_law_599 : decode cL_law 599 = .ok (.iconst 2, 1) := by decide +kernel
theorem dL_law_600 : decode cL_law 600 = .ok (.iadd, 1) := by decide +kernel
theorem dL_law_601 : decode cL_law 601 = .ok (.iaload, 1) := by decide +kernel
theorem dL_law_602 : decode cL_law 602 = .ok (.invokevirtual 77, 3) := by decide +kernel
theorem dL_law_605 : decode cL_law 605 = .ok (.aload_n 2, 1) := by decide +kernel
theorem dL_law_606 : decode cL_law 606 = .ok (.aload_n 0, 1) := by decide +kernel
theorem dL_law_607 : decode cL_law 607 = .ok (.iload_n 3, 1) := by decide +kernel
theorem dL_law_608 : decode cL_law 608 = .ok (.iconst 1, 1) := by decide +kernel
theorem dL_law_609 : decode cL_law 609 = .ok (.iadd, 1) := by decide +kernel
theorem dL_law_610 : decode cL_law 610 = .ok (.iaload, 1) := by decide +kernel
theorem dL_law_611 : decode cL_law 611 = .ok (.aload_n 0, 1) := by decide +kernel
theorem dL_law_612 : decode cL_law 612 = .ok (.iload_n 3, 1) := by decide +kernel
theorem dL_law_613 : decode cL_law 613 = .ok (.iconst 2, 1) := by decide +kernel
theorem dL_law_614 : decode cL_law 614 = .ok (.iadd, 1) := by decide +kernel
theorem dL_law_615 : decode cL_law 615 = .ok (.iaload, 1) := by decide +kernel
theorem dL_law_616 : decode cL_law 616 = .ok (.invokevirtual 80, 3) := by decide +kernel
theorem dL_law_619 : decode cL_law 619 = .ok (.if_icmp .eq 188, 3) := by decide +kernel
theorem dL_law_622 : decode cL_law 622 = .ok (.iconst 0, 1) := by decide +kernel
theorem dL_law_623 : decode cL_law 623 = .ok (.ireturn, 1) := by decide +kernel
theorem dL_law_624 : decode cL_law 624 = .ok (.aload_n 1, 1) := by decide +kernel
theorem dL_law_625 : decode cL_law 625 = .ok (.invokevirtual 81, 3) := by decide +kernel
theorem dL_law_628 : decode cL_law 628 = .ok (.aload_n 2, 1) := by decide +kernel
theorem dL_law_629 : decode cL_law 629 = .ok (.invokevirtual 84, 3) := by decide +kernel
theorem dL_law_632 : decode cL_law 632 = .ok (.if_icmp .eq 175, 3) := by decide +kernel
theorem dL_law_635 : decode cL_law 635 = .ok (.iconst 0, 1) := by decide +kernel
theorem dL_law_636 : decode cL_law 636 = .ok (.ireturn, 1) := by decide +kernel
theorem dL_law_637 : decode cL_law 637 = .ok (.aload_n 1, 1) := by decide +kernel
theorem dL_law_638 : decode cL_law 638 = .ok (.invokevirtual 85, 3) := by decide +kernel
theorem dL_law_641 : decode cL_law 641 = .ok (.aload_n 2, 1) := by decide +kernel
theorem dL_law_642 : decode cL_law 642 = .ok (.invokevirtual 88, 3) := by decide +kernel
theorem dL_law_645 : decode cL_law 645 = .ok (.if_icmp .eq 162, 3) := by decide +kernel
theorem dL_law_648 : decode cL_law 648 = .ok (.iconst 0, 1) := by decide +kernel
theorem dL_law_649 : decode cL_law 649 = .ok (.ireturn, 1) := by decide +kernel
theorem dL_law_650 : decode cL_law 650 = .ok (.aload_n 1, 1) := by decide +kernel
theorem dL_law_651 : decode cL_law 651 = .ok (.invokevirtual 89, 3) := by decide +kernel
theorem dL_law_654 : decode cL_law 654 = .ok (.aload_n 2, 1) := by decide +kernel
theorem dL_law_655 : decode cL_law 655 = .ok (.invokevirtual 92, 3) := by decide +kernel
theorem dL_law_658 : decode cL_law 658 = .ok (.if_icmp .eq 149, 3) := by decide +kernel
theorem dL_law_661 : decode cL_law 661 = .ok (.iconst 0, 1) := by decide +kernel
theorem dL_law_662 : decode cL_law 662 = .ok (.ireturn, 1) := by decide +kernel
theorem dL_law_663 : decode cL_law 663 = .ok (.aload_n 1, 1) := by decide +kernel
theorem dL_law_664 : decode cL_law 664 = .ok (.aload_n 0, 1) := by decide +kernel
theorem dL_law_665 : decode cL_law 665 = .ok (.iload_n 3, 1) := by decide +kernel
theorem dL_law_666 : decode cL_law 666 = .ok (.iconst 1, 1) := by decide +kernel
theorem dL_law_667 : decode cL_law 667 = .ok (.iadd, 1) := by decide +kernel
theorem dL_law_668 : decode cL_law 668 = .ok (.iaload, 1) := by decide +kernel
theorem dL_law_669 : decode cL_law 669 = .ok (.invokevirtual 93, 3) := by decide +kernel
theorem dL_law_672 : decode cL_law 672 = .ok (.aload_n 2, 1) := by decide +kernel
theorem dL_law_673 : decode cL_law 673 = .ok (.aload_n 0, 1) := by decide +kernel
theorem dL_law_674 : decode cL_law 674 = .ok (.iload_n 3, 1) := by decide +kernel
theorem dL_law_675 : decode cL_law 675 = .ok (.iconst 1, 1) := by decide +kernel
theorem dL_law_676 : decode cL_law 676 = .ok (.iadd, 1) := by decide +kernel
theorem dL_law_677 : decode cL_law 677 = .ok (.iaload, 1) := by decide +kernel
theorem dL_law_678 : decode cL_law 678 = .ok (.invokevirtual 96, 3) := by decide +kernel
theorem dL_law_681 : decode cL_law 681 = .ok (.if_icmp .eq 126, 3) := by decide +kernel
theorem dL_law_684 : decode cL_law 684 = .ok (.iconst 0, 1) := by decide +kernel
theorem dL_law_685 : decode cL_law 685 = .ok (.ireturn, 1) := by decide +kernel
theorem dL_law_686 : decode cL_law 686 = .ok (.aload_n 1, 1) := by decide +kernel
theorem dL_law_687 : decode cL_law 687 = .ok (.invokevirtual 97, 3) := by decide +kernel
theorem dL_law_690 : decode cL_law 690 = .ok (.aload_n 2, 1) := by decide +kernel
theorem dL_law_691 : decode cL_law 691 = .ok (.invokevirtual 100, 3) := by decide +kernel
theorem dL_law_694 : decode cL_law 694 = .ok (.if_icmp .eq 113, 3) := by decide +kernel
theorem dL_law_697 : decode cL_law 697 = .ok (.iconst 0, 1) := by decide +kernel
theorem dL_law_698 : decode cL_law 698 = .ok (.ireturn, 1) := by decide +kernel
theorem dL_law_699 : decode cL_law 699 = .ok (.aload_n 1, 1) := by decide +kernel
theorem dL_law_700 : decode cL_law 700 = .ok (.aload_n 0, 1) := by decide +kernel
theorem dL_law_701 : decode cL_law 701 = .ok (.iload_n 3, 1) := by decide +kernel
theorem dL_law_702 : decode cL_law 702 = .ok (.iconst 1, 1) := by decide +kernel
theorem dL_law_703 : decode cL_law 703 = .ok (.iadd, 1) := by decide +kernel
theorem dL_law_704 : decode cL_law 704 = .ok (.iaload, 1) := by decide +kernel
theorem dL_law_705 : decode cL_law 705 = .ok (.invokevirtual 101, 3) := by decide +kernel
theorem dL_law_708 : decode cL_law 708 = .ok (.aload_n 2, 1) := by decide +kernel
theorem dL_law_709 : decode cL_law 709 = .ok (.aload_n 0, 1) := by decide +kernel
theorem dL_law_710 : decode cL_law 710 = .ok (.iload_n 3, 1) := by decide +kernel
theorem dL_law_711 : decode cL_law 711 = .ok (.iconst 1, 1) := by decide +kernel
theorem dL_law_712 : decode cL_law 712 = .ok (.iadd, 1) := by decide +kernel
theorem dL_law_713 : decode cL_law 713 = .ok (.iaload, 1) := by decide +kernel
theorem dL_law_714 : decode cL_law 714 = .ok (.invokevirtual 104, 3) := by decide +kernel
theorem dL_law_717 : decode cL_law 717 = .ok (.if_icmp .eq 90, 3) := by decide +kernel
theorem dL_law_720 : decode cL_law 720 = .ok (.iconst 0, 1) := by decide +kernel
theorem dL_law_721 : decode cL_law 721 = .ok (.ireturn, 1) := by decide +kernel
theorem dL_law_722 : decode cL_law 722 = .ok (.aload_n 1, 1) := by decide +kernel
theorem dL_law_723 : decode cL_law 723 = .ok (.invokevirtual 105, 3) := by decide +kernel
theorem dL_law_726 : decode cL_law 726 = .ok (.aload_n 2, 1) := by decide +kernel
theorem dL_law_727 : decode cL_law 727 = .ok (.invokevirtual 108, 3) := by decide +kernel
theorem dL_law_730 : decode cL_law 730 = .ok (.if_icmp .eq 77, 3) := by decide +kernel
theorem dL_law_733 : decode cL_law 733 = .ok (.iconst 0, 1) := by decide +kernel
theorem dL_law_734 : decode cL_law 734 = .ok (.ireturn, 1) := by decide +kernel
theorem dL_law_735 : decode cL_law 735 = .ok (.aload_n 1, 1) := by decide +kernel
theorem dL_law_736 : decode cL_law 736 = .ok (.aload_n 0, 1) := by decide +kernel
theorem dL_law_737 : decode cL_law 737 = .ok (.iload_n 3, 1) := by decide +kernel
theorem dL_law_738 : decode cL_law 738 = .ok (.iconst 1, 1) := by decide +kernel
theorem dL_law_739 : decode cL_law 739 = .ok (.iadd, 1) := by decide +kernel
theorem dL_law_740 : decode cL_law 740 = .ok (.iaload, 1) := by decide +kernel
theorem dL_law_741 : decode cL_law 741 = .ok (.invokevirtual 109, 3) := by decide +kernel
theorem dL_law_744 : decode cL_law 744 = .ok (.aload_n 2, 1) := by decide +kernel
theorem dL_law_745 : decode cL_law 745 = .ok (.aload_n 0, 1) := by decide +kernel
theorem dL_law_746 : decode cL_law 746 = .ok (.iload_n 3, 1) := by decide +kernel
theorem dL_law_747 : decode cL_law 747 = .ok (.iconst 1, 1) := by decide +kernel
theorem dL_law_748 : decode cL_law 748 = .ok (.iadd, 1) := by decide +kernel
theorem dL_law_749 : decode cL_law 749 = .ok (.iaload, 1) := by decide +kernel
theorem dL_law_750 : decode cL_law 750 = .ok (.invokevirtual 112, 3) := by decide +kernel
theorem dL_law_753 : decode cL_law 753 = .ok (.if_icmp .eq 54, 3) := by decide +kernel
theorem dL_law_756 : decode cL_law 756 = .ok (.iconst 0, 1) := by decide +kernel
theorem dL_law_757 : decode cL_law 757 = .ok (.ireturn, 1) := by decide +kernel
theorem dL_law_758 : decode cL_law 758 = .ok (.aload_n 1, 1) := by decide +kernel
theorem dL_law_759 : decode cL_law 759 = .ok (.invokevirtual 113, 3) := by decide +kernel
theorem dL_law_762 : decode cL_law 762 = .ok (.aload_n 2, 1) := by decide +kernel
theorem dL_law_763 : decode cL_law 763 = .ok (.invokevirtual 116, 3) := by decide +kernel
theorem dL_law_766 : decode cL_law 766 = .ok (.if_icmp .eq 41, 3) := by decide +kernel
theorem dL_law_769 : decode cL_law 769 = .ok (.iconst 0, 1) := by decide +kernel
theorem dL_law_770 : decode cL_law 770 = .ok (.ireturn, 1) := by decide +kernel
theorem dL_law_771 : decode cL_law 771 = .ok (.aload_n 1, 1) := by decide +kernel
theorem dL_law_772 : decode cL_law 772 = .ok (.aload_n 0, 1) := by decide +kernel
theorem dL_law_773 : decode cL_law 773 = .ok (.iload_n 3, 1) := by decide +kernel
theorem dL_law_774 : decode cL_law 774 = .ok (.iconst 1, 1) := by decide +kernel
theorem dL_law_775 : decode cL_law 775 = .ok (.iadd, 1) := by decide +kernel
theorem dL_law_776 : decode cL_law 776 = .ok (.iaload, 1) := by decide +kernel
theorem dL_law_777 : decode cL_law 777 = .ok (.invokevirtual 117, 3) := by decide +kernel
theorem dL_law_780 : decode cL_law 780 = .ok (.aload_n 2, 1) := by decide +kernel
theorem dL_law_781 : decode cL_law 781 = .ok (.aload_n 0, 1) := by decide +kernel
theorem dL_law_782 : decode cL_law 782 = .ok (.iload_n 3, 1) := by decide +kernel
theorem dL_law_783 : decode cL_law 783 = .ok (.iconst 1, 1) := by decide +kernel
theorem dL_law_784 : decode cL_law 784 = .ok (.iadd, 1) := by decide +kernel
theorem dL_law_785 : decode cL_law 785 = .ok (.iaload, 1) := by decide +kernel
theorem dL_law_786 : decode cL_law 786 = .ok (.invokevirtual 120, 3) := by decide +kernel
theorem dL_law_789 : decode cL_law 789 = .ok (.if_icmp .eq 18, 3) := by decide +kernel
theorem dL_law_792 : decode cL_law 792 = .ok (.iconst 0, 1) := by decide +kernel
theorem dL_law_793 : decode cL_law 793 = .ok (.ireturn, 1) := by decide +kernel
theorem dL_law_794 : decode cL_law 794 = .ok (.aload_n 1, 1) := by decide +kernel
theorem dL_law_795 : decode cL_law 795 = .ok (.invokevirtual 121, 3) := by decide +kernel
theorem dL_law_798 : decode cL_law 798 = .ok (.aload_n 2, 1) := by decide +kernel
theorem dL_law_799 : decode cL_law 799 = .ok (.invokevirtual 124, 3) := by decide +kernel
theorem dL_law_802 : decode cL_law 802 = .ok (.if_icmp .eq 5, 3) := by decide +kernel
theorem dL_law_805 : decode cL_law 805 = .ok (.iconst 0, 1) := by decide +kernel
theorem dL_law_806 : decode cL_law 806 = .ok (.ireturn, 1) := by decide +kernel
theorem dL_law_807 : decode cL_law 807 = .ok (.iinc 3 5, 3) := by decide +kernel
theorem dL_law_810 : decode cL_law 810 = .ok (.goto (-792), 3) := by decide +kernel
theorem dL_law_813 : decode cL_law 813 = .ok (.iconst 1, 1) := by decide +kernel
theorem dL_law_814 : decode cL_law 814 = .ok (.ireturn, 1) := by decide +kernel
