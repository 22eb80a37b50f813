theorem dX0_init_0 : decode cX0_init 0 = .ok (.aload_n 0, 1) := by decide +kernel
theorem dX0_init_1 : decode cX0_init 1 = .ok (.invokespecial 3, 3) := by decide +kernel
theorem dX0_init_4 : decode cX0_init 4 = .ok (.aload_n 0, 1) := by decide +kernel
theorem dX0_init_5 : decode cX0_init 5 = .ok (.bipush 28, 2) := by decide +kernel
theorem dX0_init_7 : decode cX0_init 7 = .ok (.newarray .int, 2) := by decide +kernel
theorem dX0_init_9 : decode cX0_init 9 = .ok (.putfield 9, 3) := by decide +kernel
theorem dX0_init_12 : decode cX0_init 12 = .ok (.aload_n 0, 1) := by decide +kernel
theorem dX0_init_13 : decode cX0_init 13 = .ok (.bipush 28, 2) := by decide +kernel
theorem dX0_init_15 : decode cX0_init 15 = .ok (.newarray .int, 2) := by decide +kernel
theorem dX0_init_17 : decode cX0_init 17 = .ok (.putfield 15, 3) := by decide +kernel
theorem dX0_init_20 : decode cX0_init 20 = .ok (.aload_n 0, 1) := by decide +kernel
theorem dX0_init_21 : decode cX0_init 21 = .ok (.bipush 28, 2) := by decide +kernel
theorem dX0_init_23 : decode cX0_init 23 = .ok (.newarray .int, 2) := by decide +kernel
theorem dX0_init_25 : decode cX0_init 25 = .ok (.putfield 18, 3) := by decide +kernel
theorem dX0_init_28 : decode cX0_init 28 = .ok (.aload_n 0, 1) := by decide +kernel
theorem dX0_init_29 : decode cX0_init 29 = .ok (.bipush 28, 2) := by decide +kernel
theorem dX0_init_31 : decode cX0_init 31 = .ok (.newarray .int, 2) := by decide +kernel
theorem dX0_init_33 : decode cX0_init 33 = .ok (.putfield 21, 3) := by decide +kernel
theorem dX0_init_36 : decode cX0_init 36 = .ok (.aload_n 0, 1) := by decide +kernel
theorem dX0_init_37 : decode cX0_init 37 = .ok (.iconst 4, 1) := by decide +kernel
theorem dX0_init_38 : decode cX0_init 38 = .ok (.newarray .int, 2) := by decide +kernel
theorem dX0_init_40 : decode cX0_init 40 = .ok (.putfield 24, 3) := by decide +kernel
theorem dX0_init_43 : decode cX0_init 43 = .ok (.aload_n 0, 1) := by decide +kernel
theorem dX0_init_44 : decode cX0_init 44 = .ok (.iconst 4, 1) := by decide +kernel
theorem dX0_init_45 : decode cX0_init 45 = .ok (.newarray .int, 2) := by decide +kernel
theorem dX0_init_47 : decode cX0_init 47 = .ok (.putfield 27, 3) := by decide +kernel
theorem dX0_init_50 : decode cX0_init 50 = .ok (.aload_n 0, 1) := by decide +kernel
theorem dX0_init_51 : decode cX0_init 51 = .ok (.iconst 4, 1) := by decide +kernel
theorem dX0_init_52 : decode cX0_init 52 = .ok (.newarray .int, 2) := by decide +kernel
theorem dX0_init_54 : decode cX0_init 54 = .ok (.putfield 30, 3) := by decide +kernel
theorem dX0_init_57 : decode cX0_init 57 = .ok (.aload_n 0, 1) := by decide +kernel
theorem dX0_init_58 : decode cX0_init 58 = .ok (.iconst 4, 1) := by decide +kernel
theorem dX0_init_59 : decode cX0_init 59 = .ok (.newarray .int, 2) := by decide +kernel
theorem dX0_init_61 : decode cX0_init 61 = .ok (.putfield 33, 3) := by decide +kernel
theorem dX0_init_64 : decode cX0_init 64 = .ok (.aload_n 0, 1) := by decide +kernel
theorem dX0_init_65 : decode cX0_init 65 = .ok (.iconst 0, 1) := by decide +kernel
theorem dX0_init_66 : decode cX0_init 66 = .ok (.putfield 36, 3) := by decide +kernel
theorem dX0_init_69 : decode cX0_init 69 = .ok (.aload_n 0, 1) := by decide +kernel
theorem dX0_init_70 : decode cX0_init 70 = .ok (.iconst 2, 1) := by decide +kernel
theorem dX0_init_71 : decode cX0_init 71 = .ok (.putfield 40, 3) := by decide +kernel
theorem dX0_init_74 : decode cX0_init 74 = .ok (.aload_n 0, 1) := by decide +kernel
theorem dX0_init_75 : decode cX0_init 75 = .ok (.iconst 1, 1) := by decide +kernel
theorem dX0_init_76 : decode cX0_init 76 = .ok (.putfield 43, 3) := by decide +kernel
theorem dX0_init_79 : decode cX0_init 79 = .ok (.iconst 0, 1) := by decide +kernel
theorem dX0_init_80 : decode cX0_init 80 = .ok (.istore_n 1, 1) := by decide +kernel
theorem dX0_init_81 : decode cX0_init 81 = .ok (.iload_n 1, 1) := by decide +kernel
theorem dX0_init_82 : decode cX0_init 82 = .ok (.bipush 28, 2) := by decide +kernel
theorem dX0_init_84 : decode cX0_init 84 = .ok (.if_icmp .ge 27, 3) := by decide +kernel
theorem dX0_init_87 : decode cX0_init 87 = .ok (.aload_n 0, 1) := by decide +kernel
theorem dX0_init_88 : decode cX0_init 88 = .ok (.getfield 9, 3) := by decide +kernel
theorem dX0_init_91 : decode cX0_init 91 = .ok (.iload_n 1, 1) := by decide +kernel
theorem dX0_init_92 : decode cX0_init 92 = .ok (.iload_n 1, 1) := by decide +kernel
theorem dX0_init_93 : decode cX0_init 93 = .ok (.invokestatic 46, 3) := by decide +kernel
theorem dX0_init_96 : decode cX0_init 96 = .ok (.ifCond .eq 7, 3) := by decide +kernel
theorem dX0_init_99 : decode cX0_init 99 = .ok (.iconst 5, 1) := by decide +kernel
theorem dX0_init_100 : decode cX0_init 100 = .ok (.goto 4, 3) := by decide +kernel
theorem dX0_init_103 : decode cX0_init 103 = .ok (.iconst 0, 1) := by decide +kernel
theorem dX0_init_104 : decode cX0_init 104 = .ok (.iastore, 1) := by decide +kernel
theorem dX0_init_105 : decode cX0_init 105 = .ok (.iinc 1 1, 3) := by decide +kernel
theorem dX0_init_108 : decode cX0_init 108 = .ok (.goto (-27), 3) := by decide +kernel
theorem dX0_init_111 : decode cX0_init 111 = .ok (.aload_n 0, 1) := by decide +kernel
theorem dX0_init_112 : decode cX0_init 112 = .ok (.getfield 15, 3) := by decide +kernel
theorem dX0_init_115 : decode cX0_init 115 = .ok (.iconst (-1), 1) := by decide +kernel
theorem dX0_init_116 : decode cX0_init 116 = .ok (.invokestatic 52, 3) := by decide +kernel
theorem dX0_init_119 : decode cX0_init 119 = .ok (.aload_n 0, 1) := by decide +kernel
theorem dX0_init_120 : decode cX0_init 120 = .ok (.getfield 24, 3) := by decide +kernel
theorem dX0_init_123 : decode cX0_init 123 = .ok (.iconst 3, 1) := by decide +kernel
theorem dX0_init_124 : decode cX0_init 124 = .ok (.invokestatic 52, 3) := by decide +kernel
theorem dX0_init_127 : decode cX0_init 127 = .ok (.aload_n 0, 1) := by decide +kernel
theorem dX0_init_128 : decode cX0_init 128 = .ok (.getfield 27, 3) := by decide +kernel
theorem dX0_init_131 : decode cX0_init 131 = .ok (.ldc 58, 2) := by decide +kernel
theorem dX0_init_133 : decode cX0_init 133 = .ok (.invokestatic 52, 3) := by decide +kernel
theorem dX0_init_136 : decode cX0_init 136 = .ok (.iconst 0, 1) := by decide +kernel
theorem dX0_init_137 : decode cX0_init 137 = .ok (.istore_n 1, 1) := by decide +kernel
theorem dX0_init_138 : decode cX0_init 138 = .ok (.iload_n 1, 1) := by decide +kernel
theorem dX0_init_139 : decode cX0_init 139 = .ok (.iconst 4, 1) := by decide +kernel
theorem dX0_init_140 : decode cX0_init 140 = .ok (.if_icmp .ge 18, 3) := by decide +kernel
theorem dX0_init_143 : decode cX0_init 143 = .ok (.aload_n 0, 1) := by decide +kernel
theorem dX0_init_144 : decode cX0_init 144 = .ok (.getfield 30, 3) := by decide +kernel
theorem dX0_init_147 : decode cX0_init 147 = .ok (.iload_n 1, 1) := by decide +kernel
theorem dX0_init_148 : decode cX0_init 148 = .ok (.iconst 5, 1) := by decide +kernel
theorem dX0_init_149 : decode cX0_init 149 = .ok (.iload_n 1, 1) := by decide +kernel
theorem dX0_init_150 : decode cX0_init 150 = .ok (.imul, 1) := by decide +kernel
theorem dX0_init_151 : decode cX0_init 151 = .ok (.iastore, 1) := by decide +kernel
theorem dX0_init_152 : decode cX0_init 152 = .ok (.iinc 1 1, 3) := by decide +kernel
theorem dX0_init_155 : decode cX0_init 155 = .ok (.goto (-17), 3) := by decide +kernel
theorem dX0_init_158 : decode cX0_init 158 = .ok (.return_, 1) := by decide +kernel
theorem dX0_copyFrom_0 : decode cX0_copyFrom 0 = .ok (.aload_n 1, 1) := by decide +kernel
theorem dX0_copyFrom_1 : decode cX0_copyFrom 1 = .ok (.getfield 9, 3) := by decide +kernel
theorem dX0_copyFrom_4 : decode cX0_copyFrom 4 = .ok (.iconst 0, 1) := by decide +kernel
theorem dX0_copyFrom_5 : decode cX0_copyFrom 5 = .ok (.aload_n 0, 1) := by decide +kernel
theorem dX0_copyFrom_6 : decode cX0_copyFrom 6 = .ok (.getfield 9, 3) := by decide +kernel
theorem dX0_copyFrom_9 : decode cX0_copyFrom 9 = .ok (.iconst 0, 1) := by decide +kernel
theorem dX0_copyFrom_10 : decode cX0_copyFrom 10 = .ok (.bipush 28, 2) := by decide +kernel
theorem dX0_copyFrom_12 : decode cX0_copyFrom 12 = .ok (.invokestatic 59, 3) := by decide +kernel
theorem dX0_copyFrom_15 : decode cX0_copyFrom 15 = .ok (.aload_n 1, 1) := by decide +kernel
theorem dX0_copyFrom_16 : decode cX0_copyFrom 16 = .ok (.getfield 15, 3) := by decide +kernel
theorem dX0_copyFrom_19 : decode cX0_copyFrom 19 = .ok (.iconst 0, 1) := by decide +kernel
theorem dX0_copyFrom_20 : decode cX0_copyFrom 20 = .ok (.aload_n 0, 1) := by decide +kernel
theorem dX0_copyFrom_21 : decode cX0_copyFrom 21 = .ok (.getfield 15, 3) := by decide +kernel
theorem dX0_copyFrom_24 : decode cX0_copyFrom 24 = .ok (.iconst 0, 1) := by decide +kernel
theorem dX0_copyFrom_25 : decode cX0_copyFrom 25 = .ok (.bipush 28, 2) := by decide +kernel
theorem dX0_copyFrom_27 : decode cX0_copyFrom 27 = .ok (.invokestatic 59, 3) := by decide +kernel
theorem dX0_copyFrom_30 : decode cX0_copyFrom 30 = .ok (.aload_n 1, 1) := by decide +kernel
theorem dX0_copyFrom_31 : decode cX0_copyFrom 31 = .ok (.getfield 18, 3) := by decide +kernel
theorem dX0_copyFrom_34 : decode cX0_copyFrom 34 = .ok (.iconst 0, 1) := by decide +kernel
theorem dX0_copyFrom_35 : decode cX0_copyFrom 35 = .ok (.aload_n 0, 1) := by decide +kernel
theorem dX0_copyFrom_36 : decode cX0_copyFrom 36 = .ok (.getfield 18, 3) := by decide +kernel
theorem dX0_copyFrom_39 : decode cX0_copyFrom 39 = .ok (.iconst 0, 1) := by decide +kernel
theorem dX0_copyFrom_40 : decode cX0_copyFrom 40 = .ok (.bipush 28, 2) := by decide +kernel
theorem dX0_copyFrom_42 : decode cX0_copyFrom 42 = .ok (.invokestatic 59, 3) := by decide +kernel
theorem dX0_copyFrom_45 : decode cX0_copyFrom 45 = .ok (.aload_n 1, 1) := by decide +kernel
theorem dX0_copyFrom_46 : decode cX0_copyFrom 46 = .ok (.getfield 21, 3) := by decide +kernel
theorem dX0_copyFrom_49 : decode cX0_copyFrom 49 = .ok (.iconst 0, 1) := by decide +kernel
theorem dX0_copyFrom_50 : decode cX0_copyFrom 50 = .ok (.aload_n 0, 1) := by decide +kernel
theorem dX0_copyFrom_51 : decode cX0_copyFrom 51 = .ok (.getfield 21, 3) := by decide +kernel
theorem dX0_copyFrom_54 : decode cX0_copyFrom 54 = .ok (.iconst 0, 1) := by decide +kernel
theorem dX0_copyFrom_55 : decode cX0_copyFrom 55 = .ok (.bipush 28, 2) := by decide +kernel
theorem dX0_copyFrom_57 : decode cX0_copyFrom 57 = .ok (.invokestatic 59, 3) := by decide +kernel
theorem dX0_copyFrom_60 : decode cX0_copyFrom 60 = .ok (.aload_n 1, 1) := by decide +kernel
theorem dX0_copyFrom_61 : decode cX0_copyFrom 61 = .ok (.getfield 24, 3) := by decide +kernel
theorem dX0_copyFrom_64 : decode cX0_copyFrom 64 = .ok (.iconst 0, 1) := by decide +kernel
theorem dX0_copyFrom_65 : decode cX0_copyFrom 65 = .ok (.aload_n 0, 1) := by decide +kernel
theorem dX0_copyFrom_66 : decode cX0_copyFrom 66 = .ok (.getfield 24, 3) := by decide +kernel
theorem dX0_copyFrom_69 : decode cX0_copyFrom 69 = .ok (.iconst 0, 1) := by decide +kernel
theorem dX0_copyFrom_70 : decode cX0_copyFrom 70 = .ok (.iconst 4, 1) := by decide +kernel
theorem dX0_copyFrom_71 : decode cX0_copyFrom 71 = .ok (.invokestatic 59, 3) := by decide +kernel
theorem dX0_copyFrom_74 : decode cX0_copyFrom 74 = .ok (.aload_n 1, 1) := by decide +kernel
theorem dX0_copyFrom_75 : decode cX0_copyFrom 75 = .ok (.getfield 27, 3) := by decide +kernel
theorem dX0_copyFrom_78 : decode cX0_copyFrom 78 = .ok (.iconst 0, 1) := by decide +kernel
theorem dX0_copyFrom_79 : decode cX0_copyFrom 79 = .ok (.aload_n 0, 1) := by decide +kernel
theorem dX0_copyFrom_80 : decode cX0_copyFrom 80 = .ok (.getfield 27, 3) := by decide +kernel
theorem dX0_copyFrom_83 : decode cX0_copyFrom 83 = .ok (.iconst 0, 1) := by decide +kernel
theorem dX0_copyFrom_84 : decode cX0_copyFrom 84 = .ok (.iconst 4, 1) := by decide +kernel
theorem dX0_copyFrom_85 : decode cX0_copyFrom 85 = .ok (.invokestatic 59, 3) := by decide +kernel
theorem dX0_copyFrom_88 : decode cX0_copyFrom 88 = .ok (.aload_n 1, 1) := by decide +kernel
theorem dX0_copyFrom_89 : decode cX0_copyFrom 89 = .ok (.getfield 30, 3) := by decide +kernel
theorem dX0_copyFrom_92 : decode cX0_copyFrom 92 = .ok (.iconst 0, 1) := by decide +kernel
theorem dX0_copyFrom_93 : decode cX0_copyFrom 93 = .ok (.aload_n 0, 1) := by decide +kernel
theorem dX0_copyFrom_94 : decode cX0_copyFrom 94 = .ok (.getfield 30, 3) := by decide +kernel
theorem dX0_copyFrom_97 : decode cX0_copyFrom 97 = .ok (.iconst 0, 1) := by decide +kernel
theorem dX0_copyFrom_98 : decode cX0_copyFrom 98 = .ok (.iconst 4, 1) := by decide +kernel
theorem dX0_copyFrom_99 : decode cX0_copyFrom 99 = .ok (.invokestatic 59, 3) := by decide +kernel
theorem dX0_copyFrom_102 : decode cX0_copyFrom 102 = .ok (.aload_n 1, 1) := by decide +kernel
theorem dX0_copyFrom_103 : decode cX0_copyFrom 103 = .ok (.getfield 33, 3) := by decide +kernel
theorem dX0_copyFrom_106 : decode cX0_copyFrom 106 = .ok (.iconst 0, 1) := by decide +kernel
theorem dX0_copyFrom_107 : decode cX0_copyFrom 107 = .ok (.aload_n 0, 1) := by decide +kernel
theorem dX0_copyFrom_108 : decode cX0_copyFrom 108 = .ok (.getfield 33, 3) := by decide +kernel
theorem dX0_copyFrom_111 : decode cX0_copyFrom 111 = .ok (.iconst 0, 1) := by decide +kernel
theorem dX0_copyFrom_112 : decode cX0_copyFrom 112 = .ok (.iconst 4, 1) := by decide +kernel
theorem dX0_copyFrom_113 : decode cX0_copyFrom 113 = .ok (.invokestatic 59, 3) := by decide +kernel
theorem dX0_copyFrom_116 : decode cX0_copyFrom 116 = .ok (.aload_n 0, 1) := by decide +kernel
theorem dX0_copyFrom_117 : decode cX0_copyFrom 117 = .ok (.aload_n 1, 1) := by decide +kernel
theorem dX0_copyFrom_118 : decode cX0_copyFrom 118 = .ok (.getfield 65, 3) := by decide +kernel
theorem dX0_copyFrom_121 : decode cX0_copyFrom 121 = .ok (.putfield 65, 3) := by decide +kernel
theorem dX0_copyFrom_124 : decode cX0_copyFrom 124 = .ok (.aload_n 0, 1) := by decide +kernel
theorem dX0_copyFrom_125 : decode cX0_copyFrom 125 = .ok (.aload_n 1, 1) := by decide +kernel
theorem dX0_copyFrom_126 : decode cX0_copyFrom 126 = .ok (.getfield 68, 3) := by decide +kernel
theorem dX0_copyFrom_129 : decode cX0_copyFrom 129 = .ok (.putfield 68, 3) := by decide +kernel
theorem dX0_copyFrom_132 : decode cX0_copyFrom 132 = .ok (.aload_n 0, 1) := by decide +kernel
theorem dX0_copyFrom_133 : decode cX0_copyFrom 133 = .ok (.aload_n 1, 1) := by decide +kernel
theorem dX0_copyFrom_134 : decode cX0_copyFrom 134 = .ok (.getfield 71, 3) := by decide +kernel
theorem dX0_copyFrom_137 : decode cX0_copyFrom 137 = .ok (.putfield 71, 3) := by decide +kernel
theorem dX0_copyFrom_140 : decode cX0_copyFrom 140 = .ok (.aload_n 0, 1) := by decide +kernel
theorem dX0_copyFrom_141 : decode cX0_copyFrom 141 = .ok (.aload_n 1, 1) := by decide +kernel
theorem dX0_copyFrom_142 : decode cX0_copyFrom 142 = .ok (.getfield 36, 3) := by decide +kernel
theorem dX0_copyFrom_145 : decode cX0_copyFrom 145 = .ok (.putfield 36, 3) := by decide +kernel
theorem dX0_copyFrom_148 : decode cX0_copyFrom 148 = .ok (.aload_n 0, 1) := by decide +kernel
theorem dX0_copyFrom_149 : decode cX0_copyFrom 149 = .ok (.aload_n 1, 1) := by decide +kernel
theorem dX0_copyFrom_150 : decode cX0_copyFrom 150 = .ok (.getfield 40, 3) := by decide +kernel
theorem dX0_copyFrom_153 : decode cX0_copyFrom 153 = .ok (.putfield 40, 3) := by decide +kernel
theorem dX0_copyFrom_156 : decode cX0_copyFrom 156 = .ok (.aload_n 0, 1) := by decide +kernel
theorem dX0_copyFrom_157 : decode cX0_copyFrom 157 = .ok (.aload_n 1, 1) := by decide +kernel
theorem dX0_copyFrom_158 : decode cX0_copyFrom 158 = .ok (.getfield 74, 3) := by decide +kernel
theorem dX0_copyFrom_161 : decode cX0_copyFrom 161 = .ok (.putfield 74, 3) := by decide +kernel
theorem dX0_copyFrom_164 : decode cX0_copyFrom 164 = .ok (.aload_n 0, 1) := by decide +kernel
theorem dX0_copyFrom_165 : decode cX0_copyFrom 165 = .ok (.aload_n 1, 1) := by decide +kernel
theorem dX0_copyFrom_166 : decode cX0_copyFrom 166 = .ok (.getfield 43, 3) := by decide +kernel
theorem dX0_copyFrom_169 : decode cX0_copyFrom 169 = .ok (.putfield 43, 3) := by decide +kernel
theorem dX0_copyFrom_172 : decode cX0_copyFrom 172 = .ok (.aload_n 0, 1) := by decide +kernel
theorem dX0_copyFrom_173 : decode cX0_copyFrom 173 = .ok (.aload_n 1, 1) := by decide +kernel
theorem dX0_copyFrom_174 : decode cX0_copyFrom 174 = .ok (.getfield 77, 3) := by decide +kernel
theorem dX0_copyFrom_177 : decode cX0_copyFrom 177 = .ok (.putfield 77, 3) := by decide +kernel
theorem dX0_copyFrom_180 : decode cX0_copyFrom 180 = .ok (.aload_n 0, 1) := by decide +kernel
theorem dX0_copyFrom_181 : decode cX0_copyFrom 181 = .ok (.aload_n 1, 1) := by decide +kernel
theorem dX0_copyFrom_182 : decode cX0_copyFrom 182 = .ok (.getfield 80, 3) := by decide +kernel
theorem dX0_copyFrom_185 : decode cX0_copyFrom 185 = .ok (.putfield 80, 3) := by decide +kernel
theorem dX0_copyFrom_188 : decode cX0_copyFrom 188 = .ok (.aload_n 0, 1) := by decide +kernel
theorem dX0_copyFrom_189 : decode cX0_copyFrom 189 = .ok (.aload_n 1, 1) := by decide +kernel
theorem dX0_copyFrom_190 : decode cX0_copyFrom 190 = .ok (.getfield 83, 3) := by decide +kernel
theorem dX0_copyFrom_193 : decode cX0_copyFrom 193 = .ok (.putfield 83, 3) := by decide +kernel
theorem dX0_copyFrom_196 : decode cX0_copyFrom 196 = .ok (.aload_n 0, 1) := by decide +kernel
theorem dX0_copyFrom_197 : decode cX0_copyFrom 197 = .ok (.aload_n 1, 1) := by decide +kernel
theorem dX0_copyFrom_198 : decode cX0_copyFrom 198 = .ok (.getfield 86, 3) := by decide +kernel
theorem dX0_copyFrom_201 : decode cX0_copyFrom 201 = .ok (.putfield 86, 3) := by decide +kernel
theorem dX0_copyFrom_204 : decode cX0_copyFrom 204 = .ok (.return_, 1) := by decide +kernel
theorem dX0_letBear_0 : decode cX0_letBear 0 = .ok (.aload_n 0, 1) := by decide +kernel
theorem dX0_letBear_1 : decode cX0_letBear 1 = .ok (.getfield 9, 3) := by decide +kernel
theorem dX0_letBear_4 : decode cX0_letBear 4 = .ok (.iload_n 1, 1) := by decide +kernel
theorem dX0_letBear_5 : decode cX0_letBear 5 = .ok (.iload_n 2, 1) := by decide +kernel
theorem dX0_letBear_6 : decode cX0_letBear 6 = .ok (.iastore, 1) := by decide +kernel
theorem dX0_letBear_7 : decode cX0_letBear 7 = .ok (.iload_n 2, 1) := by decide +kernel
theorem dX0_letBear_8 : decode cX0_letBear 8 = .ok (.ifCond .ne 28, 3) := by decide +kernel
theorem dX0_letBear_11 : decode cX0_letBear 11 = .ok (.aload_n 0, 1) := by decide +kernel
theorem dX0_letBear_12 : decode cX0_letBear 12 = .ok (.iload_n 1, 1) := by decide +kernel
theorem dX0_letBear_13 : decode cX0_letBear 13 = .ok (.invokevirtual 89, 3) := by decide +kernel
theorem dX0_letBear_16 : decode cX0_letBear 16 = .ok (.ifCond .eq 20, 3) := by decide +kernel
theorem dX0_letBear_19 : decode cX0_letBear 19 = .ok (.aload_n 0, 1) := by decide +kernel
theorem dX0_letBear_20 : decode cX0_letBear 20 = .ok (.getfield 15, 3) := by decide +kernel
theorem dX0_letBear_23 : decode cX0_letBear 23 = .ok (.iload_n 1, 1) := by decide +kernel
theorem dX0_letBear_24 : decode cX0_letBear 24 = .ok (.iconst (-1), 1) := by decide +kernel
theorem dX0_letBear_25 : decode cX0_letBear 25 = .ok (.iastore, 1) := by decide +kernel
theorem dX0_letBear_26 : decode cX0_letBear 26 = .ok (.aload_n 0, 1) := by decide +kernel
theorem dX0_letBear_27 : decode cX0_letBear 27 = .ok (.dup, 1) := by decide +kernel
theorem dX0_letBear_28 : decode cX0_letBear 28 = .ok (.getfield 83, 3) := by decide +kernel
theorem dX0_letBear_31 : decode cX0_letBear 31 = .ok (.iconst 1, 1) := by decide +kernel
theorem dX0_letBear_32 : decode cX0_letBear 32 = .ok (.iadd, 1) := by decide +kernel
theorem dX0_letBear_33 : decode cX0_letBear 33 = .ok (.putfield 83, 3) := by decide +kernel
theorem dX0_letBear_36 : decode cX0_letBear 36 = .ok (.return_, 1) := by decide +kernel
theorem dX0_toggleChimney_0 : decode cX0_toggleChimney 0 = .ok (.aload_n 0, 1) := by decide +kernel
theorem dX0_toggleChimney_1 : decode cX0_toggleChimney 1 = .ok (.dup, 1) := by decide +kernel
theorem dX0_toggleChimney_2 : decode cX0_toggleChimney 2 = .ok (.getfield 68, 3) := by decide +kernel
theorem dX0_toggleChimney_5 : decode cX0_toggleChimney 5 = .ok (.iconst 1, 1) := by decide +kernel
theorem dX0_toggleChimney_6 : decode cX0_toggleChimney 6 = .ok (.iload_n 1, 1) := by decide +kernel
theorem dX0_toggleChimney_7 : decode cX0_toggleChimney 7 = .ok (.ishl, 1) := by decide +kernel
theorem dX0_toggleChimney_8 : decode cX0_toggleChimney 8 = .ok (.ixor, 1) := by decide +kernel
theorem dX0_toggleChimney_9 : decode cX0_toggleChimney 9 = .ok (.putfield 68, 3) := by decide +kernel
theorem dX0_toggleChimney_12 : decode cX0_toggleChimney 12 = .ok (.return_, 1) := by decide +kernel
theorem dX0_setTruce_0 : decode cX0_setTruce 0 = .ok (.aload_n 0, 1) := by decide +kernel
theorem dX0_setTruce_1 : decode cX0_setTruce 1 = .ok (.iload_n 2, 1) := by decide +kernel
theorem dX0_setTruce_2 : decode cX0_setTruce 2 = .ok (.ifCond .eq 14, 3) := by decide +kernel
theorem dX0_setTruce_5 : decode cX0_setTruce 5 = .ok (.aload_n 0, 1) := by decide +kernel
theorem dX0_setTruce_6 : decode cX0_setTruce 6 = .ok (.getfield 65, 3) := by decide +kernel
theorem dX0_setTruce_9 : decode cX0_setTruce 9 = .ok (.iconst 1, 1) := by decide +kernel
theorem dX0_setTruce_10 : decode cX0_setTruce 10 = .ok (.iload_n 1, 1) := by decide +kernel
theorem dX0_setTruce_11 : decode cX0_setTruce 11 = .ok (.ishl, 1) := by decide +kernel
theorem dX0_setTruce_12 : decode cX0_setTruce 12 = .ok (.ior, 1) := by decide +kernel
theorem dX0_setTruce_13 : decode cX0_setTruce 13 = .ok (.goto 13, 3) := by decide +kernel
theorem dX0_setTruce_16 : decode cX0_setTruce 16 = .ok (.aload_n 0, 1) := by decide +kernel
theorem dX0_setTruce_17 : decode cX0_setTruce 17 = .ok (.getfield 65, 3) := by decide +kernel
theorem dX0_setTruce_20 : decode cX0_setTruce 20 = .ok (.iconst 1, 1) := by decide +kernel
theorem dX0_setTruce_21 : decode cX0_setTruce 21 = .ok (.iload_n 1, 1) := by decide +kernel
theorem dX0_setTruce_22 : decode cX0_setTruce 22 = .ok (.ishl, 1) := by decide +kernel
theorem dX0_setTruce_23 : decode cX0_setTruce 23 = .ok (.iconst (-1), 1) := by decide +kernel
theorem dX0_setTruce_24 : decode cX0_setTruce 24 = .ok (.ixor, 1) := by decide +kernel
theorem dX0_setTruce_25 : decode cX0_setTruce 25 = .ok (.iand, 1) := by decide +kernel
theorem dX0_setTruce_26 : decode cX0_setTruce 26 = .ok (.putfield 65, 3) := by decide +kernel
theorem dX0_setTruce_29 : decode cX0_setTruce 29 = .ok (.return_, 1) := by decide +kernel
theorem dX0_hasLine_0 : decode cX0_hasLine 0 = .ok (.aload_n 0, 1) := by decide +kernel
theorem dX0_hasLine_1 : decode cX0_hasLine 1 = .ok (.getfield 15, 3) := by decide +kernel
theorem dX0_hasLine_4 : decode cX0_hasLine 4 = .ok (.iload_n 1, 1) := by decide +kernel
theorem dX0_hasLine_5 : decode cX0_hasLine 5 = .ok (.iaload, 1) := by decide +kernel
theorem dX0_hasLine_6 : decode cX0_hasLine 6 = .ok (.iconst (-1), 1) := by decide +kernel
theorem dX0_hasLine_7 : decode cX0_hasLine 7 = .ok (.if_icmp .eq 7, 3) := by decide +kernel
theorem dX0_hasLine_10 : decode cX0_hasLine 10 = .ok (.iconst 1, 1) := by decide +kernel
theorem dX0_hasLine_11 : decode cX0_hasLine 11 = .ok (.goto 4, 3) := by decide +kernel
theorem dX0_hasLine_14 : decode cX0_hasLine 14 = .ok (.iconst 0, 1) := by decide +kernel
theorem dX0_hasLine_15 : decode cX0_hasLine 15 = .ok (.ireturn, 1) := by decide +kernel
theorem dX0_isThere_0 : decode cX0_isThere 0 = .ok (.aload_n 0, 1) := by decide +kernel
theorem dX0_isThere_1 : decode cX0_isThere 1 = .ok (.getfield 9, 3) := by decide +kernel
theorem dX0_isThere_4 : decode cX0_isThere 4 = .ok (.iload_n 1, 1) := by decide +kernel
theorem dX0_isThere_5 : decode cX0_isThere 5 = .ok (.iaload, 1) := by decide +kernel
theorem dX0_isThere_6 : decode cX0_isThere 6 = .ok (.ifCond .le 7, 3) := by decide +kernel
theorem dX0_isThere_9 : decode cX0_isThere 9 = .ok (.iconst 1, 1) := by decide +kernel
theorem dX0_isThere_10 : decode cX0_isThere 10 = .ok (.goto 4, 3) := by decide +kernel
theorem dX0_isThere_13 : decode cX0_isThere 13 = .ok (.iconst 0, 1) := by decide +kernel
theorem dX0_isThere_14 : decode cX0_isThere 14 = .ok (.ireturn, 1) := by decide +kernel
theorem dX0_smokeBlown_0 : decode cX0_smokeBlown 0 = .ok (.iconst 0, 1) := by decide +kernel
theorem dX0_smokeBlown_1 : decode cX0_smokeBlown 1 = .ok (.istore_n 2, 1) := by decide +kernel
theorem dX0_smokeBlown_2 : decode cX0_smokeBlown 2 = .ok (.iconst 0, 1) := by decide +kernel
theorem dX0_smokeBlown_3 : decode cX0_smokeBlown 3 = .ok (.istore_n 3, 1) := by decide +kernel
theorem dX0_smokeBlown_4 : decode cX0_smokeBlown 4 = .ok (.iload_n 3, 1) := by decide +kernel
theorem dX0_smokeBlown_5 : decode cX0_smokeBlown 5 = .ok (.bipush 16, 2) := by decide +kernel
theorem dX0_smokeBlown_7 : decode cX0_smokeBlown 7 = .ok (.if_icmp .ge 32, 3) := by decide +kernel
theorem dX0_smokeBlown_10 : decode cX0_smokeBlown 10 = .ok (.aload_n 0, 1) := by decide +kernel
theorem dX0_smokeBlown_11 : decode cX0_smokeBlown 11 = .ok (.getfield 68, 3) := by decide +kernel
theorem dX0_smokeBlown_14 : decode cX0_smokeBlown 14 = .ok (.iload_n 3, 1) := by decide +kernel
theorem dX0_smokeBlown_15 : decode cX0_smokeBlown 15 = .ok (.invokestatic 92, 3) := by decide +kernel
theorem dX0_smokeBlown_18 : decode cX0_smokeBlown 18 = .ok (.ifCond .eq 15, 3) := by decide +kernel
theorem dX0_smokeBlown_21 : decode cX0_smokeBlown 21 = .ok (.iload_n 2, 1) := by decide +kernel
theorem dX0_smokeBlown_22 : decode cX0_smokeBlown 22 = .ok (.iload_n 3, 1) := by decide +kernel
theorem dX0_smokeBlown_23 : decode cX0_smokeBlown 23 = .ok (.iload_n 1, 1) := by decide +kernel
theorem dX0_smokeBlown_24 : decode cX0_smokeBlown 24 = .ok (.aload_n 0, 1) := by decide +kernel
theorem dX0_smokeBlown_25 : decode cX0_smokeBlown 25 = .ok (.getfield 40, 3) := by decide +kernel
theorem dX0_smokeBlown_28 : decode cX0_smokeBlown 28 = .ok (.invokestatic 96, 3) := by decide +kernel
theorem dX0_smokeBlown_31 : decode cX0_smokeBlown 31 = .ok (.ior, 1) := by decide +kernel
theorem dX0_smokeBlown_32 : decode cX0_smokeBlown 32 = .ok (.istore_n 2, 1) := by decide +kernel
theorem dX0_smokeBlown_33 : decode cX0_smokeBlown 33 = .ok (.iinc 3 1, 3) := by decide +kernel
theorem dX0_smokeBlown_36 : decode cX0_smokeBlown 36 = .ok (.goto (-32), 3) := by decide +kernel
theorem dX0_smokeBlown_39 : decode cX0_smokeBlown 39 = .ok (.iload_n 2, 1) := by decide +kernel
theorem dX0_smokeBlown_40 : decode cX0_smokeBlown 40 = .ok (.ireturn, 1) := by decide +kernel
theorem dX0_chimneysSmoking_0 : decode cX0_chimneysSmoking 0 = .ok (.iconst 0, 1) := by decide +kernel
theorem dX0_chimneysSmoking_1 : decode cX0_chimneysSmoking 1 = .ok (.istore_n 2, 1) := by decide +kernel
theorem dX0_chimneysSmoking_2 : decode cX0_chimneysSmoking 2 = .ok (.iconst 0, 1) := by decide +kernel
theorem dX0_chimneysSmoking_3 : decode cX0_chimneysSmoking 3 = .ok (.istore_n 3, 1) := by decide +kernel
theorem dX0_chimneysSmoking_4 : decode cX0_chimneysSmoking 4 = .ok (.iload_n 3, 1) := by decide +kernel
theorem dX0_chimneysSmoking_5 : decode cX0_chimneysSmoking 5 = .ok (.bipush 16, 2) := by decide +kernel
theorem dX0_chimneysSmoking_7 : decode cX0_chimneysSmoking 7 = .ok (.if_icmp .ge 42, 3) := by decide +kernel
theorem dX0_chimneysSmoking_10 : decode cX0_chimneysSmoking 10 = .ok (.aload_n 0, 1) := by decide +kernel
theorem dX0_chimneysSmoking_11 : decode cX0_chimneysSmoking 11 = .ok (.getfield 68, 3) := by decide +kernel
theorem dX0_chimneysSmoking_14 : decode cX0_chimneysSmoking 14 = .ok (.iload_n 3, 1) := by decide +kernel
theorem dX0_chimneysSmoking_15 : decode cX0_chimneysSmoking 15 = .ok (.invokestatic 92, 3) := by decide +kernel
theorem dX0_chimneysSmoking_18 : decode cX0_chimneysSmoking 18 = .ok (.ifCond .eq 25, 3) := by decide +kernel
theorem dX0_chimneysSmoking_21 : decode cX0_chimneysSmoking 21 = .ok (.iload_n 3, 1) := by decide +kernel
theorem dX0_chimneysSmoking_22 : decode cX0_chimneysSmoking 22 = .ok (.aload_n 0, 1) := by decide +kernel
theorem dX0_chimneysSmoking_23 : decode cX0_chimneysSmoking 23 = .ok (.getfield 36, 3) := by decide +kernel
theorem dX0_chimneysSmoking_26 : decode cX0_chimneysSmoking 26 = .ok (.aload_n 0, 1) := by decide +kernel
theorem dX0_chimneysSmoking_27 : decode cX0_chimneysSmoking 27 = .ok (.getfield 40, 3) := by decide +kernel
theorem dX0_chimneysSmoking_30 : decode cX0_chimneysSmoking 30 = .ok (.invokestatic 96, 3) := by decide +kernel
theorem dX0_chimneysSmoking_33 : decode cX0_chimneysSmoking 33 = .ok (.iload_n 1, 1) := by decide +kernel
theorem dX0_chimneysSmoking_34 : decode cX0_chimneysSmoking 34 = .ok (.invokestatic 92, 3) := by decide +kernel
theorem dX0_chimneysSmoking_37 : decode cX0_chimneysSmoking 37 = .ok (.ifCond .eq 6, 3) := by decide +kernel
theorem dX0_chimneysSmoking_40 : decode cX0_chimneysSmoking 40 = .ok (.iinc 2 1, 3) := by decide +kernel
theorem dX0_chimneysSmoking_43 : decode cX0_chimneysSmoking 43 = .ok (.iinc 3 1, 3) := by decide +kernel
theorem dX0_chimneysSmoking_46 : decode cX0_chimneysSmoking 46 = .ok (.goto (-42), 3) := by decide +kernel
theorem dX0_chimneysSmoking_49 : decode cX0_chimneysSmoking 49 = .ok (.iload_n 2, 1) := by decide +kernel
theorem dX0_chimneysSmoking_50 : decode cX0_chimneysSmoking 50 = .ok (.ireturn, 1) := by decide +kernel
theorem dX0_windsSmoking_0 : decode cX0_windsSmoking 0 = .ok (.iconst 0, 1) := by decide +kernel
theorem dX0_windsSmoking_1 : decode cX0_windsSmoking 1 = .ok (.istore_n 2, 1) := by decide +kernel
theorem dX0_windsSmoking_2 : decode cX0_windsSmoking 2 = .ok (.iconst 0, 1) := by decide +kernel
theorem dX0_windsSmoking_3 : decode cX0_windsSmoking 3 = .ok (.istore_n 3, 1) := by decide +kernel
theorem dX0_windsSmoking_4 : decode cX0_windsSmoking 4 = .ok (.iload_n 3, 1) := by decide +kernel
theorem dX0_windsSmoking_5 : decode cX0_windsSmoking 5 = .ok (.iconst 4, 1) := by decide +kernel
theorem dX0_windsSmoking_6 : decode cX0_windsSmoking 6 = .ok (.if_icmp .ge 25, 3) := by decide +kernel
theorem dX0_windsSmoking_9 : decode cX0_windsSmoking 9 = .ok (.aload_n 0, 1) := by decide +kernel
theorem dX0_windsSmoking_10 : decode cX0_windsSmoking 10 = .ok (.iload_n 3, 1) := by decide +kernel
theorem dX0_windsSmoking_11 : decode cX0_windsSmoking 11 = .ok (.invokevirtual 100, 3) := by decide +kernel
theorem dX0_windsSmoking_14 : decode cX0_windsSmoking 14 = .ok (.iload_n 1, 1) := by decide +kernel
theorem dX0_windsSmoking_15 : decode cX0_windsSmoking 15 = .ok (.invokestatic 104, 3) := by decide +kernel
theorem dX0_windsSmoking_18 : decode cX0_windsSmoking 18 = .ok (.iand, 1) := by decide +kernel
theorem dX0_windsSmoking_19 : decode cX0_windsSmoking 19 = .ok (.ifCond .eq 6, 3) := by decide +kernel
theorem dX0_windsSmoking_22 : decode cX0_windsSmoking 22 = .ok (.iinc 2 1, 3) := by decide +kernel
theorem dX0_windsSmoking_25 : decode cX0_windsSmoking 25 = .ok (.iinc 3 1, 3) := by decide +kernel
theorem dX0_windsSmoking_28 : decode cX0_windsSmoking 28 = .ok (.goto (-24), 3) := by decide +kernel
theorem dX0_windsSmoking_31 : decode cX0_windsSmoking 31 = .ok (.iload_n 2, 1) := by decide +kernel
theorem dX0_windsSmoking_32 : decode cX0_windsSmoking 32 = .ok (.ireturn, 1) := by decide +kernel
theorem dX0_isNearCoop_0 : decode cX0_isNearCoop 0 = .ok (.iload_n 1, 1) := by decide +kernel
theorem dX0_isNearCoop_1 : decode cX0_isNearCoop 1 = .ok (.invokestatic 107, 3) := by decide +kernel
theorem dX0_isNearCoop_4 : decode cX0_isNearCoop 4 = .ok (.invokestatic 110, 3) := by decide +kernel
theorem dX0_isNearCoop_7 : decode cX0_isNearCoop 7 = .ok (.iload_n 1, 1) := by decide +kernel
theorem dX0_isNearCoop_8 : decode cX0_isNearCoop 8 = .ok (.invokestatic 113, 3) := by decide +kernel
theorem dX0_isNearCoop_11 : decode cX0_isNearCoop 11 = .ok (.invokestatic 110, 3) := by decide +kernel
theorem dX0_isNearCoop_14 : decode cX0_isNearCoop 14 = .ok (.ior, 1) := by decide +kernel
theorem dX0_isNearCoop_15 : decode cX0_isNearCoop 15 = .ok (.istore_n 2, 1) := by decide +kernel
theorem dX0_isNearCoop_16 : decode cX0_isNearCoop 16 = .ok (.aload_n 0, 1) := by decide +kernel
theorem dX0_isNearCoop_17 : decode cX0_isNearCoop 17 = .ok (.getfield 71, 3) := by decide +kernel
theorem dX0_isNearCoop_20 : decode cX0_isNearCoop 20 = .ok (.iload_n 2, 1) := by decide +kernel
theorem dX0_isNearCoop_21 : decode cX0_isNearCoop 21 = .ok (.iand, 1) := by decide +kernel
theorem dX0_isNearCoop_22 : decode cX0_isNearCoop 22 = .ok (.ifCond .eq 7, 3) := by decide +kernel
theorem dX0_isNearCoop_25 : decode cX0_isNearCoop 25 = .ok (.iconst 1, 1) := by decide +kernel
theorem dX0_isNearCoop_26 : decode cX0_isNearCoop 26 = .ok (.goto 4, 3) := by decide +kernel
theorem dX0_isNearCoop_29 : decode cX0_isNearCoop 29 = .ok (.iconst 0, 1) := by decide +kernel
theorem dX0_isNearCoop_30 : decode cX0_isNearCoop 30 = .ok (.ireturn, 1) := by decide +kernel
theorem dX0_reasonNotToHang_0 : decode cX0_reasonNotToHang 0 = .ok (.iload_n 2, 1) := by decide +kernel
theorem dX0_reasonNotToHang_1 : decode cX0_reasonNotToHang 1 = .ok (.invokestatic 104, 3) := by decide +kernel
theorem dX0_reasonNotToHang_4 : decode cX0_reasonNotToHang 4 = .ok (.istore_n 3, 1) := by decide +kernel
theorem dX0_reasonNotToHang_5 : decode cX0_reasonNotToHang 5 = .ok (.aload_n 0, 1) := by decide +kernel
theorem dX0_reasonNotToHang_6 : decode cX0_reasonNotToHang 6 = .ok (.iload_n 2, 1) := by decide +kernel
theorem dX0_reasonNotToHang_7 : decode cX0_reasonNotToHang 7 = .ok (.invokevirtual 116, 3) := by decide +kernel
theorem dX0_reasonNotToHang_10 : decode cX0_reasonNotToHang 10 = .ok (.ifCond .ne 5, 3) := by decide +kernel
theorem dX0_reasonNotToHang_13 : decode cX0_reasonNotToHang 13 = .ok (.iconst 1, 1) := by decide +kernel
theorem dX0_reasonNotToHang_14 : decode cX0_reasonNotToHang 14 = .ok (.ireturn, 1) := by decide +kernel
theorem dX0_reasonNotToHang_15 : decode cX0_reasonNotToHang 15 = .ok (.aload_n 0, 1) := by decide +kernel
theorem dX0_reasonNotToHang_16 : decode cX0_reasonNotToHang 16 = .ok (.iload_n 2, 1) := by decide +kernel
theorem dX0_reasonNotToHang_17 : decode cX0_reasonNotToHang 17 = .ok (.invokevirtual 89, 3) := by decide +kernel
theorem dX0_reasonNotToHang_20 : decode cX0_reasonNotToHang 20 = .ok (.ifCond .eq 5, 3) := by decide +kernel
theorem dX0_reasonNotToHang_23 : decode cX0_reasonNotToHang 23 = .ok (.iconst 2, 1) := by decide +kernel
theorem dX0_reasonNotToHang_24 : decode cX0_reasonNotToHang 24 = .ok (.ireturn, 1) := by decide +kernel
theorem dX0_reasonNotToHang_25 : decode cX0_reasonNotToHang 25 = .ok (.aload_n 0, 1) := by decide +kernel
theorem dX0_reasonNotToHang_26 : decode cX0_reasonNotToHang 26 = .ok (.getfield 27, 3) := by decide +kernel
theorem dX0_reasonNotToHang_29 : decode cX0_reasonNotToHang 29 = .ok (.iload_n 1, 1) := by decide +kernel
theorem dX0_reasonNotToHang_30 : decode cX0_reasonNotToHang 30 = .ok (.iaload, 1) := by decide +kernel
theorem dX0_reasonNotToHang_31 : decode cX0_reasonNotToHang 31 = .ok (.iload_n 3, 1) := by decide +kernel
theorem dX0_reasonNotToHang_32 : decode cX0_reasonNotToHang 32 = .ok (.iand, 1) := by decide +kernel
theorem dX0_reasonNotToHang_33 : decode cX0_reasonNotToHang 33 = .ok (.iload_n 3, 1) := by decide +kernel
theorem dX0_reasonNotToHang_34 : decode cX0_reasonNotToHang 34 = .ok (.if_icmp .eq 5, 3) := by decide +kernel
theorem dX0_reasonNotToHang_37 : decode cX0_reasonNotToHang 37 = .ok (.iconst 3, 1) := by decide +kernel
theorem dX0_reasonNotToHang_38 : decode cX0_reasonNotToHang 38 = .ok (.ireturn, 1) := by decide +kernel
theorem dX0_reasonNotToHang_39 : decode cX0_reasonNotToHang 39 = .ok (.aload_n 0, 1) := by decide +kernel
theorem dX0_reasonNotToHang_40 : decode cX0_reasonNotToHang 40 = .ok (.aload_n 0, 1) := by decide +kernel
theorem dX0_reasonNotToHang_41 : decode cX0_reasonNotToHang 41 = .ok (.getfield 36, 3) := by decide +kernel
theorem dX0_reasonNotToHang_44 : decode cX0_reasonNotToHang 44 = .ok (.invokevirtual 100, 3) := by decide +kernel
theorem dX0_reasonNotToHang_47 : decode cX0_reasonNotToHang 47 = .ok (.iload_n 3, 1) := by decide +kernel
theorem dX0_reasonNotToHang_48 : decode cX0_reasonNotToHang 48 = .ok (.iand, 1) := by decide +kernel
theorem dX0_reasonNotToHang_49 : decode cX0_reasonNotToHang 49 = .ok (.ifCond .eq 5, 3) := by decide +kernel
theorem dX0_reasonNotToHang_52 : decode cX0_reasonNotToHang 52 = .ok (.iconst 4, 1) := by decide +kernel
theorem dX0_reasonNotToHang_53 : decode cX0_reasonNotToHang 53 = .ok (.ireturn, 1) := by decide +kernel
theorem dX0_reasonNotToHang_54 : decode cX0_reasonNotToHang 54 = .ok (.aload_n 0, 1) := by decide +kernel
theorem dX0_reasonNotToHang_55 : decode cX0_reasonNotToHang 55 = .ok (.getfield 65, 3) := by decide +kernel
theorem dX0_reasonNotToHang_58 : decode cX0_reasonNotToHang 58 = .ok (.iload_n 1, 1) := by decide +kernel
theorem dX0_reasonNotToHang_59 : decode cX0_reasonNotToHang 59 = .ok (.invokestatic 92, 3) := by decide +kernel
theorem dX0_reasonNotToHang_62 : decode cX0_reasonNotToHang 62 = .ok (.ifCond .ne 13, 3) := by decide +kernel
theorem dX0_reasonNotToHang_65 : decode cX0_reasonNotToHang 65 = .ok (.aload_n 0, 1) := by decide +kernel
theorem dX0_reasonNotToHang_66 : decode cX0_reasonNotToHang 66 = .ok (.iload_n 2, 1) := by decide +kernel
theorem dX0_reasonNotToHang_67 : decode cX0_reasonNotToHang 67 = .ok (.invokevirtual 119, 3) := by decide +kernel
theorem dX0_reasonNotToHang_70 : decode cX0_reasonNotToHang 70 = .ok (.ifCond .eq 5, 3) := by decide +kernel
theorem dX0_reasonNotToHang_73 : decode cX0_reasonNotToHang 73 = .ok (.iconst 5, 1) := by decide +kernel
theorem dX0_reasonNotToHang_74 : decode cX0_reasonNotToHang 74 = .ok (.ireturn, 1) := by decide +kernel
theorem dX0_reasonNotToHang_75 : decode cX0_reasonNotToHang 75 = .ok (.iconst 0, 1) := by decide +kernel
theorem dX0_reasonNotToHang_76 : decode cX0_reasonNotToHang 76 = .ok (.ireturn, 1) := by decide +kernel
theorem dX0_hangLine_0 : decode cX0_hangLine 0 = .ok (.aload_n 0, 1) := by decide +kernel
theorem dX0_hangLine_1 : decode cX0_hangLine 1 = .ok (.iload_n 1, 1) := by decide +kernel
theorem dX0_hangLine_2 : decode cX0_hangLine 2 = .ok (.iload_n 2, 1) := by decide +kernel
theorem dX0_hangLine_3 : decode cX0_hangLine 3 = .ok (.invokevirtual 122, 3) := by decide +kernel
theorem dX0_hangLine_6 : decode cX0_hangLine 6 = .ok (.istore_n 3, 1) := by decide +kernel
theorem dX0_hangLine_7 : decode cX0_hangLine 7 = .ok (.iload_n 3, 1) := by decide +kernel
theorem dX0_hangLine_8 : decode cX0_hangLine 8 = .ok (.ifCond .eq 15, 3) := by decide +kernel
theorem dX0_hangLine_11 : decode cX0_hangLine 11 = .ok (.aload_n 0, 1) := by decide +kernel
theorem dX0_hangLine_12 : decode cX0_hangLine 12 = .ok (.dup, 1) := by decide +kernel
theorem dX0_hangLine_13 : decode cX0_hangLine 13 = .ok (.getfield 86, 3) := by decide +kernel
theorem dX0_hangLine_16 : decode cX0_hangLine 16 = .ok (.iconst 1, 1) := by decide +kernel
theorem dX0_hangLine_17 : decode cX0_hangLine 17 = .ok (.iadd, 1) := by decide +kernel
theorem dX0_hangLine_18 : decode cX0_hangLine 18 = .ok (.putfield 86, 3) := by decide +kernel
theorem dX0_hangLine_21 : decode cX0_hangLine 21 = .ok (.iload_n 3, 1) := by decide +kernel
theorem dX0_hangLine_22 : decode cX0_hangLine 22 = .ok (.ireturn, 1) := by decide +kernel
theorem dX0_hangLine_23 : decode cX0_hangLine 23 = .ok (.aload_n 0, 1) := by decide +kernel
theorem dX0_hangLine_24 : decode cX0_hangLine 24 = .ok (.getfield 15, 3) := by decide +kernel
theorem dX0_hangLine_27 : decode cX0_hangLine 27 = .ok (.iload_n 2, 1) := by decide +kernel
theorem dX0_hangLine_28 : decode cX0_hangLine 28 = .ok (.iload_n 1, 1) := by decide +kernel
theorem dX0_hangLine_29 : decode cX0_hangLine 29 = .ok (.iastore, 1) := by decide +kernel
theorem dX0_hangLine_30 : decode cX0_hangLine 30 = .ok (.aload_n 0, 1) := by decide +kernel
theorem dX0_hangLine_31 : decode cX0_hangLine 31 = .ok (.getfield 18, 3) := by decide +kernel
theorem dX0_hangLine_34 : decode cX0_hangLine 34 = .ok (.iload_n 2, 1) := by decide +kernel
theorem dX0_hangLine_35 : decode cX0_hangLine 35 = .ok (.iconst 0, 1) := by decide +kernel
theorem dX0_hangLine_36 : decode cX0_hangLine 36 = .ok (.iastore, 1) := by decide +kernel
theorem dX0_hangLine_37 : decode cX0_hangLine 37 = .ok (.aload_n 0, 1) := by decide +kernel
theorem dX0_hangLine_38 : decode cX0_hangLine 38 = .ok (.getfield 21, 3) := by decide +kernel
theorem dX0_hangLine_41 : decode cX0_hangLine 41 = .ok (.iload_n 2, 1) := by decide +kernel
theorem dX0_hangLine_42 : decode cX0_hangLine 42 = .ok (.iconst 0, 1) := by decide +kernel
theorem dX0_hangLine_43 : decode cX0_hangLine 43 = .ok (.iastore, 1) := by decide +kernel
theorem dX0_hangLine_44 : decode cX0_hangLine 44 = .ok (.aload_n 0, 1) := by decide +kernel
theorem dX0_hangLine_45 : decode cX0_hangLine 45 = .ok (.dup, 1) := by decide +kernel
theorem dX0_hangLine_46 : decode cX0_hangLine 46 = .ok (.getfield 77, 3) := by decide +kernel
theorem dX0_hangLine_49 : decode cX0_hangLine 49 = .ok (.iconst 1, 1) := by decide +kernel
theorem dX0_hangLine_50 : decode cX0_hangLine 50 = .ok (.iadd, 1) := by decide +kernel
theorem dX0_hangLine_51 : decode cX0_hangLine 51 = .ok (.putfield 77, 3) := by decide +kernel
theorem dX0_hangLine_54 : decode cX0_hangLine 54 = .ok (.bipush 10, 2) := by decide +kernel
theorem dX0_hangLine_56 : decode cX0_hangLine 56 = .ok (.aload_n 0, 1) := by decide +kernel
theorem dX0_hangLine_57 : decode cX0_hangLine 57 = .ok (.invokevirtual 126, 3) := by decide +kernel
theorem dX0_hangLine_60 : decode cX0_hangLine 60 = .ok (.invokestatic 130, 3) := by decide +kernel
theorem dX0_hangLine_63 : decode cX0_hangLine 63 = .ok (.iadd, 1) := by decide +kernel
theorem dX0_hangLine_64 : decode cX0_hangLine 64 = .ok (.ireturn, 1) := by decide +kernel
theorem dX0_takeLine_0 : decode cX0_takeLine 0 = .ok (.aload_n 0, 1) := by decide +kernel
theorem dX0_takeLine_1 : decode cX0_takeLine 1 = .ok (.iload_n 2, 1) := by decide +kernel
theorem dX0_takeLine_2 : decode cX0_takeLine 2 = .ok (.invokevirtual 89, 3) := by decide +kernel
theorem dX0_takeLine_5 : decode cX0_takeLine 5 = .ok (.ifCond .ne 16, 3) := by decide +kernel
theorem dX0_takeLine_8 : decode cX0_takeLine 8 = .ok (.aload_n 0, 1) := by decide +kernel
theorem dX0_takeLine_9 : decode cX0_takeLine 9 = .ok (.dup, 1) := by decide +kernel
theorem dX0_takeLine_10 : decode cX0_takeLine 10 = .ok (.getfield 86, 3) := by decide +kernel
theorem dX0_takeLine_13 : decode cX0_takeLine 13 = .ok (.iconst 1, 1) := by decide +kernel
theorem dX0_takeLine_14 : decode cX0_takeLine 14 = .ok (.iadd, 1) := by decide +kernel
theorem dX0_takeLine_15 : decode cX0_takeLine 15 = .ok (.putfield 86, 3) := by decide +kernel
theorem dX0_takeLine_18 : decode cX0_takeLine 18 = .ok (.bipush 6, 2) := by decide +kernel
theorem dX0_takeLine_20 : decode cX0_takeLine 20 = .ok (.ireturn, 1) := by decide +kernel
theorem dX0_takeLine_21 : decode cX0_takeLine 21 = .ok (.aload_n 0, 1) := by decide +kernel
theorem dX0_takeLine_22 : decode cX0_takeLine 22 = .ok (.getfield 15, 3) := by decide +kernel
theorem dX0_takeLine_25 : decode cX0_takeLine 25 = .ok (.iload_n 2, 1) := by decide +kernel
theorem dX0_takeLine_26 : decode cX0_takeLine 26 = .ok (.iaload, 1) := by decide +kernel
theorem dX0_takeLine_27 : decode cX0_takeLine 27 = .ok (.iload_n 1, 1) := by decide +kernel
theorem dX0_takeLine_28 : decode cX0_takeLine 28 = .ok (.if_icmp .eq 16, 3) := by decide +kernel
theorem dX0_takeLine_31 : decode cX0_takeLine 31 = .ok (.aload_n 0, 1) := by decide +kernel
theorem dX0_takeLine_32 : decode cX0_takeLine 32 = .ok (.dup, 1) := by decide +kernel
theorem dX0_takeLine_33 : decode cX0_takeLine 33 = .ok (.getfield 86, 3) := by decide +kernel
theorem dX0_takeLine_36 : decode cX0_takeLine 36 = .ok (.iconst 1, 1) := by decide +kernel
theorem dX0_takeLine_37 : decode cX0_takeLine 37 = .ok (.iadd, 1) := by decide +kernel
theorem dX0_takeLine_38 : decode cX0_takeLine 38 = .ok (.putfield 86, 3) := by decide +kernel
theorem dX0_takeLine_41 : decode cX0_takeLine 41 = .ok (.bipush 7, 2) := by decide +kernel
theorem dX0_takeLine_43 : decode cX0_takeLine 43 = .ok (.ireturn, 1) := by decide +kernel
theorem dX0_takeLine_44 : decode cX0_takeLine 44 = .ok (.aload_n 0, 1) := by decide +kernel
theorem dX0_takeLine_45 : decode cX0_takeLine 45 = .ok (.getfield 15, 3) := by decide +kernel
theorem dX0_takeLine_48 : decode cX0_takeLine 48 = .ok (.iload_n 2, 1) := by decide +kernel
theorem dX0_takeLine_49 : decode cX0_takeLine 49 = .ok (.iconst (-1), 1) := by decide +kernel
theorem dX0_takeLine_50 : decode cX0_takeLine 50 = .ok (.iastore, 1) := by decide +kernel
theorem dX0_takeLine_51 : decode cX0_takeLine 51 = .ok (.aload_n 0, 1) := by decide +kernel
theorem dX0_takeLine_52 : decode cX0_takeLine 52 = .ok (.dup, 1) := by decide +kernel
theorem dX0_takeLine_53 : decode cX0_takeLine 53 = .ok (.getfield 80, 3) := by decide +kernel
theorem dX0_takeLine_56 : decode cX0_takeLine 56 = .ok (.iconst 1, 1) := by decide +kernel
theorem dX0_takeLine_57 : decode cX0_takeLine 57 = .ok (.iadd, 1) := by decide +kernel
theorem dX0_takeLine_58 : decode cX0_takeLine 58 = .ok (.putfield 80, 3) := by decide +kernel
theorem dX0_takeLine_61 : decode cX0_takeLine 61 = .ok (.bipush 10, 2) := by decide +kernel
theorem dX0_takeLine_63 : decode cX0_takeLine 63 = .ok (.aload_n 0, 1) := by decide +kernel
theorem dX0_takeLine_64 : decode cX0_takeLine 64 = .ok (.getfield 18, 3) := by decide +kernel
theorem dX0_takeLine_67 : decode cX0_takeLine 67 = .ok (.iload_n 2, 1) := by decide +kernel
theorem dX0_takeLine_68 : decode cX0_takeLine 68 = .ok (.iaload, 1) := by decide +kernel
theorem dX0_takeLine_69 : decode cX0_takeLine 69 = .ok (.iadd, 1) := by decide +kernel
theorem dX0_takeLine_70 : decode cX0_takeLine 70 = .ok (.aload_n 0, 1) := by decide +kernel
theorem dX0_takeLine_71 : decode cX0_takeLine 71 = .ok (.getfield 21, 3) := by decide +kernel
theorem dX0_takeLine_74 : decode cX0_takeLine 74 = .ok (.iload_n 2, 1) := by decide +kernel
theorem dX0_takeLine_75 : decode cX0_takeLine 75 = .ok (.iaload, 1) := by decide +kernel
theorem dX0_takeLine_76 : decode cX0_takeLine 76 = .ok (.iadd, 1) := by decide +kernel
theorem dX0_takeLine_77 : decode cX0_takeLine 77 = .ok (.ireturn, 1) := by decide +kernel
theorem dX0_standsAt_0 : decode cX0_standsAt 0 = .ok (.iload_n 2, 1) := by decide +kernel
theorem dX0_standsAt_1 : decode cX0_standsAt 1 = .ok (.invokestatic 104, 3) := by decide +kernel
theorem dX0_standsAt_4 : decode cX0_standsAt 4 = .ok (.aload_n 0, 1) := by decide +kernel
theorem dX0_standsAt_5 : decode cX0_standsAt 5 = .ok (.getfield 30, 3) := by decide +kernel
theorem dX0_standsAt_8 : decode cX0_standsAt 8 = .ok (.iload_n 1, 1) := by decide +kernel
theorem dX0_standsAt_9 : decode cX0_standsAt 9 = .ok (.iaload, 1) := by decide +kernel
theorem dX0_standsAt_10 : decode cX0_standsAt 10 = .ok (.invokestatic 92, 3) := by decide +kernel
theorem dX0_standsAt_13 : decode cX0_standsAt 13 = .ok (.ireturn, 1) := by decide +kernel
theorem dX0_reasonNotToWalk_0 : decode cX0_reasonNotToWalk 0 = .ok (.aload_n 0, 1) := by decide +kernel
theorem dX0_reasonNotToWalk_1 : decode cX0_reasonNotToWalk 1 = .ok (.iload_n 2, 1) := by decide +kernel
theorem dX0_reasonNotToWalk_2 : decode cX0_reasonNotToWalk 2 = .ok (.invokevirtual 116, 3) := by decide +kernel
theorem dX0_reasonNotToWalk_5 : decode cX0_reasonNotToWalk 5 = .ok (.ifCond .ne 5, 3) := by decide +kernel
theorem dX0_reasonNotToWalk_8 : decode cX0_reasonNotToWalk 8 = .ok (.iconst 1, 1) := by decide +kernel
theorem dX0_reasonNotToWalk_9 : decode cX0_reasonNotToWalk 9 = .ok (.ireturn, 1) := by decide +kernel
theorem dX0_reasonNotToWalk_10 : decode cX0_reasonNotToWalk 10 = .ok (.aload_n 0, 1) := by decide +kernel
theorem dX0_reasonNotToWalk_11 : decode cX0_reasonNotToWalk 11 = .ok (.getfield 9, 3) := by decide +kernel
theorem dX0_reasonNotToWalk_14 : decode cX0_reasonNotToWalk 14 = .ok (.iload_n 2, 1) := by decide +kernel
theorem dX0_reasonNotToWalk_15 : decode cX0_reasonNotToWalk 15 = .ok (.iaload, 1) := by decide +kernel
theorem dX0_reasonNotToWalk_16 : decode cX0_reasonNotToWalk 16 = .ok (.aload_n 0, 1) := by decide +kernel
theorem dX0_reasonNotToWalk_17 : decode cX0_reasonNotToWalk 17 = .ok (.getfield 24, 3) := by decide +kernel
theorem dX0_reasonNotToWalk_20 : decode cX0_reasonNotToWalk 20 = .ok (.iload_n 1, 1) := by decide +kernel
theorem dX0_reasonNotToWalk_21 : decode cX0_reasonNotToWalk 21 = .ok (.iaload, 1) := by decide +kernel
theorem dX0_reasonNotToWalk_22 : decode cX0_reasonNotToWalk 22 = .ok (.if_icmp .ge 6, 3) := by decide +kernel
theorem dX0_reasonNotToWalk_25 : decode cX0_reasonNotToWalk 25 = .ok (.bipush 8, 2) := by decide +kernel
theorem dX0_reasonNotToWalk_27 : decode cX0_reasonNotToWalk 27 = .ok (.ireturn, 1) := by decide +kernel
theorem dX0_reasonNotToWalk_28 : decode cX0_reasonNotToWalk 28 = .ok (.aload_n 0, 1) := by decide +kernel
theorem dX0_reasonNotToWalk_29 : decode cX0_reasonNotToWalk 29 = .ok (.iload_n 2, 1) := by decide +kernel
theorem dX0_reasonNotToWalk_30 : decode cX0_reasonNotToWalk 30 = .ok (.invokevirtual 89, 3) := by decide +kernel
theorem dX0_reasonNotToWalk_33 : decode cX0_reasonNotToWalk 33 = .ok (.ifCond .eq 16, 3) := by decide +kernel
theorem dX0_reasonNotToWalk_36 : decode cX0_reasonNotToWalk 36 = .ok (.aload_n 0, 1) := by decide +kernel
theorem dX0_reasonNotToWalk_37 : decode cX0_reasonNotToWalk 37 = .ok (.getfield 15, 3) := by decide +kernel
theorem dX0_reasonNotToWalk_40 : decode cX0_reasonNotToWalk 40 = .ok (.iload_n 2, 1) := by decide +kernel
theorem dX0_reasonNotToWalk_41 : decode cX0_reasonNotToWalk 41 = .ok (.iaload, 1) := by decide +kernel
theorem dX0_reasonNotToWalk_42 : decode cX0_reasonNotToWalk 42 = .ok (.iload_n 1, 1) := by decide +kernel
theorem dX0_reasonNotToWalk_43 : decode cX0_reasonNotToWalk 43 = .ok (.if_icmp .eq 6, 3) := by decide +kernel
theorem dX0_reasonNotToWalk_46 : decode cX0_reasonNotToWalk 46 = .ok (.bipush 9, 2) := by decide +kernel
theorem dX0_reasonNotToWalk_48 : decode cX0_reasonNotToWalk 48 = .ok (.ireturn, 1) := by decide +kernel
theorem dX0_reasonNotToWalk_49 : decode cX0_reasonNotToWalk 49 = .ok (.aload_n 0, 1) := by decide +kernel
theorem dX0_reasonNotToWalk_50 : decode cX0_reasonNotToWalk 50 = .ok (.getfield 27, 3) := by decide +kernel
theorem dX0_reasonNotToWalk_53 : decode cX0_reasonNotToWalk 53 = .ok (.iload_n 1, 1) := by decide +kernel
theorem dX0_reasonNotToWalk_54 : decode cX0_reasonNotToWalk 54 = .ok (.iaload, 1) := by decide +kernel
theorem dX0_reasonNotToWalk_55 : decode cX0_reasonNotToWalk 55 = .ok (.iload_n 3, 1) := by decide +kernel
theorem dX0_reasonNotToWalk_56 : decode cX0_reasonNotToWalk 56 = .ok (.invokestatic 92, 3) := by decide +kernel
theorem dX0_reasonNotToWalk_59 : decode cX0_reasonNotToWalk 59 = .ok (.ifCond .ne 5, 3) := by decide +kernel
theorem dX0_reasonNotToWalk_62 : decode cX0_reasonNotToWalk 62 = .ok (.iconst 3, 1) := by decide +kernel
theorem dX0_reasonNotToWalk_63 : decode cX0_reasonNotToWalk 63 = .ok (.ireturn, 1) := by decide +kernel
theorem dX0_reasonNotToWalk_64 : decode cX0_reasonNotToWalk 64 = .ok (.iconst 0, 1) := by decide +kernel
theorem dX0_reasonNotToWalk_65 : decode cX0_reasonNotToWalk 65 = .ok (.ireturn, 1) := by decide +kernel
theorem dX0_walkOver_0 : decode cX0_walkOver 0 = .ok (.iload_n 2, 1) := by decide +kernel
theorem dX0_walkOver_1 : decode cX0_walkOver 1 = .ok (.aload_n 0, 1) := by decide +kernel
theorem dX0_walkOver_2 : decode cX0_walkOver 2 = .ok (.getfield 30, 3) := by decide +kernel
theorem dX0_walkOver_5 : decode cX0_walkOver 5 = .ok (.iload_n 1, 1) := by decide +kernel
theorem dX0_walkOver_6 : decode cX0_walkOver 6 = .ok (.iaload, 1) := by decide +kernel
theorem dX0_walkOver_7 : decode cX0_walkOver 7 = .ok (.invokestatic 135, 3) := by decide +kernel
theorem dX0_walkOver_10 : decode cX0_walkOver 10 = .ok (.istore_n 3, 1) := by decide +kernel
theorem dX0_walkOver_11 : decode cX0_walkOver 11 = .ok (.aload_n 0, 1) := by decide +kernel
theorem dX0_walkOver_12 : decode cX0_walkOver 12 = .ok (.iload_n 1, 1) := by decide +kernel
theorem dX0_walkOver_13 : decode cX0_walkOver 13 = .ok (.iload_n 2, 1) := by decide +kernel
theorem dX0_walkOver_14 : decode cX0_walkOver 14 = .ok (.iload_n 3, 1) := by decide +kernel
theorem dX0_walkOver_15 : decode cX0_walkOver 15 = .ok (.invokevirtual 138, 3) := by decide +kernel
theorem dX0_walkOver_18 : decode cX0_walkOver 18 = .ok (.istore 4, 2) := by decide +kernel
theorem dX0_walkOver_20 : decode cX0_walkOver 20 = .ok (.iload 4, 2) := by decide +kernel
theorem dX0_walkOver_22 : decode cX0_walkOver 22 = .ok (.ifCond .eq 16, 3) := by decide +kernel
theorem dX0_walkOver_25 : decode cX0_walkOver 25 = .ok (.aload_n 0, 1) := by decide +kernel
theorem dX0_walkOver_26 : decode cX0_walkOver 26 = .ok (.dup, 1) := by decide +kernel
theorem dX0_walkOver_27 : decode cX0_walkOver 27 = .ok (.getfield 86, 3) := by decide +kernel
theorem dX0_walkOver_30 : decode cX0_walkOver 30 = .ok (.iconst 1, 1) := by decide +kernel
theorem dX0_walkOver_31 : decode cX0_walkOver 31 = .ok (.iadd, 1) := by decide +kernel
theorem dX0_walkOver_32 : decode cX0_walkOver 32 = .ok (.putfield 86, 3) := by decide +kernel
theorem dX0_walkOver_35 : decode cX0_walkOver 35 = .ok (.iload 4, 2) := by decide +kernel
theorem dX0_walkOver_37 : decode cX0_walkOver 37 = .ok (.ireturn, 1) := by decide +kernel
theorem dX0_walkOver_38 : decode cX0_walkOver 38 = .ok (.aload_n 0, 1) := by decide +kernel
theorem dX0_walkOver_39 : decode cX0_walkOver 39 = .ok (.getfield 30, 3) := by decide +kernel
theorem dX0_walkOver_42 : decode cX0_walkOver 42 = .ok (.iload_n 1, 1) := by decide +kernel
theorem dX0_walkOver_43 : decode cX0_walkOver 43 = .ok (.iload_n 3, 1) := by decide +kernel
theorem dX0_walkOver_44 : decode cX0_walkOver 44 = .ok (.iastore, 1) := by decide +kernel
theorem dX0_walkOver_45 : decode cX0_walkOver 45 = .ok (.aload_n 0, 1) := by decide +kernel
theorem dX0_walkOver_46 : decode cX0_walkOver 46 = .ok (.getfield 33, 3) := by decide +kernel
theorem dX0_walkOver_49 : decode cX0_walkOver 49 = .ok (.iload_n 1, 1) := by decide +kernel
theorem dX0_walkOver_50 : decode cX0_walkOver 50 = .ok (.dup2, 1) := by decide +kernel
theorem dX0_walkOver_51 : decode cX0_walkOver 51 = .ok (.iaload, 1) := by decide +kernel
theorem dX0_walkOver_52 : decode cX0_walkOver 52 = .ok (.iconst 1, 1) := by decide +kernel
theorem dX0_walkOver_53 : decode cX0_walkOver 53 = .ok (.iadd, 1) := by decide +kernel
theorem dX0_walkOver_54 : decode cX0_walkOver 54 = .ok (.iastore, 1) := by decide +kernel
theorem dX0_walkOver_55 : decode cX0_walkOver 55 = .ok (.bipush 10, 2) := by decide +kernel
theorem dX0_walkOver_57 : decode cX0_walkOver 57 = .ok (.iload_n 3, 1) := by decide +kernel
theorem dX0_walkOver_58 : decode cX0_walkOver 58 = .ok (.iadd, 1) := by decide +kernel
theorem dX0_walkOver_59 : decode cX0_walkOver 59 = .ok (.ireturn, 1) := by decide +kernel
theorem dX0_passDay_0 : decode cX0_passDay 0 = .ok (.aload_n 0, 1) := by decide +kernel
theorem dX0_passDay_1 : decode cX0_passDay 1 = .ok (.dup, 1) := by decide +kernel
theorem dX0_passDay_2 : decode cX0_passDay 2 = .ok (.getfield 74, 3) := by decide +kernel
theorem dX0_passDay_5 : decode cX0_passDay 5 = .ok (.iconst 1, 1) := by decide +kernel
theorem dX0_passDay_6 : decode cX0_passDay 6 = .ok (.iadd, 1) := by decide +kernel
theorem dX0_passDay_7 : decode cX0_passDay 7 = .ok (.putfield 74, 3) := by decide +kernel
theorem dX0_passDay_10 : decode cX0_passDay 10 = .ok (.aload_n 0, 1) := by decide +kernel
theorem dX0_passDay_11 : decode cX0_passDay 11 = .ok (.aload_n 0, 1) := by decide +kernel
theorem dX0_passDay_12 : decode cX0_passDay 12 = .ok (.getfield 36, 3) := by decide +kernel
theorem dX0_passDay_15 : decode cX0_passDay 15 = .ok (.invokevirtual 100, 3) := by decide +kernel
theorem dX0_passDay_18 : decode cX0_passDay 18 = .ok (.istore_n 1, 1) := by decide +kernel
theorem dX0_passDay_19 : decode cX0_passDay 19 = .ok (.iconst 0, 1) := by decide +kernel
theorem dX0_passDay_20 : decode cX0_passDay 20 = .ok (.istore_n 2, 1) := by decide +kernel
theorem dX0_passDay_21 : decode cX0_passDay 21 = .ok (.iload_n 2, 1) := by decide +kernel
theorem dX0_passDay_22 : decode cX0_passDay 22 = .ok (.bipush 28, 2) := by decide +kernel
theorem dX0_passDay_24 : decode cX0_passDay 24 = .ok (.if_icmp .ge 23, 3) := by decide +kernel
theorem dX0_passDay_27 : decode cX0_passDay 27 = .ok (.aload_n 0, 1) := by decide +kernel
theorem dX0_passDay_28 : decode cX0_passDay 28 = .ok (.iload_n 2, 1) := by decide +kernel
theorem dX0_passDay_29 : decode cX0_passDay 29 = .ok (.invokevirtual 89, 3) := by decide +kernel
theorem dX0_passDay_32 : decode cX0_passDay 32 = .ok (.ifCond .eq 9, 3) := by decide +kernel
theorem dX0_passDay_35 : decode cX0_passDay 35 = .ok (.aload_n 0, 1) := by decide +kernel
theorem dX0_passDay_36 : decode cX0_passDay 36 = .ok (.iload_n 2, 1) := by decide +kernel
theorem dX0_passDay_37 : decode cX0_passDay 37 = .ok (.iload_n 1, 1) := by decide +kernel
theorem dX0_passDay_38 : decode cX0_passDay 38 = .ok (.invokevirtual 141, 3) := by decide +kernel
theorem dX0_passDay_41 : decode cX0_passDay 41 = .ok (.iinc 2 1, 3) := by decide +kernel
theorem dX0_passDay_44 : decode cX0_passDay 44 = .ok (.goto (-23), 3) := by decide +kernel
theorem dX0_passDay_47 : decode cX0_passDay 47 = .ok (.aload_n 0, 1) := by decide +kernel
theorem dX0_passDay_48 : decode cX0_passDay 48 = .ok (.sipush 421, 3) := by decide +kernel
theorem dX0_passDay_51 : decode cX0_passDay 51 = .ok (.aload_n 0, 1) := by decide +kernel
theorem dX0_passDay_52 : decode cX0_passDay 52 = .ok (.getfield 43, 3) := by decide +kernel
theorem dX0_passDay_55 : decode cX0_passDay 55 = .ok (.imul, 1) := by decide +kernel
theorem dX0_passDay_56 : decode cX0_passDay 56 = .ok (.sipush 1663, 3) := by decide +kernel
theorem dX0_passDay_59 : decode cX0_passDay 59 = .ok (.iadd, 1) := by decide +kernel
theorem dX0_passDay_60 : decode cX0_passDay 60 = .ok (.sipush 10000, 3) := by decide +kernel
theorem dX0_passDay_63 : decode cX0_passDay 63 = .ok (.irem, 1) := by decide +kernel
theorem dX0_passDay_64 : decode cX0_passDay 64 = .ok (.putfield 43, 3) := by decide +kernel
theorem dX0_passDay_67 : decode cX0_passDay 67 = .ok (.aload_n 0, 1) := by decide +kernel
theorem dX0_passDay_68 : decode cX0_passDay 68 = .ok (.getfield 43, 3) := by decide +kernel
theorem dX0_passDay_71 : decode cX0_passDay 71 = .ok (.iconst 4, 1) := by decide +kernel
theorem dX0_passDay_72 : decode cX0_passDay 72 = .ok (.irem, 1) := by decide +kernel
theorem dX0_passDay_73 : decode cX0_passDay 73 = .ok (.ifCond .ne 15, 3) := by decide +kernel
theorem dX0_passDay_76 : decode cX0_passDay 76 = .ok (.aload_n 0, 1) := by decide +kernel
theorem dX0_passDay_77 : decode cX0_passDay 77 = .ok (.aload_n 0, 1) := by decide +kernel
theorem dX0_passDay_78 : decode cX0_passDay 78 = .ok (.getfield 36, 3) := by decide +kernel
theorem dX0_passDay_81 : decode cX0_passDay 81 = .ok (.iconst 1, 1) := by decide +kernel
theorem dX0_passDay_82 : decode cX0_passDay 82 = .ok (.iadd, 1) := by decide +kernel
theorem dX0_passDay_83 : decode cX0_passDay 83 = .ok (.iconst 4, 1) := by decide +kernel
theorem dX0_passDay_84 : decode cX0_passDay 84 = .ok (.irem, 1) := by decide +kernel
theorem dX0_passDay_85 : decode cX0_passDay 85 = .ok (.putfield 36, 3) := by decide +kernel
theorem dX0_passDay_88 : decode cX0_passDay 88 = .ok (.return_, 1) := by decide +kernel
theorem dX0_soilLine_0 : decode cX0_soilLine 0 = .ok (.iload_n 1, 1) := by decide +kernel
theorem dX0_soilLine_1 : decode cX0_soilLine 1 = .ok (.invokestatic 104, 3) := by decide +kernel
theorem dX0_soilLine_4 : decode cX0_soilLine 4 = .ok (.istore_n 3, 1) := by decide +kernel
theorem dX0_soilLine_5 : decode cX0_soilLine 5 = .ok (.aload_n 0, 1) := by decide +kernel
theorem dX0_soilLine_6 : decode cX0_soilLine 6 = .ok (.getfield 18, 3) := by decide +kernel
theorem dX0_soilLine_9 : decode cX0_soilLine 9 = .ok (.iload_n 1, 1) := by decide +kernel
theorem dX0_soilLine_10 : decode cX0_soilLine 10 = .ok (.dup2, 1) := by decide +kernel
theorem dX0_soilLine_11 : decode cX0_soilLine 11 = .ok (.iaload, 1) := by decide +kernel
theorem dX0_soilLine_12 : decode cX0_soilLine 12 = .ok (.iload_n 2, 1) := by decide +kernel
theorem dX0_soilLine_13 : decode cX0_soilLine 13 = .ok (.iload_n 3, 1) := by decide +kernel
theorem dX0_soilLine_14 : decode cX0_soilLine 14 = .ok (.iand, 1) := by decide +kernel
theorem dX0_soilLine_15 : decode cX0_soilLine 15 = .ok (.invokestatic 130, 3) := by decide +kernel
theorem dX0_soilLine_18 : decode cX0_soilLine 18 = .ok (.iadd, 1) := by decide +kernel
theorem dX0_soilLine_19 : decode cX0_soilLine 19 = .ok (.iastore, 1) := by decide +kernel
theorem dX0_soilLine_20 : decode cX0_soilLine 20 = .ok (.aload_n 0, 1) := by decide +kernel
theorem dX0_soilLine_21 : decode cX0_soilLine 21 = .ok (.getfield 65, 3) := by decide +kernel
theorem dX0_soilLine_24 : decode cX0_soilLine 24 = .ok (.aload_n 0, 1) := by decide +kernel
theorem dX0_soilLine_25 : decode cX0_soilLine 25 = .ok (.getfield 15, 3) := by decide +kernel
theorem dX0_soilLine_28 : decode cX0_soilLine 28 = .ok (.iload_n 1, 1) := by decide +kernel
theorem dX0_soilLine_29 : decode cX0_soilLine 29 = .ok (.iaload, 1) := by decide +kernel
theorem dX0_soilLine_30 : decode cX0_soilLine 30 = .ok (.invokestatic 92, 3) := by decide +kernel
theorem dX0_soilLine_33 : decode cX0_soilLine 33 = .ok (.ifCond .ne 21, 3) := by decide +kernel
theorem dX0_soilLine_36 : decode cX0_soilLine 36 = .ok (.aload_n 0, 1) := by decide +kernel
theorem dX0_soilLine_37 : decode cX0_soilLine 37 = .ok (.getfield 21, 3) := by decide +kernel
theorem dX0_soilLine_40 : decode cX0_soilLine 40 = .ok (.iload_n 1, 1) := by decide +kernel
theorem dX0_soilLine_41 : decode cX0_soilLine 41 = .ok (.dup2, 1) := by decide +kernel
theorem dX0_soilLine_42 : decode cX0_soilLine 42 = .ok (.iaload, 1) := by decide +kernel
theorem dX0_soilLine_43 : decode cX0_soilLine 43 = .ok (.aload_n 0, 1) := by decide +kernel
theorem dX0_soilLine_44 : decode cX0_soilLine 44 = .ok (.getfield 71, 3) := by decide +kernel
theorem dX0_soilLine_47 : decode cX0_soilLine 47 = .ok (.iload_n 3, 1) := by decide +kernel
theorem dX0_soilLine_48 : decode cX0_soilLine 48 = .ok (.iand, 1) := by decide +kernel
theorem dX0_soilLine_49 : decode cX0_soilLine 49 = .ok (.invokestatic 130, 3) := by decide +kernel
theorem dX0_soilLine_52 : decode cX0_soilLine 52 = .ok (.iadd, 1) := by decide +kernel
theorem dX0_soilLine_53 : decode cX0_soilLine 53 = .ok (.iastore, 1) := by decide +kernel
theorem dX0_soilLine_54 : decode cX0_soilLine 54 = .ok (.return_, 1) := by decide +kernel
theorem dX0_allLines_0 : decode cX0_allLines 0 = .ok (.iconst 0, 1) := by decide +kernel
theorem dX0_allLines_1 : decode cX0_allLines 1 = .ok (.istore_n 1, 1) := by decide +kernel
theorem dX0_allLines_2 : decode cX0_allLines 2 = .ok (.iconst 0, 1) := by decide +kernel
theorem dX0_allLines_3 : decode cX0_allLines 3 = .ok (.istore_n 2, 1) := by decide +kernel
theorem dX0_allLines_4 : decode cX0_allLines 4 = .ok (.iload_n 2, 1) := by decide +kernel
theorem dX0_allLines_5 : decode cX0_allLines 5 = .ok (.bipush 28, 2) := by decide +kernel
theorem dX0_allLines_7 : decode cX0_allLines 7 = .ok (.if_icmp .ge 23, 3) := by decide +kernel
theorem dX0_allLines_10 : decode cX0_allLines 10 = .ok (.aload_n 0, 1) := by decide +kernel
theorem dX0_allLines_11 : decode cX0_allLines 11 = .ok (.iload_n 2, 1) := by decide +kernel
theorem dX0_allLines_12 : decode cX0_allLines 12 = .ok (.invokevirtual 89, 3) := by decide +kernel
theorem dX0_allLines_15 : decode cX0_allLines 15 = .ok (.ifCond .eq 9, 3) := by decide +kernel
theorem dX0_allLines_18 : decode cX0_allLines 18 = .ok (.iload_n 1, 1) := by decide +kernel
theorem dX0_allLines_19 : decode cX0_allLines 19 = .ok (.iconst 1, 1) := by decide +kernel
theorem dX0_allLines_20 : decode cX0_allLines 20 = .ok (.iload_n 2, 1) := by decide +kernel
theorem dX0_allLines_21 : decode cX0_allLines 21 = .ok (.ishl, 1) := by decide +kernel
theorem dX0_allLines_22 : decode cX0_allLines 22 = .ok (.ior, 1) := by decide +kernel
theorem dX0_allLines_23 : decode cX0_allLines 23 = .ok (.istore_n 1, 1) := by decide +kernel
theorem dX0_allLines_24 : decode cX0_allLines 24 = .ok (.iinc 2 1, 3) := by decide +kernel
theorem dX0_allLines_27 : decode cX0_allLines 27 = .ok (.goto (-23), 3) := by decide +kernel
theorem dX0_allLines_30 : decode cX0_allLines 30 = .ok (.iload_n 1, 1) := by decide +kernel
theorem dX0_allLines_31 : decode cX0_allLines 31 = .ok (.ireturn, 1) := by decide +kernel
theorem dX0_cleanLines_0 : decode cX0_cleanLines 0 = .ok (.iconst 0, 1) := by decide +kernel
theorem dX0_cleanLines_1 : decode cX0_cleanLines 1 = .ok (.istore_n 1, 1) := by decide +kernel
theorem dX0_cleanLines_2 : decode cX0_cleanLines 2 = .ok (.iconst 0, 1) := by decide +kernel
theorem dX0_cleanLines_3 : decode cX0_cleanLines 3 = .ok (.istore_n 2, 1) := by decide +kernel
theorem dX0_cleanLines_4 : decode cX0_cleanLines 4 = .ok (.iload_n 2, 1) := by decide +kernel
theorem dX0_cleanLines_5 : decode cX0_cleanLines 5 = .ok (.bipush 28, 2) := by decide +kernel
theorem dX0_cleanLines_7 : decode cX0_cleanLines 7 = .ok (.if_icmp .ge 41, 3) := by decide +kernel
theorem dX0_cleanLines_10 : decode cX0_cleanLines 10 = .ok (.aload_n 0, 1) := by decide +kernel
theorem dX0_cleanLines_11 : decode cX0_cleanLines 11 = .ok (.iload_n 2, 1) := by decide +kernel
theorem dX0_cleanLines_12 : decode cX0_cleanLines 12 = .ok (.invokevirtual 89, 3) := by decide +kernel
theorem dX0_cleanLines_15 : decode cX0_cleanLines 15 = .ok (.ifCond .eq 27, 3) := by decide +kernel
theorem dX0_cleanLines_18 : decode cX0_cleanLines 18 = .ok (.aload_n 0, 1) := by decide +kernel
theorem dX0_cleanLines_19 : decode cX0_cleanLines 19 = .ok (.getfield 18, 3) := by decide +kernel
theorem dX0_cleanLines_22 : decode cX0_cleanLines 22 = .ok (.iload_n 2, 1) := by decide +kernel
theorem dX0_cleanLines_23 : decode cX0_cleanLines 23 = .ok (.iaload, 1) := by decide +kernel
theorem dX0_cleanLines_24 : decode cX0_cleanLines 24 = .ok (.ifCond .ne 18, 3) := by decide +kernel
theorem dX0_cleanLines_27 : decode cX0_cleanLines 27 = .ok (.aload_n 0, 1) := by decide +kernel
theorem dX0_cleanLines_28 : decode cX0_cleanLines 28 = .ok (.getfield 21, 3) := by decide +kernel
theorem dX0_cleanLines_31 : decode cX0_cleanLines 31 = .ok (.iload_n 2, 1) := by decide +kernel
theorem dX0_cleanLines_32 : decode cX0_cleanLines 32 = .ok (.iaload, 1) := by decide +kernel
theorem dX0_cleanLines_33 : decode cX0_cleanLines 33 = .ok (.ifCond .ne 9, 3) := by decide +kernel
theorem dX0_cleanLines_36 : decode cX0_cleanLines 36 = .ok (.iload_n 1, 1) := by decide +kernel
theorem dX0_cleanLines_37 : decode cX0_cleanLines 37 = .ok (.iconst 1, 1) := by decide +kernel
theorem dX0_cleanLines_38 : decode cX0_cleanLines 38 = .ok (.iload_n 2, 1) := by decide +kernel
theorem dX0_cleanLines_39 : decode cX0_cleanLines 39 = .ok (.ishl, 1) := by decide +kernel
theorem dX0_cleanLines_40 : decode cX0_cleanLines 40 = .ok (.ior, 1) := by decide +kernel
theorem dX0_cleanLines_41 : decode cX0_cleanLines 41 = .ok (.istore_n 1, 1) := by decide +kernel
theorem dX0_cleanLines_42 : decode cX0_cleanLines 42 = .ok (.iinc 2 1, 3) := by decide +kernel
theorem dX0_cleanLines_45 : decode cX0_cleanLines 45 = .ok (.goto (-41), 3) := by decide +kernel
theorem dX0_cleanLines_48 : decode cX0_cleanLines 48 = .ok (.iload_n 1, 1) := by decide +kernel
theorem dX0_cleanLines_49 : decode cX0_cleanLines 49 = .ok (.ireturn, 1) := by decide +kernel
theorem dX0_linesOf_0 : decode cX0_linesOf 0 = .ok (.iconst 0, 1) := by decide +kernel
theorem dX0_linesOf_1 : decode cX0_linesOf 1 = .ok (.istore_n 2, 1) := by decide +kernel
theorem dX0_linesOf_2 : decode cX0_linesOf 2 = .ok (.iconst 0, 1) := by decide +kernel
theorem dX0_linesOf_3 : decode cX0_linesOf 3 = .ok (.istore_n 3, 1) := by decide +kernel
theorem dX0_linesOf_4 : decode cX0_linesOf 4 = .ok (.iload_n 3, 1) := by decide +kernel
theorem dX0_linesOf_5 : decode cX0_linesOf 5 = .ok (.bipush 28, 2) := by decide +kernel
theorem dX0_linesOf_7 : decode cX0_linesOf 7 = .ok (.if_icmp .ge 25, 3) := by decide +kernel
theorem dX0_linesOf_10 : decode cX0_linesOf 10 = .ok (.aload_n 0, 1) := by decide +kernel
theorem dX0_linesOf_11 : decode cX0_linesOf 11 = .ok (.getfield 15, 3) := by decide +kernel
theorem dX0_linesOf_14 : decode cX0_linesOf 14 = .ok (.iload_n 3, 1) := by decide +kernel
theorem dX0_linesOf_15 : decode cX0_linesOf 15 = .ok (.iaload, 1) := by decide +kernel
theorem dX0_linesOf_16 : decode cX0_linesOf 16 = .ok (.iload_n 1, 1) := by decide +kernel
theorem dX0_linesOf_17 : decode cX0_linesOf 17 = .ok (.if_icmp .ne 9, 3) := by decide +kernel
theorem dX0_linesOf_20 : decode cX0_linesOf 20 = .ok (.iload_n 2, 1) := by decide +kernel
theorem dX0_linesOf_21 : decode cX0_linesOf 21 = .ok (.iconst 1, 1) := by decide +kernel
theorem dX0_linesOf_22 : decode cX0_linesOf 22 = .ok (.iload_n 3, 1) := by decide +kernel
theorem dX0_linesOf_23 : decode cX0_linesOf 23 = .ok (.ishl, 1) := by decide +kernel
theorem dX0_linesOf_24 : decode cX0_linesOf 24 = .ok (.ior, 1) := by decide +kernel
theorem dX0_linesOf_25 : decode cX0_linesOf 25 = .ok (.istore_n 2, 1) := by decide +kernel
theorem dX0_linesOf_26 : decode cX0_linesOf 26 = .ok (.iinc 3 1, 3) := by decide +kernel
theorem dX0_linesOf_29 : decode cX0_linesOf 29 = .ok (.goto (-25), 3) := by decide +kernel
theorem dX0_linesOf_32 : decode cX0_linesOf 32 = .ok (.iload_n 2, 1) := by decide +kernel
theorem dX0_linesOf_33 : decode cX0_linesOf 33 = .ok (.ireturn, 1) := by decide +kernel
theorem dX0_linesSmokedBy_0 : decode cX0_linesSmokedBy 0 = .ok (.aload_n 0, 1) := by decide +kernel
theorem dX0_linesSmokedBy_1 : decode cX0_linesSmokedBy 1 = .ok (.iload_n 1, 1) := by decide +kernel
theorem dX0_linesSmokedBy_2 : decode cX0_linesSmokedBy 2 = .ok (.invokevirtual 100, 3) := by decide +kernel
theorem dX0_linesSmokedBy_5 : decode cX0_linesSmokedBy 5 = .ok (.istore_n 2, 1) := by decide +kernel
theorem dX0_linesSmokedBy_6 : decode cX0_linesSmokedBy 6 = .ok (.iconst 0, 1) := by decide +kernel
theorem dX0_linesSmokedBy_7 : decode cX0_linesSmokedBy 7 = .ok (.istore_n 3, 1) := by decide +kernel
theorem dX0_linesSmokedBy_8 : decode cX0_linesSmokedBy 8 = .ok (.iconst 0, 1) := by decide +kernel
theorem dX0_linesSmokedBy_9 : decode cX0_linesSmokedBy 9 = .ok (.istore 4, 2) := by decide +kernel
theorem dX0_linesSmokedBy_11 : decode cX0_linesSmokedBy 11 = .ok (.iload 4, 2) := by decide +kernel
theorem dX0_linesSmokedBy_13 : decode cX0_linesSmokedBy 13 = .ok (.bipush 28, 2) := by decide +kernel
theorem dX0_linesSmokedBy_15 : decode cX0_linesSmokedBy 15 = .ok (.if_icmp .ge 31, 3) := by decide +kernel
theorem dX0_linesSmokedBy_18 : decode cX0_linesSmokedBy 18 = .ok (.aload_n 0, 1) := by decide +kernel
theorem dX0_linesSmokedBy_19 : decode cX0_linesSmokedBy 19 = .ok (.iload 4, 2) := by decide +kernel
theorem dX0_linesSmokedBy_21 : decode cX0_linesSmokedBy 21 = .ok (.invokevirtual 89, 3) := by decide +kernel
theorem dX0_linesSmokedBy_24 : decode cX0_linesSmokedBy 24 = .ok (.ifCond .eq 16, 3) := by decide +kernel
theorem dX0_linesSmokedBy_27 : decode cX0_linesSmokedBy 27 = .ok (.iload_n 2, 1) := by decide +kernel
theorem dX0_linesSmokedBy_28 : decode cX0_linesSmokedBy 28 = .ok (.iload 4, 2) := by decide +kernel
theorem dX0_linesSmokedBy_30 : decode cX0_linesSmokedBy 30 = .ok (.invokestatic 104, 3) := by decide +kernel
theorem dX0_linesSmokedBy_33 : decode cX0_linesSmokedBy 33 = .ok (.iand, 1) := by decide +kernel
theorem dX0_linesSmokedBy_34 : decode cX0_linesSmokedBy 34 = .ok (.ifCond .eq 6, 3) := by decide +kernel
theorem dX0_linesSmokedBy_37 : decode cX0_linesSmokedBy 37 = .ok (.iinc 3 1, 3) := by decide +kernel
theorem dX0_linesSmokedBy_40 : decode cX0_linesSmokedBy 40 = .ok (.iinc 4 1, 3) := by decide +kernel
theorem dX0_linesSmokedBy_43 : decode cX0_linesSmokedBy 43 = .ok (.goto (-32), 3) := by decide +kernel
theorem dX0_linesSmokedBy_46 : decode cX0_linesSmokedBy 46 = .ok (.iload_n 3, 1) := by decide +kernel
theorem dX0_linesSmokedBy_47 : decode cX0_linesSmokedBy 47 = .ok (.ireturn, 1) := by decide +kernel
theorem dX0_sumOverLines_0 : decode cX0_sumOverLines 0 = .ok (.iconst 0, 1) := by decide +kernel
theorem dX0_sumOverLines_1 : decode cX0_sumOverLines 1 = .ok (.istore_n 2, 1) := by decide +kernel
theorem dX0_sumOverLines_2 : decode cX0_sumOverLines 2 = .ok (.iconst 0, 1) := by decide +kernel
theorem dX0_sumOverLines_3 : decode cX0_sumOverLines 3 = .ok (.istore_n 3, 1) := by decide +kernel
theorem dX0_sumOverLines_4 : decode cX0_sumOverLines 4 = .ok (.iload_n 3, 1) := by decide +kernel
theorem dX0_sumOverLines_5 : decode cX0_sumOverLines 5 = .ok (.bipush 28, 2) := by decide +kernel
theorem dX0_sumOverLines_7 : decode cX0_sumOverLines 7 = .ok (.if_icmp .ge 29, 3) := by decide +kernel
theorem dX0_sumOverLines_10 : decode cX0_sumOverLines 10 = .ok (.iload_n 3, 1) := by decide +kernel
theorem dX0_sumOverLines_11 : decode cX0_sumOverLines 11 = .ok (.aload_n 1, 1) := by decide +kernel
theorem dX0_sumOverLines_12 : decode cX0_sumOverLines 12 = .ok (.arraylength, 1) := by decide +kernel
theorem dX0_sumOverLines_13 : decode cX0_sumOverLines 13 = .ok (.if_icmp .ge 23, 3) := by decide +kernel
theorem dX0_sumOverLines_16 : decode cX0_sumOverLines 16 = .ok (.aload_n 0, 1) := by decide +kernel
theorem dX0_sumOverLines_17 : decode cX0_sumOverLines 17 = .ok (.iload_n 3, 1) := by decide +kernel
theorem dX0_sumOverLines_18 : decode cX0_sumOverLines 18 = .ok (.invokevirtual 89, 3) := by decide +kernel
theorem dX0_sumOverLines_21 : decode cX0_sumOverLines 21 = .ok (.ifCond .eq 9, 3) := by decide +kernel
theorem dX0_sumOverLines_24 : decode cX0_sumOverLines 24 = .ok (.iload_n 2, 1) := by decide +kernel
theorem dX0_sumOverLines_25 : decode cX0_sumOverLines 25 = .ok (.aload_n 1, 1) := by decide +kernel
theorem dX0_sumOverLines_26 : decode cX0_sumOverLines 26 = .ok (.iload_n 3, 1) := by decide +kernel
theorem dX0_sumOverLines_27 : decode cX0_sumOverLines 27 = .ok (.iaload, 1) := by decide +kernel
theorem dX0_sumOverLines_28 : decode cX0_sumOverLines 28 = .ok (.iadd, 1) := by decide +kernel
theorem dX0_sumOverLines_29 : decode cX0_sumOverLines 29 = .ok (.istore_n 2, 1) := by decide +kernel
theorem dX0_sumOverLines_30 : decode cX0_sumOverLines 30 = .ok (.iinc 3 1, 3) := by decide +kernel
theorem dX0_sumOverLines_33 : decode cX0_sumOverLines 33 = .ok (.goto (-29), 3) := by decide +kernel
theorem dX0_sumOverLines_36 : decode cX0_sumOverLines 36 = .ok (.iload_n 2, 1) := by decide +kernel
theorem dX0_sumOverLines_37 : decode cX0_sumOverLines 37 = .ok (.ireturn, 1) := by decide +kernel
theorem dX0_standingGangways_0 : decode cX0_standingGangways 0 = .ok (.iconst 0, 1) := by decide +kernel
theorem dX0_standingGangways_1 : decode cX0_standingGangways 1 = .ok (.istore_n 1, 1) := by decide +kernel
theorem dX0_standingGangways_2 : decode cX0_standingGangways 2 = .ok (.iconst 0, 1) := by decide +kernel
theorem dX0_standingGangways_3 : decode cX0_standingGangways 3 = .ok (.istore_n 2, 1) := by decide +kernel
theorem dX0_standingGangways_4 : decode cX0_standingGangways 4 = .ok (.iload_n 2, 1) := by decide +kernel
theorem dX0_standingGangways_5 : decode cX0_standingGangways 5 = .ok (.bipush 28, 2) := by decide +kernel
theorem dX0_standingGangways_7 : decode cX0_standingGangways 7 = .ok (.if_icmp .ge 23, 3) := by decide +kernel
theorem dX0_standingGangways_10 : decode cX0_standingGangways 10 = .ok (.aload_n 0, 1) := by decide +kernel
theorem dX0_standingGangways_11 : decode cX0_standingGangways 11 = .ok (.iload_n 2, 1) := by decide +kernel
theorem dX0_standingGangways_12 : decode cX0_standingGangways 12 = .ok (.invokevirtual 116, 3) := by decide +kernel
theorem dX0_standingGangways_15 : decode cX0_standingGangways 15 = .ok (.ifCond .eq 9, 3) := by decide +kernel
theorem dX0_standingGangways_18 : decode cX0_standingGangways 18 = .ok (.iload_n 1, 1) := by decide +kernel
theorem dX0_standingGangways_19 : decode cX0_standingGangways 19 = .ok (.iconst 1, 1) := by decide +kernel
theorem dX0_standingGangways_20 : decode cX0_standingGangways 20 = .ok (.iload_n 2, 1) := by decide +kernel
theorem dX0_standingGangways_21 : decode cX0_standingGangways 21 = .ok (.ishl, 1) := by decide +kernel
theorem dX0_standingGangways_22 : decode cX0_standingGangways 22 = .ok (.ior, 1) := by decide +kernel
theorem dX0_standingGangways_23 : decode cX0_standingGangways 23 = .ok (.istore_n 1, 1) := by decide +kernel
theorem dX0_standingGangways_24 : decode cX0_standingGangways 24 = .ok (.iinc 2 1, 3) := by decide +kernel
theorem dX0_standingGangways_27 : decode cX0_standingGangways 27 = .ok (.goto (-23), 3) := by decide +kernel
theorem dX0_standingGangways_30 : decode cX0_standingGangways 30 = .ok (.iload_n 1, 1) := by decide +kernel
theorem dX0_standingGangways_31 : decode cX0_standingGangways 31 = .ok (.ireturn, 1) := by decide +kernel
theorem dX0_ownersOn_0 : decode cX0_ownersOn 0 = .ok (.iconst 0, 1) := by decide +kernel
theorem dX0_ownersOn_1 : decode cX0_ownersOn 1 = .ok (.istore_n 2, 1) := by decide +kernel
theorem dX0_ownersOn_2 : decode cX0_ownersOn 2 = .ok (.iconst 0, 1) := by decide +kernel
theorem dX0_ownersOn_3 : decode cX0_ownersOn 3 = .ok (.istore_n 3, 1) := by decide +kernel
theorem dX0_ownersOn_4 : decode cX0_ownersOn 4 = .ok (.iload_n 3, 1) := by decide +kernel
theorem dX0_ownersOn_5 : decode cX0_ownersOn 5 = .ok (.iconst 4, 1) := by decide +kernel
theorem dX0_ownersOn_6 : decode cX0_ownersOn 6 = .ok (.if_icmp .ge 25, 3) := by decide +kernel
theorem dX0_ownersOn_9 : decode cX0_ownersOn 9 = .ok (.aload_n 0, 1) := by decide +kernel
theorem dX0_ownersOn_10 : decode cX0_ownersOn 10 = .ok (.getfield 30, 3) := by decide +kernel
theorem dX0_ownersOn_13 : decode cX0_ownersOn 13 = .ok (.iload_n 3, 1) := by decide +kernel
theorem dX0_ownersOn_14 : decode cX0_ownersOn 14 = .ok (.iaload, 1) := by decide +kernel
theorem dX0_ownersOn_15 : decode cX0_ownersOn 15 = .ok (.iload_n 1, 1) := by decide +kernel
theorem dX0_ownersOn_16 : decode cX0_ownersOn 16 = .ok (.if_icmp .ne 9, 3) := by decide +kernel
theorem dX0_ownersOn_19 : decode cX0_ownersOn 19 = .ok (.iload_n 2, 1) := by decide +kernel
theorem dX0_ownersOn_20 : decode cX0_ownersOn 20 = .ok (.iconst 1, 1) := by decide +kernel
theorem dX0_ownersOn_21 : decode cX0_ownersOn 21 = .ok (.iload_n 3, 1) := by decide +kernel
theorem dX0_ownersOn_22 : decode cX0_ownersOn 22 = .ok (.ishl, 1) := by decide +kernel
theorem dX0_ownersOn_23 : decode cX0_ownersOn 23 = .ok (.ior, 1) := by decide +kernel
theorem dX0_ownersOn_24 : decode cX0_ownersOn 24 = .ok (.istore_n 2, 1) := by decide +kernel
theorem dX0_ownersOn_25 : decode cX0_ownersOn 25 = .ok (.iinc 3 1, 3) := by decide +kernel
theorem dX0_ownersOn_28 : decode cX0_ownersOn 28 = .ok (.goto (-24), 3) := by decide +kernel
theorem dX0_ownersOn_31 : decode cX0_ownersOn 31 = .ok (.iload_n 2, 1) := by decide +kernel
theorem dX0_ownersOn_32 : decode cX0_ownersOn 32 = .ok (.ireturn, 1) := by decide +kernel
theorem dX0_walksOpenTo_0 : decode cX0_walksOpenTo 0 = .ok (.iconst 0, 1) := by decide +kernel
theorem dX0_walksOpenTo_1 : decode cX0_walksOpenTo 1 = .ok (.istore_n 2, 1) := by decide +kernel
theorem dX0_walksOpenTo_2 : decode cX0_walksOpenTo 2 = .ok (.iconst 0, 1) := by decide +kernel
theorem dX0_walksOpenTo_3 : decode cX0_walksOpenTo 3 = .ok (.istore_n 3, 1) := by decide +kernel
theorem dX0_walksOpenTo_4 : decode cX0_walksOpenTo 4 = .ok (.iload_n 3, 1) := by decide +kernel
theorem dX0_walksOpenTo_5 : decode cX0_walksOpenTo 5 = .ok (.bipush 28, 2) := by decide +kernel
theorem dX0_walksOpenTo_7 : decode cX0_walksOpenTo 7 = .ok (.if_icmp .ge 44, 3) := by decide +kernel
theorem dX0_walksOpenTo_10 : decode cX0_walksOpenTo 10 = .ok (.iload_n 3, 1) := by decide +kernel
theorem dX0_walksOpenTo_11 : decode cX0_walksOpenTo 11 = .ok (.aload_n 0, 1) := by decide +kernel
theorem dX0_walksOpenTo_12 : decode cX0_walksOpenTo 12 = .ok (.getfield 30, 3) := by decide +kernel
theorem dX0_walksOpenTo_15 : decode cX0_walksOpenTo 15 = .ok (.iload_n 1, 1) := by decide +kernel
theorem dX0_walksOpenTo_16 : decode cX0_walksOpenTo 16 = .ok (.iaload, 1) := by decide +kernel
theorem dX0_walksOpenTo_17 : decode cX0_walksOpenTo 17 = .ok (.invokestatic 135, 3) := by decide +kernel
theorem dX0_walksOpenTo_20 : decode cX0_walksOpenTo 20 = .ok (.istore 4, 2) := by decide +kernel
theorem dX0_walksOpenTo_22 : decode cX0_walksOpenTo 22 = .ok (.aload_n 0, 1) := by decide +kernel
theorem dX0_walksOpenTo_23 : decode cX0_walksOpenTo 23 = .ok (.iload_n 1, 1) := by decide +kernel
theorem dX0_walksOpenTo_24 : decode cX0_walksOpenTo 24 = .ok (.iload_n 3, 1) := by decide +kernel
theorem dX0_walksOpenTo_25 : decode cX0_walksOpenTo 25 = .ok (.invokevirtual 145, 3) := by decide +kernel
theorem dX0_walksOpenTo_28 : decode cX0_walksOpenTo 28 = .ok (.ifCond .eq 17, 3) := by decide +kernel
theorem dX0_walksOpenTo_31 : decode cX0_walksOpenTo 31 = .ok (.aload_n 0, 1) := by decide +kernel
theorem dX0_walksOpenTo_32 : decode cX0_walksOpenTo 32 = .ok (.iload_n 1, 1) := by decide +kernel
theorem dX0_walksOpenTo_33 : decode cX0_walksOpenTo 33 = .ok (.iload_n 3, 1) := by decide +kernel
theorem dX0_walksOpenTo_34 : decode cX0_walksOpenTo 34 = .ok (.iload 4, 2) := by decide +kernel
theorem dX0_walksOpenTo_36 : decode cX0_walksOpenTo 36 = .ok (.invokevirtual 138, 3) := by decide +kernel
theorem dX0_walksOpenTo_39 : decode cX0_walksOpenTo 39 = .ok (.ifCond .ne 6, 3) := by decide +kernel
theorem dX0_walksOpenTo_42 : decode cX0_walksOpenTo 42 = .ok (.iinc 2 1, 3) := by decide +kernel
theorem dX0_walksOpenTo_45 : decode cX0_walksOpenTo 45 = .ok (.iinc 3 1, 3) := by decide +kernel
theorem dX0_walksOpenTo_48 : decode cX0_walksOpenTo 48 = .ok (.goto (-44), 3) := by decide +kernel
theorem dX0_walksOpenTo_51 : decode cX0_walksOpenTo 51 = .ok (.iload_n 2, 1) := by decide +kernel
theorem dX0_walksOpenTo_52 : decode cX0_walksOpenTo 52 = .ok (.ireturn, 1) := by decide +kernel
theorem dX0_hangingsOpenTo_0 : decode cX0_hangingsOpenTo 0 = .ok (.iconst 0, 1) := by decide +kernel
theorem dX0_hangingsOpenTo_1 : decode cX0_hangingsOpenTo 1 = .ok (.istore_n 2, 1) := by decide +kernel
theorem dX0_hangingsOpenTo_2 : decode cX0_hangingsOpenTo 2 = .ok (.iconst 0, 1) := by decide +kernel
theorem dX0_hangingsOpenTo_3 : decode cX0_hangingsOpenTo 3 = .ok (.istore_n 3, 1) := by decide +kernel
theorem dX0_hangingsOpenTo_4 : decode cX0_hangingsOpenTo 4 = .ok (.iload_n 3, 1) := by decide +kernel
theorem dX0_hangingsOpenTo_5 : decode cX0_hangingsOpenTo 5 = .ok (.bipush 28, 2) := by decide +kernel
theorem dX0_hangingsOpenTo_7 : decode cX0_hangingsOpenTo 7 = .ok (.if_icmp .ge 21, 3) := by decide +kernel
theorem dX0_hangingsOpenTo_10 : decode cX0_hangingsOpenTo 10 = .ok (.aload_n 0, 1) := by decide +kernel
theorem dX0_hangingsOpenTo_11 : decode cX0_hangingsOpenTo 11 = .ok (.iload_n 1, 1) := by decide +kernel
theorem dX0_hangingsOpenTo_12 : decode cX0_hangingsOpenTo 12 = .ok (.iload_n 3, 1) := by decide +kernel
theorem dX0_hangingsOpenTo_13 : decode cX0_hangingsOpenTo 13 = .ok (.invokevirtual 122, 3) := by decide +kernel
theorem dX0_hangingsOpenTo_16 : decode cX0_hangingsOpenTo 16 = .ok (.ifCond .ne 6, 3) := by decide +kernel
theorem dX0_hangingsOpenTo_19 : decode cX0_hangingsOpenTo 19 = .ok (.iinc 2 1, 3) := by decide +kernel
theorem dX0_hangingsOpenTo_22 : decode cX0_hangingsOpenTo 22 = .ok (.iinc 3 1, 3) := by decide +kernel
theorem dX0_hangingsOpenTo_25 : decode cX0_hangingsOpenTo 25 = .ok (.goto (-21), 3) := by decide +kernel
theorem dX0_hangingsOpenTo_28 : decode cX0_hangingsOpenTo 28 = .ok (.iload_n 2, 1) := by decide +kernel
theorem dX0_hangingsOpenTo_29 : decode cX0_hangingsOpenTo 29 = .ok (.ireturn, 1) := by decide +kernel
theorem dX0_numberOfNow_0 : decode cX0_numberOfNow 0 = .ok (.iload_n 1, 1) := by decide +kernel
theorem dX0_numberOfNow_1 : decode cX0_numberOfNow 1 = .ok (.tableswitch 123 0 8 #[51, 56, 61, 69, 81, 89, 97, 105, 114], 51) := by decide +kernel
theorem dX0_numberOfNow_52 : decode cX0_numberOfNow 52 = .ok (.aload_n 0, 1) := by decide +kernel
theorem dX0_numberOfNow_53 : decode cX0_numberOfNow 53 = .ok (.getfield 74, 3) := by decide +kernel
theorem dX0_numberOfNow_56 : decode cX0_numberOfNow 56 = .ok (.ireturn, 1) := by decide +kernel
theorem dX0_numberOfNow_57 : decode cX0_numberOfNow 57 = .ok (.aload_n 0, 1) := by decide +kernel
theorem dX0_numberOfNow_58 : decode cX0_numberOfNow 58 = .ok (.getfield 36, 3) := by decide +kernel
theorem dX0_numberOfNow_61 : decode cX0_numberOfNow 61 = .ok (.ireturn, 1) := by decide +kernel
theorem dX0_numberOfNow_62 : decode cX0_numberOfNow 62 = .ok (.aload_n 0, 1) := by decide +kernel
theorem dX0_numberOfNow_63 : decode cX0_numberOfNow 63 = .ok (.getfield 68, 3) := by decide +kernel
theorem dX0_numberOfNow_66 : decode cX0_numberOfNow 66 = .ok (.invokestatic 130, 3) := by decide +kernel
theorem dX0_numberOfNow_69 : decode cX0_numberOfNow 69 = .ok (.ireturn, 1) := by decide +kernel
theorem dX0_numberOfNow_70 : decode cX0_numberOfNow 70 = .ok (.aload_n 0, 1) := by decide +kernel
theorem dX0_numberOfNow_71 : decode cX0_numberOfNow 71 = .ok (.aload_n 0, 1) := by decide +kernel
theorem dX0_numberOfNow_72 : decode cX0_numberOfNow 72 = .ok (.getfield 36, 3) := by decide +kernel
theorem dX0_numberOfNow_75 : decode cX0_numberOfNow 75 = .ok (.invokevirtual 100, 3) := by decide +kernel
theorem dX0_numberOfNow_78 : decode cX0_numberOfNow 78 = .ok (.invokestatic 130, 3) := by decide +kernel
theorem dX0_numberOfNow_81 : decode cX0_numberOfNow 81 = .ok (.ireturn, 1) := by decide +kernel
theorem dX0_numberOfNow_82 : decode cX0_numberOfNow 82 = .ok (.aload_n 0, 1) := by decide +kernel
theorem dX0_numberOfNow_83 : decode cX0_numberOfNow 83 = .ok (.getfield 71, 3) := by decide +kernel
theorem dX0_numberOfNow_86 : decode cX0_numberOfNow 86 = .ok (.invokestatic 130, 3) := by decide +kernel
theorem dX0_numberOfNow_89 : decode cX0_numberOfNow 89 = .ok (.ireturn, 1) := by decide +kernel
theorem dX0_numberOfNow_90 : decode cX0_numberOfNow 90 = .ok (.aload_n 0, 1) := by decide +kernel
theorem dX0_numberOfNow_91 : decode cX0_numberOfNow 91 = .ok (.invokevirtual 126, 3) := by decide +kernel
theorem dX0_numberOfNow_94 : decode cX0_numberOfNow 94 = .ok (.invokestatic 130, 3) := by decide +kernel
theorem dX0_numberOfNow_97 : decode cX0_numberOfNow 97 = .ok (.ireturn, 1) := by decide +kernel
theorem dX0_numberOfNow_98 : decode cX0_numberOfNow 98 = .ok (.aload_n 0, 1) := by decide +kernel
theorem dX0_numberOfNow_99 : decode cX0_numberOfNow 99 = .ok (.invokevirtual 148, 3) := by decide +kernel
theorem dX0_numberOfNow_102 : decode cX0_numberOfNow 102 = .ok (.invokestatic 130, 3) := by decide +kernel
theorem dX0_numberOfNow_105 : decode cX0_numberOfNow 105 = .ok (.ireturn, 1) := by decide +kernel
theorem dX0_numberOfNow_106 : decode cX0_numberOfNow 106 = .ok (.aload_n 0, 1) := by decide +kernel
theorem dX0_numberOfNow_107 : decode cX0_numberOfNow 107 = .ok (.aload_n 0, 1) := by decide +kernel
theorem dX0_numberOfNow_108 : decode cX0_numberOfNow 108 = .ok (.getfield 18, 3) := by decide +kernel
theorem dX0_numberOfNow_111 : decode cX0_numberOfNow 111 = .ok (.invokevirtual 151, 3) := by decide +kernel
theorem dX0_numberOfNow_114 : decode cX0_numberOfNow 114 = .ok (.ireturn, 1) := by decide +kernel
theorem dX0_numberOfNow_115 : decode cX0_numberOfNow 115 = .ok (.aload_n 0, 1) := by decide +kernel
theorem dX0_numberOfNow_116 : decode cX0_numberOfNow 116 = .ok (.aload_n 0, 1) := by decide +kernel
theorem dX0_numberOfNow_117 : decode cX0_numberOfNow 117 = .ok (.getfield 21, 3) := by decide +kernel
theorem dX0_numberOfNow_120 : decode cX0_numberOfNow 120 = .ok (.invokevirtual 151, 3) := by decide +kernel
theorem dX0_numberOfNow_123 : decode cX0_numberOfNow 123 = .ok (.ireturn, 1) := by decide +kernel
theorem dX0_numberOfNow_124 : decode cX0_numberOfNow 124 = .ok (.aload_n 0, 1) := by decide +kernel
theorem dX0_numberOfNow_125 : decode cX0_numberOfNow 125 = .ok (.aload_n 0, 1) := by decide +kernel
theorem dX0_numberOfNow_126 : decode cX0_numberOfNow 126 = .ok (.getfield 36, 3) := by decide +kernel
theorem dX0_numberOfNow_129 : decode cX0_numberOfNow 129 = .ok (.invokevirtual 155, 3) := by decide +kernel
theorem dX0_numberOfNow_132 : decode cX0_numberOfNow 132 = .ok (.ireturn, 1) := by decide +kernel
theorem dX0_numberSoFar_0 : decode cX0_numberSoFar 0 = .ok (.iload_n 1, 1) := by decide +kernel
theorem dX0_numberSoFar_1 : decode cX0_numberSoFar 1 = .ok (.tableswitch 60 10 14 #[35, 40, 45, 50, 55], 35) := by decide +kernel
theorem dX0_numberSoFar_36 : decode cX0_numberSoFar 36 = .ok (.aload_n 0, 1) := by decide +kernel
theorem dX0_numberSoFar_37 : decode cX0_numberSoFar 37 = .ok (.getfield 77, 3) := by decide +kernel
theorem dX0_numberSoFar_40 : decode cX0_numberSoFar 40 = .ok (.ireturn, 1) := by decide +kernel
theorem dX0_numberSoFar_41 : decode cX0_numberSoFar 41 = .ok (.aload_n 0, 1) := by decide +kernel
theorem dX0_numberSoFar_42 : decode cX0_numberSoFar 42 = .ok (.getfield 80, 3) := by decide +kernel
theorem dX0_numberSoFar_45 : decode cX0_numberSoFar 45 = .ok (.ireturn, 1) := by decide +kernel
theorem dX0_numberSoFar_46 : decode cX0_numberSoFar 46 = .ok (.aload_n 0, 1) := by decide +kernel
theorem dX0_numberSoFar_47 : decode cX0_numberSoFar 47 = .ok (.getfield 83, 3) := by decide +kernel
theorem dX0_numberSoFar_50 : decode cX0_numberSoFar 50 = .ok (.ireturn, 1) := by decide +kernel
theorem dX0_numberSoFar_51 : decode cX0_numberSoFar 51 = .ok (.aload_n 0, 1) := by decide +kernel
theorem dX0_numberSoFar_52 : decode cX0_numberSoFar 52 = .ok (.getfield 86, 3) := by decide +kernel
theorem dX0_numberSoFar_55 : decode cX0_numberSoFar 55 = .ok (.ireturn, 1) := by decide +kernel
theorem dX0_numberSoFar_56 : decode cX0_numberSoFar 56 = .ok (.aload_n 0, 1) := by decide +kernel
theorem dX0_numberSoFar_57 : decode cX0_numberSoFar 57 = .ok (.getfield 40, 3) := by decide +kernel
theorem dX0_numberSoFar_60 : decode cX0_numberSoFar 60 = .ok (.ireturn, 1) := by decide +kernel
theorem dX0_numberSoFar_61 : decode cX0_numberSoFar 61 = .ok (.aload_n 0, 1) := by decide +kernel
theorem dX0_numberSoFar_62 : decode cX0_numberSoFar 62 = .ok (.getfield 43, 3) := by decide +kernel
theorem dX0_numberSoFar_65 : decode cX0_numberSoFar 65 = .ok (.ireturn, 1) := by decide +kernel
theorem dX1_init_0 : decode cX1_init 0 = .ok (.aload_n 0, 1) := by decide +kernel
theorem dX1_init_1 : decode cX1_init 1 = .ok (.invokespecial 3, 3) := by decide +kernel
theorem dX1_init_4 : decode cX1_init 4 = .ok (.aload_n 0, 1) := by decide +kernel
theorem dX1_init_5 : decode cX1_init 5 = .ok (.iconst 4, 1) := by decide +kernel
theorem dX1_init_6 : decode cX1_init 6 = .ok (.anewarray 9, 3) := by decide +kernel
theorem dX1_init_9 : decode cX1_init 9 = .ok (.putfield 11, 3) := by decide +kernel
theorem dX1_init_12 : decode cX1_init 12 = .ok (.iconst 0, 1) := by decide +kernel
theorem dX1_init_13 : decode cX1_init 13 = .ok (.istore_n 1, 1) := by decide +kernel
theorem dX1_init_14 : decode cX1_init 14 = .ok (.iload_n 1, 1) := by decide +kernel
theorem dX1_init_15 : decode cX1_init 15 = .ok (.iconst 4, 1) := by decide +kernel
theorem dX1_init_16 : decode cX1_init 16 = .ok (.if_icmp .ge 22, 3) := by decide +kernel
theorem dX1_init_19 : decode cX1_init 19 = .ok (.aload_n 0, 1) := by decide +kernel
theorem dX1_init_20 : decode cX1_init 20 = .ok (.getfield 11, 3) := by decide +kernel
theorem dX1_init_23 : decode cX1_init 23 = .ok (.iload_n 1, 1) := by decide +kernel
theorem dX1_init_24 : decode cX1_init 24 = .ok (.new 9, 3) := by decide +kernel
theorem dX1_init_27 : decode cX1_init 27 = .ok (.dup, 1) := by decide +kernel
theorem dX1_init_28 : decode cX1_init 28 = .ok (.invokespecial 17, 3) := by decide +kernel
theorem dX1_init_31 : decode cX1_init 31 = .ok (.aastore, 1) := by decide +kernel
theorem dX1_init_32 : decode cX1_init 32 = .ok (.iinc 1 1, 3) := by decide +kernel
theorem dX1_init_35 : decode cX1_init 35 = .ok (.goto (-21), 3) := by decide +kernel
theorem dX1_init_38 : decode cX1_init 38 = .ok (.return_, 1) := by decide +kernel
theorem dX1_push_0 : decode cX1_push 0 = .ok (.aload_n 0, 1) := by decide +kernel
theorem dX1_push_1 : decode cX1_push 1 = .ok (.getfield 11, 3) := by decide +kernel
theorem dX1_push_4 : decode cX1_push 4 = .ok (.iconst 3, 1) := by decide +kernel
theorem dX1_push_5 : decode cX1_push 5 = .ok (.aaload, 1) := by decide +kernel
theorem dX1_push_6 : decode cX1_push 6 = .ok (.astore_n 2, 1) := by decide +kernel
theorem dX1_push_7 : decode cX1_push 7 = .ok (.iconst 3, 1) := by decide +kernel
theorem dX1_push_8 : decode cX1_push 8 = .ok (.istore_n 3, 1) := by decide +kernel
theorem dX1_push_9 : decode cX1_push 9 = .ok (.iload_n 3, 1) := by decide +kernel
theorem dX1_push_10 : decode cX1_push 10 = .ok (.ifCond .le 23, 3) := by decide +kernel
theorem dX1_push_13 : decode cX1_push 13 = .ok (.aload_n 0, 1) := by decide +kernel
theorem dX1_push_14 : decode cX1_push 14 = .ok (.getfield 11, 3) := by decide +kernel
theorem dX1_push_17 : decode cX1_push 17 = .ok (.iload_n 3, 1) := by decide +kernel
theorem dX1_push_18 : decode cX1_push 18 = .ok (.aload_n 0, 1) := by decide +kernel
theorem dX1_push_19 : decode cX1_push 19 = .ok (.getfield 11, 3) := by decide +kernel
theorem dX1_push_22 : decode cX1_push 22 = .ok (.iload_n 3, 1) := by decide +kernel
theorem dX1_push_23 : decode cX1_push 23 = .ok (.iconst 1, 1) := by decide +kernel
theorem dX1_push_24 : decode cX1_push 24 = .ok (.isub, 1) := by decide +kernel
theorem dX1_push_25 : decode cX1_push 25 = .ok (.aaload, 1) := by decide +kernel
theorem dX1_push_26 : decode cX1_push 26 = .ok (.aastore, 1) := by decide +kernel
theorem dX1_push_27 : decode cX1_push 27 = .ok (.iinc 3 (-1), 3) := by decide +kernel
theorem dX1_push_30 : decode cX1_push 30 = .ok (.goto (-21), 3) := by decide +kernel
theorem dX1_push_33 : decode cX1_push 33 = .ok (.aload_n 0, 1) := by decide +kernel
theorem dX1_push_34 : decode cX1_push 34 = .ok (.getfield 11, 3) := by decide +kernel
theorem dX1_push_37 : decode cX1_push 37 = .ok (.iconst 0, 1) := by decide +kernel
theorem dX1_push_38 : decode cX1_push 38 = .ok (.aload_n 2, 1) := by decide +kernel
theorem dX1_push_39 : decode cX1_push 39 = .ok (.aastore, 1) := by decide +kernel
theorem dX1_push_40 : decode cX1_push 40 = .ok (.aload_n 2, 1) := by decide +kernel
theorem dX1_push_41 : decode cX1_push 41 = .ok (.ifnull 8, 3) := by decide +kernel
theorem dX1_push_44 : decode cX1_push 44 = .ok (.aload_n 2, 1) := by decide +kernel
theorem dX1_push_45 : decode cX1_push 45 = .ok (.aload_n 1, 1) := by decide +kernel
theorem dX1_push_46 : decode cX1_push 46 = .ok (.invokevirtual 18, 3) := by decide +kernel
theorem dX1_push_49 : decode cX1_push 49 = .ok (.aload_n 0, 1) := by decide +kernel
theorem dX1_push_50 : decode cX1_push 50 = .ok (.aload_n 0, 1) := by decide +kernel
theorem dX1_push_51 : decode cX1_push 51 = .ok (.getfield 22, 3) := by decide +kernel
theorem dX1_push_54 : decode cX1_push 54 = .ok (.iconst 1, 1) := by decide +kernel
theorem dX1_push_55 : decode cX1_push 55 = .ok (.iadd, 1) := by decide +kernel
theorem dX1_push_56 : decode cX1_push 56 = .ok (.iconst 4, 1) := by decide +kernel
theorem dX1_push_57 : decode cX1_push 57 = .ok (.invokestatic 26, 3) := by decide +kernel
theorem dX1_push_60 : decode cX1_push 60 = .ok (.putfield 22, 3) := by decide +kernel
theorem dX1_push_63 : decode cX1_push 63 = .ok (.return_, 1) := by decide +kernel
theorem dX1_popInto_0 : decode cX1_popInto 0 = .ok (.aload_n 0, 1) := by decide +kernel
theorem dX1_popInto_1 : decode cX1_popInto 1 = .ok (.getfield 11, 3) := by decide +kernel
theorem dX1_popInto_4 : decode cX1_popInto 4 = .ok (.iconst 0, 1) := by decide +kernel
theorem dX1_popInto_5 : decode cX1_popInto 5 = .ok (.aaload, 1) := by decide +kernel
theorem dX1_popInto_6 : decode cX1_popInto 6 = .ok (.astore_n 2, 1) := by decide +kernel
theorem dX1_popInto_7 : decode cX1_popInto 7 = .ok (.iconst 1, 1) := by decide +kernel
theorem dX1_popInto_8 : decode cX1_popInto 8 = .ok (.istore_n 3, 1) := by decide +kernel
theorem dX1_popInto_9 : decode cX1_popInto 9 = .ok (.iload_n 3, 1) := by decide +kernel
theorem dX1_popInto_10 : decode cX1_popInto 10 = .ok (.iconst 4, 1) := by decide +kernel
theorem dX1_popInto_11 : decode cX1_popInto 11 = .ok (.if_icmp .ge 23, 3) := by decide +kernel
theorem dX1_popInto_14 : decode cX1_popInto 14 = .ok (.aload_n 0, 1) := by decide +kernel
theorem dX1_popInto_15 : decode cX1_popInto 15 = .ok (.getfield 11, 3) := by decide +kernel
theorem dX1_popInto_18 : decode cX1_popInto 18 = .ok (.iload_n 3, 1) := by decide +kernel
theorem dX1_popInto_19 : decode cX1_popInto 19 = .ok (.iconst 1, 1) := by decide +kernel
theorem dX1_popInto_20 : decode cX1_popInto 20 = .ok (.isub, 1) := by decide +kernel
theorem dX1_popInto_21 : decode cX1_popInto 21 = .ok (.aload_n 0, 1) := by decide +kernel
theorem dX1_popInto_22 : decode cX1_popInto 22 = .ok (.getfield 11, 3) := by decide +kernel
theorem dX1_popInto_25 : decode cX1_popInto 25 = .ok (.iload_n 3, 1) := by decide +kernel
theorem dX1_popInto_26 : decode cX1_popInto 26 = .ok (.aaload, 1) := by decide +kernel
theorem dX1_popInto_27 : decode cX1_popInto 27 = .ok (.aastore, 1) := by decide +kernel
theorem dX1_popInto_28 : decode cX1_popInto 28 = .ok (.iinc 3 1, 3) := by decide +kernel
theorem dX1_popInto_31 : decode cX1_popInto 31 = .ok (.goto (-22), 3) := by decide +kernel
theorem dX1_popInto_34 : decode cX1_popInto 34 = .ok (.aload_n 0, 1) := by decide +kernel
theorem dX1_popInto_35 : decode cX1_popInto 35 = .ok (.getfield 11, 3) := by decide +kernel
theorem dX1_popInto_38 : decode cX1_popInto 38 = .ok (.iconst 3, 1) := by decide +kernel
theorem dX1_popInto_39 : decode cX1_popInto 39 = .ok (.aload_n 2, 1) := by decide +kernel
theorem dX1_popInto_40 : decode cX1_popInto 40 = .ok (.aastore, 1) := by decide +kernel
theorem dX1_popInto_41 : decode cX1_popInto 41 = .ok (.aload_n 2, 1) := by decide +kernel
theorem dX1_popInto_42 : decode cX1_popInto 42 = .ok (.ifnull 8, 3) := by decide +kernel
theorem dX1_popInto_45 : decode cX1_popInto 45 = .ok (.aload_n 1, 1) := by decide +kernel
theorem dX1_popInto_46 : decode cX1_popInto 46 = .ok (.aload_n 2, 1) := by decide +kernel
theorem dX1_popInto_47 : decode cX1_popInto 47 = .ok (.invokevirtual 18, 3) := by decide +kernel
theorem dX1_popInto_50 : decode cX1_popInto 50 = .ok (.aload_n 0, 1) := by decide +kernel
theorem dX1_popInto_51 : decode cX1_popInto 51 = .ok (.aload_n 0, 1) := by decide +kernel
theorem dX1_popInto_52 : decode cX1_popInto 52 = .ok (.getfield 22, 3) := by decide +kernel
theorem dX1_popInto_55 : decode cX1_popInto 55 = .ok (.iconst 1, 1) := by decide +kernel
theorem dX1_popInto_56 : decode cX1_popInto 56 = .ok (.isub, 1) := by decide +kernel
theorem dX1_popInto_57 : decode cX1_popInto 57 = .ok (.iconst 0, 1) := by decide +kernel
theorem dX1_popInto_58 : decode cX1_popInto 58 = .ok (.invokestatic 32, 3) := by decide +kernel
theorem dX1_popInto_61 : decode cX1_popInto 61 = .ok (.putfield 22, 3) := by decide +kernel
theorem dX1_popInto_64 : decode cX1_popInto 64 = .ok (.return_, 1) := by decide +kernel
theorem dX2_init_0 : decode cX2_init 0 = .ok (.aload_n 0, 1) := by decide +kernel
theorem dX2_init_1 : decode cX2_init 1 = .ok (.invokespecial 3, 3) := by decide +kernel
theorem dX2_init_4 : decode cX2_init 4 = .ok (.aload_n 0, 1) := by decide +kernel
theorem dX2_init_5 : decode cX2_init 5 = .ok (.aload_n 1, 1) := by decide +kernel
theorem dX2_init_6 : decode cX2_init 6 = .ok (.putfield 9, 3) := by decide +kernel
theorem dX2_init_9 : decode cX2_init 9 = .ok (.return_, 1) := by decide +kernel
theorem dX2_rewind_0 : decode cX2_rewind 0 = .ok (.aload_n 0, 1) := by decide +kernel
theorem dX2_rewind_1 : decode cX2_rewind 1 = .ok (.iconst 0, 1) := by decide +kernel
theorem dX2_rewind_2 : decode cX2_rewind 2 = .ok (.putfield 15, 3) := by decide +kernel
theorem dX2_rewind_5 : decode cX2_rewind 5 = .ok (.return_, 1) := by decide +kernel
theorem dX2_firstFault_0 : decode cX2_firstFault 0 = .ok (.aload_n 0, 1) := by decide +kernel
theorem dX2_firstFault_1 : decode cX2_firstFault 1 = .ok (.invokevirtual 19, 3) := by decide +kernel
theorem dX2_firstFault_4 : decode cX2_firstFault 4 = .ok (.iconst 0, 1) := by decide +kernel
theorem dX2_firstFault_5 : decode cX2_firstFault 5 = .ok (.istore_n 1, 1) := by decide +kernel
theorem dX2_firstFault_6 : decode cX2_firstFault 6 = .ok (.iload_n 1, 1) := by decide +kernel
theorem dX2_firstFault_7 : decode cX2_firstFault 7 = .ok (.bipush 60, 2) := by decide +kernel
theorem dX2_firstFault_9 : decode cX2_firstFault 9 = .ok (.if_icmp .gt 52, 3) := by decide +kernel
theorem dX2_firstFault_12 : decode cX2_firstFault 12 = .ok (.aload_n 0, 1) := by decide +kernel
theorem dX2_firstFault_13 : decode cX2_firstFault 13 = .ok (.invokevirtual 22, 3) := by decide +kernel
theorem dX2_firstFault_16 : decode cX2_firstFault 16 = .ok (.ifCond .ne 8, 3) := by decide +kernel
theorem dX2_firstFault_19 : decode cX2_firstFault 19 = .ok (.aload_n 0, 1) := by decide +kernel
theorem dX2_firstFault_20 : decode cX2_firstFault 20 = .ok (.getfield 15, 3) := by decide +kernel
theorem dX2_firstFault_23 : decode cX2_firstFault 23 = .ok (.ireturn, 1) := by decide +kernel
theorem dX2_firstFault_24 : decode cX2_firstFault 24 = .ok (.aload_n 0, 1) := by decide +kernel
theorem dX2_firstFault_25 : decode cX2_firstFault 25 = .ok (.getfield 15, 3) := by decide +kernel
theorem dX2_firstFault_28 : decode cX2_firstFault 28 = .ok (.aload_n 0, 1) := by decide +kernel
theorem dX2_firstFault_29 : decode cX2_firstFault 29 = .ok (.getfield 9, 3) := by decide +kernel
theorem dX2_firstFault_32 : decode cX2_firstFault 32 = .ok (.getfield 26, 3) := by decide +kernel
theorem dX2_firstFault_35 : decode cX2_firstFault 35 = .ok (.if_icmp .ne 6, 3) := by decide +kernel
theorem dX2_firstFault_38 : decode cX2_firstFault 38 = .ok (.bipush (-4), 2) := by decide +kernel
theorem dX2_firstFault_40 : decode cX2_firstFault 40 = .ok (.ireturn, 1) := by decide +kernel
theorem dX2_firstFault_41 : decode cX2_firstFault 41 = .ok (.aload_n 0, 1) := by decide +kernel
theorem dX2_firstFault_42 : decode cX2_firstFault 42 = .ok (.bipush 44, 2) := by decide +kernel
theorem dX2_firstFault_44 : decode cX2_firstFault 44 = .ok (.invokevirtual 31, 3) := by decide +kernel
theorem dX2_firstFault_47 : decode cX2_firstFault 47 = .ok (.ifCond .ne 8, 3) := by decide +kernel
theorem dX2_firstFault_50 : decode cX2_firstFault 50 = .ok (.aload_n 0, 1) := by decide +kernel
theorem dX2_firstFault_51 : decode cX2_firstFault 51 = .ok (.getfield 15, 3) := by decide +kernel
theorem dX2_firstFault_54 : decode cX2_firstFault 54 = .ok (.ireturn, 1) := by decide +kernel
theorem dX2_firstFault_55 : decode cX2_firstFault 55 = .ok (.iinc 1 1, 3) := by decide +kernel
theorem dX2_firstFault_58 : decode cX2_firstFault 58 = .ok (.goto (-52), 3) := by decide +kernel
theorem dX2_firstFault_61 : decode cX2_firstFault 61 = .ok (.aload_n 0, 1) := by decide +kernel
theorem dX2_firstFault_62 : decode cX2_firstFault 62 = .ok (.getfield 15, 3) := by decide +kernel
theorem dX2_firstFault_65 : decode cX2_firstFault 65 = .ok (.ireturn, 1) := by decide +kernel
theorem dX2_readNext_0 : decode cX2_readNext 0 = .ok (.aload_n 0, 1) := by decide +kernel
theorem dX2_readNext_1 : decode cX2_readNext 1 = .ok (.getfield 15, 3) := by decide +kernel
theorem dX2_readNext_4 : decode cX2_readNext 4 = .ok (.aload_n 0, 1) := by decide +kernel
theorem dX2_readNext_5 : decode cX2_readNext 5 = .ok (.getfield 9, 3) := by decide +kernel
theorem dX2_readNext_8 : decode cX2_readNext 8 = .ok (.getfield 26, 3) := by decide +kernel
theorem dX2_readNext_11 : decode cX2_readNext 11 = .ok (.if_icmp .lt 5, 3) := by decide +kernel
theorem dX2_readNext_14 : decode cX2_readNext 14 = .ok (.iconst 0, 1) := by decide +kernel
theorem dX2_readNext_15 : decode cX2_readNext 15 = .ok (.ireturn, 1) := by decide +kernel
theorem dX2_readNext_16 : decode cX2_readNext 16 = .ok (.aload_n 0, 1) := by decide +kernel
theorem dX2_readNext_17 : decode cX2_readNext 17 = .ok (.invokevirtual 22, 3) := by decide +kernel
theorem dX2_readNext_20 : decode cX2_readNext 20 = .ok (.istore_n 1, 1) := by decide +kernel
theorem dX2_readNext_21 : decode cX2_readNext 21 = .ok (.aload_n 0, 1) := by decide +kernel
theorem dX2_readNext_22 : decode cX2_readNext 22 = .ok (.bipush 44, 2) := by decide +kernel
theorem dX2_readNext_24 : decode cX2_readNext 24 = .ok (.invokevirtual 31, 3) := by decide +kernel
theorem dX2_readNext_27 : decode cX2_readNext 27 = .ok (.pop, 1) := by decide +kernel
theorem dX2_readNext_28 : decode cX2_readNext 28 = .ok (.iload_n 1, 1) := by decide +kernel
theorem dX2_readNext_29 : decode cX2_readNext 29 = .ok (.ireturn, 1) := by decide +kernel
theorem dX2_readOrder_0 : decode cX2_readOrder 0 = .ok (.aload_n 0, 1) := by decide +kernel
theorem dX2_readOrder_1 : decode cX2_readOrder 1 = .ok (.aload_n 0, 1) := by decide +kernel
theorem dX2_readOrder_2 : decode cX2_readOrder 2 = .ok (.getfield 15, 3) := by decide +kernel
theorem dX2_readOrder_5 : decode cX2_readOrder 5 = .ok (.putfield 35, 3) := by decide +kernel
theorem dX2_readOrder_8 : decode cX2_readOrder 8 = .ok (.aload_n 0, 1) := by decide +kernel
theorem dX2_readOrder_9 : decode cX2_readOrder 9 = .ok (.aload_n 0, 1) := by decide +kernel
theorem dX2_readOrder_10 : decode cX2_readOrder 10 = .ok (.getfield 9, 3) := by decide +kernel
theorem dX2_readOrder_13 : decode cX2_readOrder 13 = .ok (.aload_n 0, 1) := by decide +kernel
theorem dX2_readOrder_14 : decode cX2_readOrder 14 = .ok (.getfield 15, 3) := by decide +kernel
theorem dX2_readOrder_17 : decode cX2_readOrder 17 = .ok (.invokevirtual 38, 3) := by decide +kernel
theorem dX2_readOrder_20 : decode cX2_readOrder 20 = .ok (.putfield 42, 3) := by decide +kernel
theorem dX2_readOrder_23 : decode cX2_readOrder 23 = .ok (.aload_n 0, 1) := by decide +kernel
theorem dX2_readOrder_24 : decode cX2_readOrder 24 = .ok (.getfield 42, 3) := by decide +kernel
theorem dX2_readOrder_27 : decode cX2_readOrder 27 = .ok (.lookupswitch 117 #[(99, 89), (100, 105), (104, 49), (116, 49), (119, 49)], 49) := by decide +kernel
theorem dX2_readOrder_76 : decode cX2_readOrder 76 = .ok (.aload_n 0, 1) := by decide +kernel
theorem dX2_readOrder_77 : decode cX2_readOrder 77 = .ok (.dup, 1) := by decide +kernel
theorem dX2_readOrder_78 : decode cX2_readOrder 78 = .ok (.getfield 15, 3) := by decide +kernel
theorem dX2_readOrder_81 : decode cX2_readOrder 81 = .ok (.iconst 1, 1) := by decide +kernel
theorem dX2_readOrder_82 : decode cX2_readOrder 82 = .ok (.iadd, 1) := by decide +kernel
theorem dX2_readOrder_83 : decode cX2_readOrder 83 = .ok (.putfield 15, 3) := by decide +kernel
theorem dX2_readOrder_86 : decode cX2_readOrder 86 = .ok (.aload_n 0, 1) := by decide +kernel
theorem dX2_readOrder_87 : decode cX2_readOrder 87 = .ok (.invokevirtual 46, 3) := by decide +kernel
theorem dX2_readOrder_90 : decode cX2_readOrder 90 = .ok (.ifCond .eq 24, 3) := by decide +kernel
theorem dX2_readOrder_93 : decode cX2_readOrder 93 = .ok (.aload_n 0, 1) := by decide +kernel
theorem dX2_readOrder_94 : decode cX2_readOrder 94 = .ok (.bipush 58, 2) := by decide +kernel
theorem dX2_readOrder_96 : decode cX2_readOrder 96 = .ok (.invokevirtual 31, 3) := by decide +kernel
theorem dX2_readOrder_99 : decode cX2_readOrder 99 = .ok (.ifCond .eq 15, 3) := by decide +kernel
theorem dX2_readOrder_102 : decode cX2_readOrder 102 = .ok (.aload_n 0, 1) := by decide +kernel
theorem dX2_readOrder_103 : decode cX2_readOrder 103 = .ok (.iconst 1, 1) := by decide +kernel
theorem dX2_readOrder_104 : decode cX2_readOrder 104 = .ok (.invokevirtual 49, 3) := by decide +kernel
theorem dX2_readOrder_107 : decode cX2_readOrder 107 = .ok (.ifCond .eq 7, 3) := by decide +kernel
theorem dX2_readOrder_110 : decode cX2_readOrder 110 = .ok (.iconst 1, 1) := by decide +kernel
theorem dX2_readOrder_111 : decode cX2_readOrder 111 = .ok (.goto 4, 3) := by decide +kernel
theorem dX2_readOrder_114 : decode cX2_readOrder 114 = .ok (.iconst 0, 1) := by decide +kernel
theorem dX2_readOrder_115 : decode cX2_readOrder 115 = .ok (.ireturn, 1) := by decide +kernel
theorem dX2_readOrder_116 : decode cX2_readOrder 116 = .ok (.aload_n 0, 1) := by decide +kernel
theorem dX2_readOrder_117 : decode cX2_readOrder 117 = .ok (.dup, 1) := by decide +kernel
theorem dX2_readOrder_118 : decode cX2_readOrder 118 = .ok (.getfield 15, 3) := by decide +kernel
theorem dX2_readOrder_121 : decode cX2_readOrder 121 = .ok (.iconst 1, 1) := by decide +kernel
theorem dX2_readOrder_122 : decode cX2_readOrder 122 = .ok (.iadd, 1) := by decide +kernel
theorem dX2_readOrder_123 : decode cX2_readOrder 123 = .ok (.putfield 15, 3) := by decide +kernel
theorem dX2_readOrder_126 : decode cX2_readOrder 126 = .ok (.aload_n 0, 1) := by decide +kernel
theorem dX2_readOrder_127 : decode cX2_readOrder 127 = .ok (.iconst 0, 1) := by decide +kernel
theorem dX2_readOrder_128 : decode cX2_readOrder 128 = .ok (.invokevirtual 49, 3) := by decide +kernel
theorem dX2_readOrder_131 : decode cX2_readOrder 131 = .ok (.ireturn, 1) := by decide +kernel
theorem dX2_readOrder_132 : decode cX2_readOrder 132 = .ok (.aload_n 0, 1) := by decide +kernel
theorem dX2_readOrder_133 : decode cX2_readOrder 133 = .ok (.dup, 1) := by decide +kernel
theorem dX2_readOrder_134 : decode cX2_readOrder 134 = .ok (.getfield 15, 3) := by decide +kernel
theorem dX2_readOrder_137 : decode cX2_readOrder 137 = .ok (.iconst 1, 1) := by decide +kernel
theorem dX2_readOrder_138 : decode cX2_readOrder 138 = .ok (.iadd, 1) := by decide +kernel
theorem dX2_readOrder_139 : decode cX2_readOrder 139 = .ok (.putfield 15, 3) := by decide +kernel
theorem dX2_readOrder_142 : decode cX2_readOrder 142 = .ok (.iconst 1, 1) := by decide +kernel
theorem dX2_readOrder_143 : decode cX2_readOrder 143 = .ok (.ireturn, 1) := by decide +kernel
theorem dX2_readOrder_144 : decode cX2_readOrder 144 = .ok (.iconst 0, 1) := by decide +kernel
theorem dX2_readOrder_145 : decode cX2_readOrder 145 = .ok (.ireturn, 1) := by decide +kernel
theorem dX2_readSign_0 : decode cX2_readSign 0 = .ok (.aload_n 0, 1) := by decide +kernel
theorem dX2_readSign_1 : decode cX2_readSign 1 = .ok (.getfield 9, 3) := by decide +kernel
theorem dX2_readSign_4 : decode cX2_readSign 4 = .ok (.aload_n 0, 1) := by decide +kernel
theorem dX2_readSign_5 : decode cX2_readSign 5 = .ok (.getfield 15, 3) := by decide +kernel
theorem dX2_readSign_8 : decode cX2_readSign 8 = .ok (.invokevirtual 38, 3) := by decide +kernel
theorem dX2_readSign_11 : decode cX2_readSign 11 = .ok (.iload_n 1, 1) := by decide +kernel
theorem dX2_readSign_12 : decode cX2_readSign 12 = .ok (.if_icmp .eq 5, 3) := by decide +kernel
theorem dX2_readSign_15 : decode cX2_readSign 15 = .ok (.iconst 0, 1) := by decide +kernel
theorem dX2_readSign_16 : decode cX2_readSign 16 = .ok (.ireturn, 1) := by decide +kernel
theorem dX2_readSign_17 : decode cX2_readSign 17 = .ok (.aload_n 0, 1) := by decide +kernel
theorem dX2_readSign_18 : decode cX2_readSign 18 = .ok (.dup, 1) := by decide +kernel
theorem dX2_readSign_19 : decode cX2_readSign 19 = .ok (.getfield 15, 3) := by decide +kernel
theorem dX2_readSign_22 : decode cX2_readSign 22 = .ok (.iconst 1, 1) := by decide +kernel
theorem dX2_readSign_23 : decode cX2_readSign 23 = .ok (.iadd, 1) := by decide +kernel
theorem dX2_readSign_24 : decode cX2_readSign 24 = .ok (.putfield 15, 3) := by decide +kernel
theorem dX2_readSign_27 : decode cX2_readSign 27 = .ok (.iconst 1, 1) := by decide +kernel
theorem dX2_readSign_28 : decode cX2_readSign 28 = .ok (.ireturn, 1) := by decide +kernel
theorem dX2_readOwner_0 : decode cX2_readOwner 0 = .ok (.aload_n 0, 1) := by decide +kernel
theorem dX2_readOwner_1 : decode cX2_readOwner 1 = .ok (.aload_n 0, 1) := by decide +kernel
theorem dX2_readOwner_2 : decode cX2_readOwner 2 = .ok (.aload_n 0, 1) := by decide +kernel
theorem dX2_readOwner_3 : decode cX2_readOwner 3 = .ok (.getfield 15, 3) := by decide +kernel
theorem dX2_readOwner_6 : decode cX2_readOwner 6 = .ok (.invokevirtual 53, 3) := by decide +kernel
theorem dX2_readOwner_9 : decode cX2_readOwner 9 = .ok (.putfield 57, 3) := by decide +kernel
theorem dX2_readOwner_12 : decode cX2_readOwner 12 = .ok (.aload_n 0, 1) := by decide +kernel
theorem dX2_readOwner_13 : decode cX2_readOwner 13 = .ok (.getfield 57, 3) := by decide +kernel
theorem dX2_readOwner_16 : decode cX2_readOwner 16 = .ok (.invokestatic 60, 3) := by decide +kernel
theorem dX2_readOwner_19 : decode cX2_readOwner 19 = .ok (.ifCond .ne 5, 3) := by decide +kernel
theorem dX2_readOwner_22 : decode cX2_readOwner 22 = .ok (.iconst 0, 1) := by decide +kernel
theorem dX2_readOwner_23 : decode cX2_readOwner 23 = .ok (.ireturn, 1) := by decide +kernel
theorem dX2_readOwner_24 : decode cX2_readOwner 24 = .ok (.aload_n 0, 1) := by decide +kernel
theorem dX2_readOwner_25 : decode cX2_readOwner 25 = .ok (.dup, 1) := by decide +kernel
theorem dX2_readOwner_26 : decode cX2_readOwner 26 = .ok (.getfield 15, 3) := by decide +kernel
theorem dX2_readOwner_29 : decode cX2_readOwner 29 = .ok (.iconst 1, 1) := by decide +kernel
theorem dX2_readOwner_30 : decode cX2_readOwner 30 = .ok (.iadd, 1) := by decide +kernel
theorem dX2_readOwner_31 : decode cX2_readOwner 31 = .ok (.putfield 15, 3) := by decide +kernel
theorem dX2_readOwner_34 : decode cX2_readOwner 34 = .ok (.iconst 1, 1) := by decide +kernel
theorem dX2_readOwner_35 : decode cX2_readOwner 35 = .ok (.ireturn, 1) := by decide +kernel
theorem dX2_readNumber_0 : decode cX2_readNumber 0 = .ok (.aload_n 0, 1) := by decide +kernel
theorem dX2_readNumber_1 : decode cX2_readNumber 1 = .ok (.aload_n 0, 1) := by decide +kernel
theorem dX2_readNumber_2 : decode cX2_readNumber 2 = .ok (.getfield 15, 3) := by decide +kernel
theorem dX2_readNumber_5 : decode cX2_readNumber 5 = .ok (.invokevirtual 53, 3) := by decide +kernel
theorem dX2_readNumber_8 : decode cX2_readNumber 8 = .ok (.istore_n 2, 1) := by decide +kernel
theorem dX2_readNumber_9 : decode cX2_readNumber 9 = .ok (.iload_n 2, 1) := by decide +kernel
theorem dX2_readNumber_10 : decode cX2_readNumber 10 = .ok (.iload_n 1, 1) := by decide +kernel
theorem dX2_readNumber_11 : decode cX2_readNumber 11 = .ok (.invokestatic 64, 3) := by decide +kernel
theorem dX2_readNumber_14 : decode cX2_readNumber 14 = .ok (.ifCond .ne 5, 3) := by decide +kernel
theorem dX2_readNumber_17 : decode cX2_readNumber 17 = .ok (.iconst 0, 1) := by decide +kernel
theorem dX2_readNumber_18 : decode cX2_readNumber 18 = .ok (.ireturn, 1) := by decide +kernel
theorem dX2_readNumber_19 : decode cX2_readNumber 19 = .ok (.aload_n 0, 1) := by decide +kernel
theorem dX2_readNumber_20 : decode cX2_readNumber 20 = .ok (.dup, 1) := by decide +kernel
theorem dX2_readNumber_21 : decode cX2_readNumber 21 = .ok (.getfield 15, 3) := by decide +kernel
theorem dX2_readNumber_24 : decode cX2_readNumber 24 = .ok (.iconst 1, 1) := by decide +kernel
theorem dX2_readNumber_25 : decode cX2_readNumber 25 = .ok (.iadd, 1) := by decide +kernel
theorem dX2_readNumber_26 : decode cX2_readNumber 26 = .ok (.putfield 15, 3) := by decide +kernel
theorem dX2_readNumber_29 : decode cX2_readNumber 29 = .ok (.aload_n 0, 1) := by decide +kernel
theorem dX2_readNumber_30 : decode cX2_readNumber 30 = .ok (.iload_n 2, 1) := by decide +kernel
theorem dX2_readNumber_31 : decode cX2_readNumber 31 = .ok (.putfield 68, 3) := by decide +kernel
theorem dX2_readNumber_34 : decode cX2_readNumber 34 = .ok (.aload_n 0, 1) := by decide +kernel
theorem dX2_readNumber_35 : decode cX2_readNumber 35 = .ok (.aload_n 0, 1) := by decide +kernel
theorem dX2_readNumber_36 : decode cX2_readNumber 36 = .ok (.getfield 15, 3) := by decide +kernel
theorem dX2_readNumber_39 : decode cX2_readNumber 39 = .ok (.invokevirtual 53, 3) := by decide +kernel
theorem dX2_readNumber_42 : decode cX2_readNumber 42 = .ok (.istore_n 3, 1) := by decide +kernel
theorem dX2_readNumber_43 : decode cX2_readNumber 43 = .ok (.iload_n 2, 1) := by decide +kernel
theorem dX2_readNumber_44 : decode cX2_readNumber 44 = .ok (.ifCond .eq 41, 3) := by decide +kernel
theorem dX2_readNumber_47 : decode cX2_readNumber 47 = .ok (.iload_n 3, 1) := by decide +kernel
theorem dX2_readNumber_48 : decode cX2_readNumber 48 = .ok (.iconst (-1), 1) := by decide +kernel
theorem dX2_readNumber_49 : decode cX2_readNumber 49 = .ok (.if_icmp .eq 36, 3) := by decide +kernel
theorem dX2_readNumber_52 : decode cX2_readNumber 52 = .ok (.bipush 10, 2) := by decide +kernel
theorem dX2_readNumber_54 : decode cX2_readNumber 54 = .ok (.iload_n 2, 1) := by decide +kernel
theorem dX2_readNumber_55 : decode cX2_readNumber 55 = .ok (.imul, 1) := by decide +kernel
theorem dX2_readNumber_56 : decode cX2_readNumber 56 = .ok (.iload_n 3, 1) := by decide +kernel
theorem dX2_readNumber_57 : decode cX2_readNumber 57 = .ok (.iadd, 1) := by decide +kernel
theorem dX2_readNumber_58 : decode cX2_readNumber 58 = .ok (.iload_n 1, 1) := by decide +kernel
theorem dX2_readNumber_59 : decode cX2_readNumber 59 = .ok (.invokestatic 64, 3) := by decide +kernel
theorem dX2_readNumber_62 : decode cX2_readNumber 62 = .ok (.ifCond .eq 23, 3) := by decide +kernel
theorem dX2_readNumber_65 : decode cX2_readNumber 65 = .ok (.aload_n 0, 1) := by decide +kernel
theorem dX2_readNumber_66 : decode cX2_readNumber 66 = .ok (.dup, 1) := by decide +kernel
theorem dX2_readNumber_67 : decode cX2_readNumber 67 = .ok (.getfield 15, 3) := by decide +kernel
theorem dX2_readNumber_70 : decode cX2_readNumber 70 = .ok (.iconst 1, 1) := by decide +kernel
theorem dX2_readNumber_71 : decode cX2_readNumber 71 = .ok (.iadd, 1) := by decide +kernel
theorem dX2_readNumber_72 : decode cX2_readNumber 72 = .ok (.putfield 15, 3) := by decide +kernel
theorem dX2_readNumber_75 : decode cX2_readNumber 75 = .ok (.aload_n 0, 1) := by decide +kernel
theorem dX2_readNumber_76 : decode cX2_readNumber 76 = .ok (.bipush 10, 2) := by decide +kernel
theorem dX2_readNumber_78 : decode cX2_readNumber 78 = .ok (.iload_n 2, 1) := by decide +kernel
theorem dX2_readNumber_79 : decode cX2_readNumber 79 = .ok (.imul, 1) := by decide +kernel
theorem dX2_readNumber_80 : decode cX2_readNumber 80 = .ok (.iload_n 3, 1) := by decide +kernel
theorem dX2_readNumber_81 : decode cX2_readNumber 81 = .ok (.iadd, 1) := by decide +kernel
theorem dX2_readNumber_82 : decode cX2_readNumber 82 = .ok (.putfield 68, 3) := by decide +kernel
theorem dX2_readNumber_85 : decode cX2_readNumber 85 = .ok (.iconst 1, 1) := by decide +kernel
theorem dX2_readNumber_86 : decode cX2_readNumber 86 = .ok (.ireturn, 1) := by decide +kernel
theorem dX2_isAllowed_0 : decode cX2_isAllowed 0 = .ok (.iload_n 1, 1) := by decide +kernel
theorem dX2_isAllowed_1 : decode cX2_isAllowed 1 = .ok (.ifCond .eq 10, 3) := by decide +kernel
theorem dX2_isAllowed_4 : decode cX2_isAllowed 4 = .ok (.iload_n 0, 1) := by decide +kernel
theorem dX2_isAllowed_5 : decode cX2_isAllowed 5 = .ok (.invokestatic 71, 3) := by decide +kernel
theorem dX2_isAllowed_8 : decode cX2_isAllowed 8 = .ok (.goto 7, 3) := by decide +kernel
theorem dX2_isAllowed_11 : decode cX2_isAllowed 11 = .ok (.iload_n 0, 1) := by decide +kernel
theorem dX2_isAllowed_12 : decode cX2_isAllowed 12 = .ok (.invokestatic 76, 3) := by decide +kernel
theorem dX2_isAllowed_15 : decode cX2_isAllowed 15 = .ok (.ireturn, 1) := by decide +kernel
theorem dX2_digitAt_0 : decode cX2_digitAt 0 = .ok (.aload_n 0, 1) := by decide +kernel
theorem dX2_digitAt_1 : decode cX2_digitAt 1 = .ok (.getfield 9, 3) := by decide +kernel
theorem dX2_digitAt_4 : decode cX2_digitAt 4 = .ok (.iload_n 1, 1) := by decide +kernel
theorem dX2_digitAt_5 : decode cX2_digitAt 5 = .ok (.invokevirtual 38, 3) := by decide +kernel
theorem dX2_digitAt_8 : decode cX2_digitAt 8 = .ok (.istore_n 2, 1) := by decide +kernel
theorem dX2_digitAt_9 : decode cX2_digitAt 9 = .ok (.iload_n 2, 1) := by decide +kernel
theorem dX2_digitAt_10 : decode cX2_digitAt 10 = .ok (.bipush 48, 2) := by decide +kernel
theorem dX2_digitAt_12 : decode cX2_digitAt 12 = .ok (.if_icmp .lt 16, 3) := by decide +kernel
theorem dX2_digitAt_15 : decode cX2_digitAt 15 = .ok (.iload_n 2, 1) := by decide +kernel
theorem dX2_digitAt_16 : decode cX2_digitAt 16 = .ok (.bipush 57, 2) := by decide +kernel
theorem dX2_digitAt_18 : decode cX2_digitAt 18 = .ok (.if_icmp .gt 10, 3) := by decide +kernel
theorem dX2_digitAt_21 : decode cX2_digitAt 21 = .ok (.iload_n 2, 1) := by decide +kernel
theorem dX2_digitAt_22 : decode cX2_digitAt 22 = .ok (.bipush 48, 2) := by decide +kernel
theorem dX2_digitAt_24 : decode cX2_digitAt 24 = .ok (.isub, 1) := by decide +kernel
theorem dX2_digitAt_25 : decode cX2_digitAt 25 = .ok (.goto 4, 3) := by decide +kernel
theorem dX2_digitAt_28 : decode cX2_digitAt 28 = .ok (.iconst (-1), 1) := by decide +kernel
theorem dX2_digitAt_29 : decode cX2_digitAt 29 = .ok (.ireturn, 1) := by decide +kernel
theorem dX3_init_0 : decode cX3_init 0 = .ok (.aload_n 0, 1) := by decide +kernel
theorem dX3_init_1 : decode cX3_init 1 = .ok (.invokespecial 3, 3) := by decide +kernel
theorem dX3_init_4 : decode cX3_init 4 = .ok (.aload_n 0, 1) := by decide +kernel
theorem dX3_init_5 : decode cX3_init 5 = .ok (.bipush 60, 2) := by decide +kernel
theorem dX3_init_7 : decode cX3_init 7 = .ok (.newarray .char, 2) := by decide +kernel
theorem dX3_init_9 : decode cX3_init 9 = .ok (.putfield 9, 3) := by decide +kernel
theorem dX3_init_12 : decode cX3_init 12 = .ok (.return_, 1) := by decide +kernel
theorem dX3_add_0 : decode cX3_add 0 = .ok (.aload_n 0, 1) := by decide +kernel
theorem dX3_add_1 : decode cX3_add 1 = .ok (.getfield 15, 3) := by decide +kernel
theorem dX3_add_4 : decode cX3_add 4 = .ok (.iconst 0, 1) := by decide +kernel
theorem dX3_add_5 : decode cX3_add 5 = .ok (.bipush 59, 2) := by decide +kernel
theorem dX3_add_7 : decode cX3_add 7 = .ok (.invokestatic 19, 3) := by decide +kernel
theorem dX3_add_10 : decode cX3_add 10 = .ok (.ifCond .eq 23, 3) := by decide +kernel
theorem dX3_add_13 : decode cX3_add 13 = .ok (.aload_n 0, 1) := by decide +kernel
theorem dX3_add_14 : decode cX3_add 14 = .ok (.getfield 9, 3) := by decide +kernel
theorem dX3_add_17 : decode cX3_add 17 = .ok (.aload_n 0, 1) := by decide +kernel
theorem dX3_add_18 : decode cX3_add 18 = .ok (.getfield 15, 3) := by decide +kernel
theorem dX3_add_21 : decode cX3_add 21 = .ok (.iload_n 1, 1) := by decide +kernel
theorem dX3_add_22 : decode cX3_add 22 = .ok (.castore, 1) := by decide +kernel
theorem dX3_add_23 : decode cX3_add 23 = .ok (.aload_n 0, 1) := by decide +kernel
theorem dX3_add_24 : decode cX3_add 24 = .ok (.dup, 1) := by decide +kernel
theorem dX3_add_25 : decode cX3_add 25 = .ok (.getfield 15, 3) := by decide +kernel
theorem dX3_add_28 : decode cX3_add 28 = .ok (.iconst 1, 1) := by decide +kernel
theorem dX3_add_29 : decode cX3_add 29 = .ok (.iadd, 1) := by decide +kernel
theorem dX3_add_30 : decode cX3_add 30 = .ok (.putfield 15, 3) := by decide +kernel
theorem dX3_add_33 : decode cX3_add 33 = .ok (.return_, 1) := by decide +kernel
theorem dX3_signAt_0 : decode cX3_signAt 0 = .ok (.iload_n 1, 1) := by decide +kernel
theorem dX3_signAt_1 : decode cX3_signAt 1 = .ok (.iconst 0, 1) := by decide +kernel
theorem dX3_signAt_2 : decode cX3_signAt 2 = .ok (.bipush 59, 2) := by decide +kernel
theorem dX3_signAt_4 : decode cX3_signAt 4 = .ok (.invokestatic 19, 3) := by decide +kernel
theorem dX3_signAt_7 : decode cX3_signAt 7 = .ok (.ifCond .eq 20, 3) := by decide +kernel
theorem dX3_signAt_10 : decode cX3_signAt 10 = .ok (.iload_n 1, 1) := by decide +kernel
theorem dX3_signAt_11 : decode cX3_signAt 11 = .ok (.aload_n 0, 1) := by decide +kernel
theorem dX3_signAt_12 : decode cX3_signAt 12 = .ok (.getfield 15, 3) := by decide +kernel
theorem dX3_signAt_15 : decode cX3_signAt 15 = .ok (.if_icmp .ge 12, 3) := by decide +kernel
theorem dX3_signAt_18 : decode cX3_signAt 18 = .ok (.aload_n 0, 1) := by decide +kernel
theorem dX3_signAt_19 : decode cX3_signAt 19 = .ok (.getfield 9, 3) := by decide +kernel
theorem dX3_signAt_22 : decode cX3_signAt 22 = .ok (.iload_n 1, 1) := by decide +kernel
theorem dX3_signAt_23 : decode cX3_signAt 23 = .ok (.caload, 1) := by decide +kernel
theorem dX3_signAt_24 : decode cX3_signAt 24 = .ok (.goto 5, 3) := by decide +kernel
theorem dX3_signAt_27 : decode cX3_signAt 27 = .ok (.bipush 32, 2) := by decide +kernel
theorem dX3_signAt_29 : decode cX3_signAt 29 = .ok (.ireturn, 1) := by decide +kernel
theorem dX4_isGangway_0 : decode cX4_isGangway 0 = .ok (.iload_n 0, 1) := by decide +kernel
theorem dX4_isGangway_1 : decode cX4_isGangway 1 = .ok (.iconst 0, 1) := by decide +kernel
theorem dX4_isGangway_2 : decode cX4_isGangway 2 = .ok (.bipush 27, 2) := by decide +kernel
theorem dX4_isGangway_4 : decode cX4_isGangway 4 = .ok (.invokestatic 9, 3) := by decide +kernel
theorem dX4_isGangway_7 : decode cX4_isGangway 7 = .ok (.ifCond .ne 5, 3) := by decide +kernel
theorem dX4_isGangway_10 : decode cX4_isGangway 10 = .ok (.iconst 0, 1) := by decide +kernel
theorem dX4_isGangway_11 : decode cX4_isGangway 11 = .ok (.ireturn, 1) := by decide +kernel
theorem dX4_isGangway_12 : decode cX4_isGangway 12 = .ok (.iload_n 0, 1) := by decide +kernel
theorem dX4_isGangway_13 : decode cX4_isGangway 13 = .ok (.bipush 16, 2) := by decide +kernel
theorem dX4_isGangway_15 : decode cX4_isGangway 15 = .ok (.if_icmp .ge 10, 3) := by decide +kernel
theorem dX4_isGangway_18 : decode cX4_isGangway 18 = .ok (.iload_n 0, 1) := by decide +kernel
theorem dX4_isGangway_19 : decode cX4_isGangway 19 = .ok (.iconst 4, 1) := by decide +kernel
theorem dX4_isGangway_20 : decode cX4_isGangway 20 = .ok (.irem, 1) := by decide +kernel
theorem dX4_isGangway_21 : decode cX4_isGangway 21 = .ok (.iconst 3, 1) := by decide +kernel
theorem dX4_isGangway_22 : decode cX4_isGangway 22 = .ok (.if_icmp .eq 7, 3) := by decide +kernel
theorem dX4_isGangway_25 : decode cX4_isGangway 25 = .ok (.iconst 1, 1) := by decide +kernel
theorem dX4_isGangway_26 : decode cX4_isGangway 26 = .ok (.goto 4, 3) := by decide +kernel
theorem dX4_isGangway_29 : decode cX4_isGangway 29 = .ok (.iconst 0, 1) := by decide +kernel
theorem dX4_isGangway_30 : decode cX4_isGangway 30 = .ok (.ireturn, 1) := by decide +kernel
theorem dX4_lesserRoof_0 : decode cX4_lesserRoof 0 = .ok (.iload_n 0, 1) := by decide +kernel
theorem dX4_lesserRoof_1 : decode cX4_lesserRoof 1 = .ok (.bipush 16, 2) := by decide +kernel
theorem dX4_lesserRoof_3 : decode cX4_lesserRoof 3 = .ok (.if_icmp .ge 7, 3) := by decide +kernel
theorem dX4_lesserRoof_6 : decode cX4_lesserRoof 6 = .ok (.iload_n 0, 1) := by decide +kernel
theorem dX4_lesserRoof_7 : decode cX4_lesserRoof 7 = .ok (.goto 7, 3) := by decide +kernel
theorem dX4_lesserRoof_10 : decode cX4_lesserRoof 10 = .ok (.iload_n 0, 1) := by decide +kernel
theorem dX4_lesserRoof_11 : decode cX4_lesserRoof 11 = .ok (.bipush 16, 2) := by decide +kernel
theorem dX4_lesserRoof_13 : decode cX4_lesserRoof 13 = .ok (.isub, 1) := by decide +kernel
theorem dX4_lesserRoof_14 : decode cX4_lesserRoof 14 = .ok (.ireturn, 1) := by decide +kernel
theorem dX4_greaterRoof_0 : decode cX4_greaterRoof 0 = .ok (.iload_n 0, 1) := by decide +kernel
theorem dX4_greaterRoof_1 : decode cX4_greaterRoof 1 = .ok (.invokestatic 13, 3) := by decide +kernel
theorem dX4_greaterRoof_4 : decode cX4_greaterRoof 4 = .ok (.iload_n 0, 1) := by decide +kernel
theorem dX4_greaterRoof_5 : decode cX4_greaterRoof 5 = .ok (.bipush 16, 2) := by decide +kernel
theorem dX4_greaterRoof_7 : decode cX4_greaterRoof 7 = .ok (.if_icmp .ge 7, 3) := by decide +kernel
theorem dX4_greaterRoof_10 : decode cX4_greaterRoof 10 = .ok (.iconst 1, 1) := by decide +kernel
theorem dX4_greaterRoof_11 : decode cX4_greaterRoof 11 = .ok (.goto 4, 3) := by decide +kernel
theorem dX4_greaterRoof_14 : decode cX4_greaterRoof 14 = .ok (.iconst 4, 1) := by decide +kernel
theorem dX4_greaterRoof_15 : decode cX4_greaterRoof 15 = .ok (.iadd, 1) := by decide +kernel
theorem dX4_greaterRoof_16 : decode cX4_greaterRoof 16 = .ok (.ireturn, 1) := by decide +kernel
theorem dX4_roofsOf_0 : decode cX4_roofsOf 0 = .ok (.iconst 1, 1) := by decide +kernel
theorem dX4_roofsOf_1 : decode cX4_roofsOf 1 = .ok (.iload_n 0, 1) := by decide +kernel
theorem dX4_roofsOf_2 : decode cX4_roofsOf 2 = .ok (.invokestatic 13, 3) := by decide +kernel
theorem dX4_roofsOf_5 : decode cX4_roofsOf 5 = .ok (.ishl, 1) := by decide +kernel
theorem dX4_roofsOf_6 : decode cX4_roofsOf 6 = .ok (.iconst 1, 1) := by decide +kernel
theorem dX4_roofsOf_7 : decode cX4_roofsOf 7 = .ok (.iload_n 0, 1) := by decide +kernel
theorem dX4_roofsOf_8 : decode cX4_roofsOf 8 = .ok (.invokestatic 19, 3) := by decide +kernel
theorem dX4_roofsOf_11 : decode cX4_roofsOf 11 = .ok (.ishl, 1) := by decide +kernel
theorem dX4_roofsOf_12 : decode cX4_roofsOf 12 = .ok (.ior, 1) := by decide +kernel
theorem dX4_roofsOf_13 : decode cX4_roofsOf 13 = .ok (.ireturn, 1) := by decide +kernel
theorem dX4_otherRoof_0 : decode cX4_otherRoof 0 = .ok (.iload_n 1, 1) := by decide +kernel
theorem dX4_otherRoof_1 : decode cX4_otherRoof 1 = .ok (.iload_n 0, 1) := by decide +kernel
theorem dX4_otherRoof_2 : decode cX4_otherRoof 2 = .ok (.invokestatic 13, 3) := by decide +kernel
theorem dX4_otherRoof_5 : decode cX4_otherRoof 5 = .ok (.if_icmp .ne 10, 3) := by decide +kernel
theorem dX4_otherRoof_8 : decode cX4_otherRoof 8 = .ok (.iload_n 0, 1) := by decide +kernel
theorem dX4_otherRoof_9 : decode cX4_otherRoof 9 = .ok (.invokestatic 19, 3) := by decide +kernel
theorem dX4_otherRoof_12 : decode cX4_otherRoof 12 = .ok (.goto 7, 3) := by decide +kernel
theorem dX4_otherRoof_15 : decode cX4_otherRoof 15 = .ok (.iload_n 0, 1) := by decide +kernel
theorem dX4_otherRoof_16 : decode cX4_otherRoof 16 = .ok (.invokestatic 13, 3) := by decide +kernel
theorem dX4_otherRoof_19 : decode cX4_otherRoof 19 = .ok (.ireturn, 1) := by decide +kernel
theorem dX4_gangwaysOf_0 : decode cX4_gangwaysOf 0 = .ok (.iconst 0, 1) := by decide +kernel
theorem dX4_gangwaysOf_1 : decode cX4_gangwaysOf 1 = .ok (.istore_n 1, 1) := by decide +kernel
theorem dX4_gangwaysOf_2 : decode cX4_gangwaysOf 2 = .ok (.iconst 0, 1) := by decide +kernel
theorem dX4_gangwaysOf_3 : decode cX4_gangwaysOf 3 = .ok (.istore_n 2, 1) := by decide +kernel
theorem dX4_gangwaysOf_4 : decode cX4_gangwaysOf 4 = .ok (.iload_n 2, 1) := by decide +kernel
theorem dX4_gangwaysOf_5 : decode cX4_gangwaysOf 5 = .ok (.bipush 28, 2) := by decide +kernel
theorem dX4_gangwaysOf_7 : decode cX4_gangwaysOf 7 = .ok (.if_icmp .ge 33, 3) := by decide +kernel
theorem dX4_gangwaysOf_10 : decode cX4_gangwaysOf 10 = .ok (.iload_n 2, 1) := by decide +kernel
theorem dX4_gangwaysOf_11 : decode cX4_gangwaysOf 11 = .ok (.invokestatic 22, 3) := by decide +kernel
theorem dX4_gangwaysOf_14 : decode cX4_gangwaysOf 14 = .ok (.ifCond .eq 20, 3) := by decide +kernel
theorem dX4_gangwaysOf_17 : decode cX4_gangwaysOf 17 = .ok (.iload_n 2, 1) := by decide +kernel
theorem dX4_gangwaysOf_18 : decode cX4_gangwaysOf 18 = .ok (.invokestatic 26, 3) := by decide +kernel
theorem dX4_gangwaysOf_21 : decode cX4_gangwaysOf 21 = .ok (.iload_n 0, 1) := by decide +kernel
theorem dX4_gangwaysOf_22 : decode cX4_gangwaysOf 22 = .ok (.invokestatic 29, 3) := by decide +kernel
theorem dX4_gangwaysOf_25 : decode cX4_gangwaysOf 25 = .ok (.ifCond .eq 9, 3) := by decide +kernel
theorem dX4_gangwaysOf_28 : decode cX4_gangwaysOf 28 = .ok (.iload_n 1, 1) := by decide +kernel
theorem dX4_gangwaysOf_29 : decode cX4_gangwaysOf 29 = .ok (.iconst 1, 1) := by decide +kernel
theorem dX4_gangwaysOf_30 : decode cX4_gangwaysOf 30 = .ok (.iload_n 2, 1) := by decide +kernel
theorem dX4_gangwaysOf_31 : decode cX4_gangwaysOf 31 = .ok (.ishl, 1) := by decide +kernel
theorem dX4_gangwaysOf_32 : decode cX4_gangwaysOf 32 = .ok (.ior, 1) := by decide +kernel
theorem dX4_gangwaysOf_33 : decode cX4_gangwaysOf 33 = .ok (.istore_n 1, 1) := by decide +kernel
theorem dX4_gangwaysOf_34 : decode cX4_gangwaysOf 34 = .ok (.iinc 2 1, 3) := by decide +kernel
theorem dX4_gangwaysOf_37 : decode cX4_gangwaysOf 37 = .ok (.goto (-33), 3) := by decide +kernel
theorem dX4_gangwaysOf_40 : decode cX4_gangwaysOf 40 = .ok (.iload_n 1, 1) := by decide +kernel
theorem dX4_gangwaysOf_41 : decode cX4_gangwaysOf 41 = .ok (.ireturn, 1) := by decide +kernel
theorem dX4_nextRoof_0 : decode cX4_nextRoof 0 = .ok (.iload_n 1, 1) := by decide +kernel
theorem dX4_nextRoof_1 : decode cX4_nextRoof 1 = .ok (.tableswitch 70 0 2 #[27, 42, 56], 27) := by decide +kernel
theorem dX4_nextRoof_28 : decode cX4_nextRoof 28 = .ok (.iload_n 0, 1) := by decide +kernel
theorem dX4_nextRoof_29 : decode cX4_nextRoof 29 = .ok (.iconst 4, 1) := by decide +kernel
theorem dX4_nextRoof_30 : decode cX4_nextRoof 30 = .ok (.irem, 1) := by decide +kernel
theorem dX4_nextRoof_31 : decode cX4_nextRoof 31 = .ok (.iconst 3, 1) := by decide +kernel
theorem dX4_nextRoof_32 : decode cX4_nextRoof 32 = .ok (.if_icmp .ge 9, 3) := by decide +kernel
theorem dX4_nextRoof_35 : decode cX4_nextRoof 35 = .ok (.iload_n 0, 1) := by decide +kernel
theorem dX4_nextRoof_36 : decode cX4_nextRoof 36 = .ok (.iconst 1, 1) := by decide +kernel
theorem dX4_nextRoof_37 : decode cX4_nextRoof 37 = .ok (.iadd, 1) := by decide +kernel
theorem dX4_nextRoof_38 : decode cX4_nextRoof 38 = .ok (.goto 4, 3) := by decide +kernel
theorem dX4_nextRoof_41 : decode cX4_nextRoof 41 = .ok (.iconst (-1), 1) := by decide +kernel
theorem dX4_nextRoof_42 : decode cX4_nextRoof 42 = .ok (.ireturn, 1) := by decide +kernel
theorem dX4_nextRoof_43 : decode cX4_nextRoof 43 = .ok (.iload_n 0, 1) := by decide +kernel
theorem dX4_nextRoof_44 : decode cX4_nextRoof 44 = .ok (.bipush 12, 2) := by decide +kernel
theorem dX4_nextRoof_46 : decode cX4_nextRoof 46 = .ok (.if_icmp .ge 9, 3) := by decide +kernel
theorem dX4_nextRoof_49 : decode cX4_nextRoof 49 = .ok (.iload_n 0, 1) := by decide +kernel
theorem dX4_nextRoof_50 : decode cX4_nextRoof 50 = .ok (.iconst 4, 1) := by decide +kernel
theorem dX4_nextRoof_51 : decode cX4_nextRoof 51 = .ok (.iadd, 1) := by decide +kernel
theorem dX4_nextRoof_52 : decode cX4_nextRoof 52 = .ok (.goto 4, 3) := by decide +kernel
theorem dX4_nextRoof_55 : decode cX4_nextRoof 55 = .ok (.iconst (-1), 1) := by decide +kernel
theorem dX4_nextRoof_56 : decode cX4_nextRoof 56 = .ok (.ireturn, 1) := by decide +kernel
theorem dX4_nextRoof_57 : decode cX4_nextRoof 57 = .ok (.iload_n 0, 1) := by decide +kernel
theorem dX4_nextRoof_58 : decode cX4_nextRoof 58 = .ok (.iconst 4, 1) := by decide +kernel
theorem dX4_nextRoof_59 : decode cX4_nextRoof 59 = .ok (.irem, 1) := by decide +kernel
theorem dX4_nextRoof_60 : decode cX4_nextRoof 60 = .ok (.ifCond .le 9, 3) := by decide +kernel
theorem dX4_nextRoof_63 : decode cX4_nextRoof 63 = .ok (.iload_n 0, 1) := by decide +kernel
theorem dX4_nextRoof_64 : decode cX4_nextRoof 64 = .ok (.iconst 1, 1) := by decide +kernel
theorem dX4_nextRoof_65 : decode cX4_nextRoof 65 = .ok (.isub, 1) := by decide +kernel
theorem dX4_nextRoof_66 : decode cX4_nextRoof 66 = .ok (.goto 4, 3) := by decide +kernel
theorem dX4_nextRoof_69 : decode cX4_nextRoof 69 = .ok (.iconst (-1), 1) := by decide +kernel
theorem dX4_nextRoof_70 : decode cX4_nextRoof 70 = .ok (.ireturn, 1) := by decide +kernel
theorem dX4_nextRoof_71 : decode cX4_nextRoof 71 = .ok (.iload_n 0, 1) := by decide +kernel
theorem dX4_nextRoof_72 : decode cX4_nextRoof 72 = .ok (.iconst 4, 1) := by decide +kernel
theorem dX4_nextRoof_73 : decode cX4_nextRoof 73 = .ok (.if_icmp .lt 9, 3) := by decide +kernel
theorem dX4_nextRoof_76 : decode cX4_nextRoof 76 = .ok (.iload_n 0, 1) := by decide +kernel
theorem dX4_nextRoof_77 : decode cX4_nextRoof 77 = .ok (.iconst 4, 1) := by decide +kernel
theorem dX4_nextRoof_78 : decode cX4_nextRoof 78 = .ok (.isub, 1) := by decide +kernel
theorem dX4_nextRoof_79 : decode cX4_nextRoof 79 = .ok (.goto 4, 3) := by decide +kernel
theorem dX4_nextRoof_82 : decode cX4_nextRoof 82 = .ok (.iconst (-1), 1) := by decide +kernel
theorem dX4_nextRoof_83 : decode cX4_nextRoof 83 = .ok (.ireturn, 1) := by decide +kernel
theorem dX4_roofAndNext_0 : decode cX4_roofAndNext 0 = .ok (.iconst 0, 1) := by decide +kernel
theorem dX4_roofAndNext_1 : decode cX4_roofAndNext 1 = .ok (.istore_n 3, 1) := by decide +kernel
theorem dX4_roofAndNext_2 : decode cX4_roofAndNext 2 = .ok (.iload_n 0, 1) := by decide +kernel
theorem dX4_roofAndNext_3 : decode cX4_roofAndNext 3 = .ok (.istore 4, 2) := by decide +kernel
theorem dX4_roofAndNext_5 : decode cX4_roofAndNext 5 = .ok (.iconst 0, 1) := by decide +kernel
theorem dX4_roofAndNext_6 : decode cX4_roofAndNext 6 = .ok (.istore 5, 2) := by decide +kernel
theorem dX4_roofAndNext_8 : decode cX4_roofAndNext 8 = .ok (.iload 5, 2) := by decide +kernel
theorem dX4_roofAndNext_10 : decode cX4_roofAndNext 10 = .ok (.iload_n 2, 1) := by decide +kernel
theorem dX4_roofAndNext_11 : decode cX4_roofAndNext 11 = .ok (.if_icmp .gt 30, 3) := by decide +kernel
theorem dX4_roofAndNext_14 : decode cX4_roofAndNext 14 = .ok (.iload 4, 2) := by decide +kernel
theorem dX4_roofAndNext_16 : decode cX4_roofAndNext 16 = .ok (.iconst (-1), 1) := by decide +kernel
theorem dX4_roofAndNext_17 : decode cX4_roofAndNext 17 = .ok (.if_icmp .eq 24, 3) := by decide +kernel
theorem dX4_roofAndNext_20 : decode cX4_roofAndNext 20 = .ok (.iload_n 3, 1) := by decide +kernel
theorem dX4_roofAndNext_21 : decode cX4_roofAndNext 21 = .ok (.iconst 1, 1) := by decide +kernel
theorem dX4_roofAndNext_22 : decode cX4_roofAndNext 22 = .ok (.iload 4, 2) := by decide +kernel
theorem dX4_roofAndNext_24 : decode cX4_roofAndNext 24 = .ok (.ishl, 1) := by decide +kernel
theorem dX4_roofAndNext_25 : decode cX4_roofAndNext 25 = .ok (.ior, 1) := by decide +kernel
theorem dX4_roofAndNext_26 : decode cX4_roofAndNext 26 = .ok (.istore_n 3, 1) := by decide +kernel
theorem dX4_roofAndNext_27 : decode cX4_roofAndNext 27 = .ok (.iload 4, 2) := by decide +kernel
theorem dX4_roofAndNext_29 : decode cX4_roofAndNext 29 = .ok (.iload_n 1, 1) := by decide +kernel
theorem dX4_roofAndNext_30 : decode cX4_roofAndNext 30 = .ok (.invokestatic 33, 3) := by decide +kernel
theorem dX4_roofAndNext_33 : decode cX4_roofAndNext 33 = .ok (.istore 4, 2) := by decide +kernel
theorem dX4_roofAndNext_35 : decode cX4_roofAndNext 35 = .ok (.iinc 5 1, 3) := by decide +kernel
theorem dX4_roofAndNext_38 : decode cX4_roofAndNext 38 = .ok (.goto (-30), 3) := by decide +kernel
theorem dX4_roofAndNext_41 : decode cX4_roofAndNext 41 = .ok (.iload_n 3, 1) := by decide +kernel
theorem dX4_roofAndNext_42 : decode cX4_roofAndNext 42 = .ok (.ireturn, 1) := by decide +kernel
theorem dX4_roofAndNeighbours_0 : decode cX4_roofAndNeighbours 0 = .ok (.iconst 1, 1) := by decide +kernel
theorem dX4_roofAndNeighbours_1 : decode cX4_roofAndNeighbours 1 = .ok (.iload_n 0, 1) := by decide +kernel
theorem dX4_roofAndNeighbours_2 : decode cX4_roofAndNeighbours 2 = .ok (.ishl, 1) := by decide +kernel
theorem dX4_roofAndNeighbours_3 : decode cX4_roofAndNeighbours 3 = .ok (.istore_n 1, 1) := by decide +kernel
theorem dX4_roofAndNeighbours_4 : decode cX4_roofAndNeighbours 4 = .ok (.iconst 0, 1) := by decide +kernel
theorem dX4_roofAndNeighbours_5 : decode cX4_roofAndNeighbours 5 = .ok (.istore_n 2, 1) := by decide +kernel
theorem dX4_roofAndNeighbours_6 : decode cX4_roofAndNeighbours 6 = .ok (.iload_n 2, 1) := by decide +kernel
theorem dX4_roofAndNeighbours_7 : decode cX4_roofAndNeighbours 7 = .ok (.iconst 4, 1) := by decide +kernel
theorem dX4_roofAndNeighbours_8 : decode cX4_roofAndNeighbours 8 = .ok (.if_icmp .ge 26, 3) := by decide +kernel
theorem dX4_roofAndNeighbours_11 : decode cX4_roofAndNeighbours 11 = .ok (.iload_n 0, 1) := by decide +kernel
theorem dX4_roofAndNeighbours_12 : decode cX4_roofAndNeighbours 12 = .ok (.iload_n 2, 1) := by decide +kernel
theorem dX4_roofAndNeighbours_13 : decode cX4_roofAndNeighbours 13 = .ok (.invokestatic 33, 3) := by decide +kernel
theorem dX4_roofAndNeighbours_16 : decode cX4_roofAndNeighbours 16 = .ok (.istore_n 3, 1) := by decide +kernel
theorem dX4_roofAndNeighbours_17 : decode cX4_roofAndNeighbours 17 = .ok (.iload_n 3, 1) := by decide +kernel
theorem dX4_roofAndNeighbours_18 : decode cX4_roofAndNeighbours 18 = .ok (.iconst (-1), 1) := by decide +kernel
theorem dX4_roofAndNeighbours_19 : decode cX4_roofAndNeighbours 19 = .ok (.if_icmp .eq 9, 3) := by decide +kernel
theorem dX4_roofAndNeighbours_22 : decode cX4_roofAndNeighbours 22 = .ok (.iload_n 1, 1) := by decide +kernel
theorem dX4_roofAndNeighbours_23 : decode cX4_roofAndNeighbours 23 = .ok (.iconst 1, 1) := by decide +kernel
theorem dX4_roofAndNeighbours_24 : decode cX4_roofAndNeighbours 24 = .ok (.iload_n 3, 1) := by decide +kernel
theorem dX4_roofAndNeighbours_25 : decode cX4_roofAndNeighbours 25 = .ok (.ishl, 1) := by decide +kernel
theorem dX4_roofAndNeighbours_26 : decode cX4_roofAndNeighbours 26 = .ok (.ior, 1) := by decide +kernel
theorem dX4_roofAndNeighbours_27 : decode cX4_roofAndNeighbours 27 = .ok (.istore_n 1, 1) := by decide +kernel
theorem dX4_roofAndNeighbours_28 : decode cX4_roofAndNeighbours 28 = .ok (.iinc 2 1, 3) := by decide +kernel
theorem dX4_roofAndNeighbours_31 : decode cX4_roofAndNeighbours 31 = .ok (.goto (-25), 3) := by decide +kernel
theorem dX4_roofAndNeighbours_34 : decode cX4_roofAndNeighbours 34 = .ok (.iload_n 1, 1) := by decide +kernel
theorem dX4_roofAndNeighbours_35 : decode cX4_roofAndNeighbours 35 = .ok (.ireturn, 1) := by decide +kernel
theorem dX5_init_0 : decode cX5_init 0 = .ok (.aload_n 0, 1) := by decide +kernel
theorem dX5_init_1 : decode cX5_init 1 = .ok (.invokespecial 3, 3) := by decide +kernel
theorem dX5_init_4 : decode cX5_init 4 = .ok (.aload_n 0, 1) := by decide +kernel
theorem dX5_init_5 : decode cX5_init 5 = .ok (.bipush 16, 2) := by decide +kernel
theorem dX5_init_7 : decode cX5_init 7 = .ok (.newarray .int, 2) := by decide +kernel
theorem dX5_init_9 : decode cX5_init 9 = .ok (.putfield 9, 3) := by decide +kernel
theorem dX5_init_12 : decode cX5_init 12 = .ok (.aload_n 0, 1) := by decide +kernel
theorem dX5_init_13 : decode cX5_init 13 = .ok (.bipush 16, 2) := by decide +kernel
theorem dX5_init_15 : decode cX5_init 15 = .ok (.newarray .int, 2) := by decide +kernel
theorem dX5_init_17 : decode cX5_init 17 = .ok (.putfield 15, 3) := by decide +kernel
theorem dX5_init_20 : decode cX5_init 20 = .ok (.return_, 1) := by decide +kernel
theorem dX5_strongestByJoining_0 : decode cX5_strongestByJoining 0 = .ok (.iload_n 2, 1) := by decide +kernel
theorem dX5_strongestByJoining_1 : decode cX5_strongestByJoining 1 = .ok (.iload_n 3, 1) := by decide +kernel
theorem dX5_strongestByJoining_2 : decode cX5_strongestByJoining 2 = .ok (.if_icmp .ne 6, 3) := by decide +kernel
theorem dX5_strongestByJoining_5 : decode cX5_strongestByJoining 5 = .ok (.bipush 10, 2) := by decide +kernel
theorem dX5_strongestByJoining_7 : decode cX5_strongestByJoining 7 = .ok (.ireturn, 1) := by decide +kernel
theorem dX5_strongestByJoining_8 : decode cX5_strongestByJoining 8 = .ok (.iconst 0, 1) := by decide +kernel
theorem dX5_strongestByJoining_9 : decode cX5_strongestByJoining 9 = .ok (.istore 4, 2) := by decide +kernel
theorem dX5_strongestByJoining_11 : decode cX5_strongestByJoining 11 = .ok (.iload 4, 2) := by decide +kernel
theorem dX5_strongestByJoining_13 : decode cX5_strongestByJoining 13 = .ok (.bipush 16, 2) := by decide +kernel
theorem dX5_strongestByJoining_15 : decode cX5_strongestByJoining 15 = .ok (.if_icmp .ge 18, 3) := by decide +kernel
theorem dX5_strongestByJoining_18 : decode cX5_strongestByJoining 18 = .ok (.aload_n 0, 1) := by decide +kernel
theorem dX5_strongestByJoining_19 : decode cX5_strongestByJoining 19 = .ok (.getfield 9, 3) := by decide +kernel
theorem dX5_strongestByJoining_22 : decode cX5_strongestByJoining 22 = .ok (.iload 4, 2) := by decide +kernel
theorem dX5_strongestByJoining_24 : decode cX5_strongestByJoining 24 = .ok (.iload 4, 2) := by decide +kernel
theorem dX5_strongestByJoining_26 : decode cX5_strongestByJoining 26 = .ok (.iastore, 1) := by decide +kernel
theorem dX5_strongestByJoining_27 : decode cX5_strongestByJoining 27 = .ok (.iinc 4 1, 3) := by decide +kernel
theorem dX5_strongestByJoining_30 : decode cX5_strongestByJoining 30 = .ok (.goto (-19), 3) := by decide +kernel
theorem dX5_strongestByJoining_33 : decode cX5_strongestByJoining 33 = .ok (.bipush 9, 2) := by decide +kernel
theorem dX5_strongestByJoining_35 : decode cX5_strongestByJoining 35 = .ok (.istore 4, 2) := by decide +kernel
theorem dX5_strongestByJoining_37 : decode cX5_strongestByJoining 37 = .ok (.iload 4, 2) := by decide +kernel
theorem dX5_strongestByJoining_39 : decode cX5_strongestByJoining 39 = .ok (.ifCond .le 34, 3) := by decide +kernel
theorem dX5_strongestByJoining_42 : decode cX5_strongestByJoining 42 = .ok (.aload_n 0, 1) := by decide +kernel
theorem dX5_strongestByJoining_43 : decode cX5_strongestByJoining 43 = .ok (.aload_n 1, 1) := by decide +kernel
theorem dX5_strongestByJoining_44 : decode cX5_strongestByJoining 44 = .ok (.iload 4, 2) := by decide +kernel
theorem dX5_strongestByJoining_46 : decode cX5_strongestByJoining 46 = .ok (.invokevirtual 18, 3) := by decide +kernel
theorem dX5_strongestByJoining_49 : decode cX5_strongestByJoining 49 = .ok (.aload_n 0, 1) := by decide +kernel
theorem dX5_strongestByJoining_50 : decode cX5_strongestByJoining 50 = .ok (.getfield 9, 3) := by decide +kernel
theorem dX5_strongestByJoining_53 : decode cX5_strongestByJoining 53 = .ok (.iload_n 2, 1) := by decide +kernel
theorem dX5_strongestByJoining_54 : decode cX5_strongestByJoining 54 = .ok (.iaload, 1) := by decide +kernel
theorem dX5_strongestByJoining_55 : decode cX5_strongestByJoining 55 = .ok (.aload_n 0, 1) := by decide +kernel
theorem dX5_strongestByJoining_56 : decode cX5_strongestByJoining 56 = .ok (.getfield 9, 3) := by decide +kernel
theorem dX5_strongestByJoining_59 : decode cX5_strongestByJoining 59 = .ok (.iload_n 3, 1) := by decide +kernel
theorem dX5_strongestByJoining_60 : decode cX5_strongestByJoining 60 = .ok (.iaload, 1) := by decide +kernel
theorem dX5_strongestByJoining_61 : decode cX5_strongestByJoining 61 = .ok (.if_icmp .ne 6, 3) := by decide +kernel
theorem dX5_strongestByJoining_64 : decode cX5_strongestByJoining 64 = .ok (.iload 4, 2) := by decide +kernel
theorem dX5_strongestByJoining_66 : decode cX5_strongestByJoining 66 = .ok (.ireturn, 1) := by decide +kernel
theorem dX5_strongestByJoining_67 : decode cX5_strongestByJoining 67 = .ok (.iinc 4 (-1), 3) := by decide +kernel
theorem dX5_strongestByJoining_70 : decode cX5_strongestByJoining 70 = .ok (.goto (-33), 3) := by decide +kernel
theorem dX5_strongestByJoining_73 : decode cX5_strongestByJoining 73 = .ok (.bipush (-4), 2) := by decide +kernel
theorem dX5_strongestByJoining_75 : decode cX5_strongestByJoining 75 = .ok (.ireturn, 1) := by decide +kernel
theorem dX5_joinOver_0 : decode cX5_joinOver 0 = .ok (.iconst 0, 1) := by decide +kernel
theorem dX5_joinOver_1 : decode cX5_joinOver 1 = .ok (.istore_n 3, 1) := by decide +kernel
theorem dX5_joinOver_2 : decode cX5_joinOver 2 = .ok (.iload_n 3, 1) := by decide +kernel
theorem dX5_joinOver_3 : decode cX5_joinOver 3 = .ok (.bipush 28, 2) := by decide +kernel
theorem dX5_joinOver_5 : decode cX5_joinOver 5 = .ok (.if_icmp .ge 48, 3) := by decide +kernel
theorem dX5_joinOver_8 : decode cX5_joinOver 8 = .ok (.iload_n 3, 1) := by decide +kernel
theorem dX5_joinOver_9 : decode cX5_joinOver 9 = .ok (.invokestatic 22, 3) := by decide +kernel
theorem dX5_joinOver_12 : decode cX5_joinOver 12 = .ok (.ifCond .eq 35, 3) := by decide +kernel
theorem dX5_joinOver_15 : decode cX5_joinOver 15 = .ok (.aload_n 1, 1) := by decide +kernel
theorem dX5_joinOver_16 : decode cX5_joinOver 16 = .ok (.getfield 28, 3) := by decide +kernel
theorem dX5_joinOver_19 : decode cX5_joinOver 19 = .ok (.iload_n 3, 1) := by decide +kernel
theorem dX5_joinOver_20 : decode cX5_joinOver 20 = .ok (.iaload, 1) := by decide +kernel
theorem dX5_joinOver_21 : decode cX5_joinOver 21 = .ok (.iload_n 2, 1) := by decide +kernel
theorem dX5_joinOver_22 : decode cX5_joinOver 22 = .ok (.if_icmp .ne 25, 3) := by decide +kernel
theorem dX5_joinOver_25 : decode cX5_joinOver 25 = .ok (.aload_n 0, 1) := by decide +kernel
theorem dX5_joinOver_26 : decode cX5_joinOver 26 = .ok (.aload_n 0, 1) := by decide +kernel
theorem dX5_joinOver_27 : decode cX5_joinOver 27 = .ok (.getfield 9, 3) := by decide +kernel
theorem dX5_joinOver_30 : decode cX5_joinOver 30 = .ok (.iload_n 3, 1) := by decide +kernel
theorem dX5_joinOver_31 : decode cX5_joinOver 31 = .ok (.invokestatic 33, 3) := by decide +kernel
theorem dX5_joinOver_34 : decode cX5_joinOver 34 = .ok (.iaload, 1) := by decide +kernel
theorem dX5_joinOver_35 : decode cX5_joinOver 35 = .ok (.aload_n 0, 1) := by decide +kernel
theorem dX5_joinOver_36 : decode cX5_joinOver 36 = .ok (.getfield 9, 3) := by decide +kernel
theorem dX5_joinOver_39 : decode cX5_joinOver 39 = .ok (.iload_n 3, 1) := by decide +kernel
theorem dX5_joinOver_40 : decode cX5_joinOver 40 = .ok (.invokestatic 37, 3) := by decide +kernel
theorem dX5_joinOver_43 : decode cX5_joinOver 43 = .ok (.iaload, 1) := by decide +kernel
theorem dX5_joinOver_44 : decode cX5_joinOver 44 = .ok (.invokevirtual 40, 3) := by decide +kernel
theorem dX5_joinOver_47 : decode cX5_joinOver 47 = .ok (.iinc 3 1, 3) := by decide +kernel
theorem dX5_joinOver_50 : decode cX5_joinOver 50 = .ok (.goto (-48), 3) := by decide +kernel
theorem dX5_joinOver_53 : decode cX5_joinOver 53 = .ok (.return_, 1) := by decide +kernel
theorem dX5_rename_0 : decode cX5_rename 0 = .ok (.iconst 0, 1) := by decide +kernel
theorem dX5_rename_1 : decode cX5_rename 1 = .ok (.istore_n 3, 1) := by decide +kernel
theorem dX5_rename_2 : decode cX5_rename 2 = .ok (.iload_n 3, 1) := by decide +kernel
theorem dX5_rename_3 : decode cX5_rename 3 = .ok (.bipush 16, 2) := by decide +kernel
theorem dX5_rename_5 : decode cX5_rename 5 = .ok (.if_icmp .ge 26, 3) := by decide +kernel
theorem dX5_rename_8 : decode cX5_rename 8 = .ok (.aload_n 0, 1) := by decide +kernel
theorem dX5_rename_9 : decode cX5_rename 9 = .ok (.getfield 9, 3) := by decide +kernel
theorem dX5_rename_12 : decode cX5_rename 12 = .ok (.iload_n 3, 1) := by decide +kernel
theorem dX5_rename_13 : decode cX5_rename 13 = .ok (.iaload, 1) := by decide +kernel
theorem dX5_rename_14 : decode cX5_rename 14 = .ok (.iload_n 1, 1) := by decide +kernel
theorem dX5_rename_15 : decode cX5_rename 15 = .ok (.if_icmp .ne 10, 3) := by decide +kernel
theorem dX5_rename_18 : decode cX5_rename 18 = .ok (.aload_n 0, 1) := by decide +kernel
theorem dX5_rename_19 : decode cX5_rename 19 = .ok (.getfield 9, 3) := by decide +kernel
theorem dX5_rename_22 : decode cX5_rename 22 = .ok (.iload_n 3, 1) := by decide +kernel
theorem dX5_rename_23 : decode cX5_rename 23 = .ok (.iload_n 2, 1) := by decide +kernel
theorem dX5_rename_24 : decode cX5_rename 24 = .ok (.iastore, 1) := by decide +kernel
theorem dX5_rename_25 : decode cX5_rename 25 = .ok (.iinc 3 1, 3) := by decide +kernel
theorem dX5_rename_28 : decode cX5_rename 28 = .ok (.goto (-26), 3) := by decide +kernel
theorem dX5_rename_31 : decode cX5_rename 31 = .ok (.return_, 1) := by decide +kernel
theorem dX5_strongestBySpreading_0 : decode cX5_strongestBySpreading 0 = .ok (.aload_n 0, 1) := by decide +kernel
theorem dX5_strongestBySpreading_1 : decode cX5_strongestBySpreading 1 = .ok (.getfield 15, 3) := by decide +kernel
theorem dX5_strongestBySpreading_4 : decode cX5_strongestBySpreading 4 = .ok (.iconst 0, 1) := by decide +kernel
theorem dX5_strongestBySpreading_5 : decode cX5_strongestBySpreading 5 = .ok (.invokestatic 44, 3) := by decide +kernel
theorem dX5_strongestBySpreading_8 : decode cX5_strongestBySpreading 8 = .ok (.aload_n 0, 1) := by decide +kernel
theorem dX5_strongestBySpreading_9 : decode cX5_strongestBySpreading 9 = .ok (.getfield 15, 3) := by decide +kernel
theorem dX5_strongestBySpreading_12 : decode cX5_strongestBySpreading 12 = .ok (.iload_n 2, 1) := by decide +kernel
theorem dX5_strongestBySpreading_13 : decode cX5_strongestBySpreading 13 = .ok (.bipush 10, 2) := by decide +kernel
theorem dX5_strongestBySpreading_15 : decode cX5_strongestBySpreading 15 = .ok (.iastore, 1) := by decide +kernel
theorem dX5_strongestBySpreading_16 : decode cX5_strongestBySpreading 16 = .ok (.iconst 1, 1) := by decide +kernel
theorem dX5_strongestBySpreading_17 : decode cX5_strongestBySpreading 17 = .ok (.istore 4, 2) := by decide +kernel
theorem dX5_strongestBySpreading_19 : decode cX5_strongestBySpreading 19 = .ok (.iconst 0, 1) := by decide +kernel
theorem dX5_strongestBySpreading_20 : decode cX5_strongestBySpreading 20 = .ok (.istore 5, 2) := by decide +kernel
theorem dX5_strongestBySpreading_22 : decode cX5_strongestBySpreading 22 = .ok (.iload 5, 2) := by decide +kernel
theorem dX5_strongestBySpreading_24 : decode cX5_strongestBySpreading 24 = .ok (.bipush 16, 2) := by decide +kernel
theorem dX5_strongestBySpreading_26 : decode cX5_strongestBySpreading 26 = .ok (.if_icmp .ge 21, 3) := by decide +kernel
theorem dX5_strongestBySpreading_29 : decode cX5_strongestBySpreading 29 = .ok (.iload 4, 2) := by decide +kernel
theorem dX5_strongestBySpreading_31 : decode cX5_strongestBySpreading 31 = .ok (.ifCond .eq 16, 3) := by decide +kernel
theorem dX5_strongestBySpreading_34 : decode cX5_strongestBySpreading 34 = .ok (.aload_n 0, 1) := by decide +kernel
theorem dX5_strongestBySpreading_35 : decode cX5_strongestBySpreading 35 = .ok (.aload_n 1, 1) := by decide +kernel
theorem dX5_strongestBySpreading_36 : decode cX5_strongestBySpreading 36 = .ok (.invokevirtual 50, 3) := by decide +kernel
theorem dX5_strongestBySpreading_39 : decode cX5_strongestBySpreading 39 = .ok (.istore 4, 2) := by decide +kernel
theorem dX5_strongestBySpreading_41 : decode cX5_strongestBySpreading 41 = .ok (.iinc 5 1, 3) := by decide +kernel
theorem dX5_strongestBySpreading_44 : decode cX5_strongestBySpreading 44 = .ok (.goto (-22), 3) := by decide +kernel
theorem dX5_strongestBySpreading_47 : decode cX5_strongestBySpreading 47 = .ok (.aload_n 0, 1) := by decide +kernel
theorem dX5_strongestBySpreading_48 : decode cX5_strongestBySpreading 48 = .ok (.getfield 15, 3) := by decide +kernel
theorem dX5_strongestBySpreading_51 : decode cX5_strongestBySpreading 51 = .ok (.iload_n 3, 1) := by decide +kernel
theorem dX5_strongestBySpreading_52 : decode cX5_strongestBySpreading 52 = .ok (.iaload, 1) := by decide +kernel
theorem dX5_strongestBySpreading_53 : decode cX5_strongestBySpreading 53 = .ok (.ifCond .le 12, 3) := by decide +kernel
theorem dX5_strongestBySpreading_56 : decode cX5_strongestBySpreading 56 = .ok (.aload_n 0, 1) := by decide +kernel
theorem dX5_strongestBySpreading_57 : decode cX5_strongestBySpreading 57 = .ok (.getfield 15, 3) := by decide +kernel
theorem dX5_strongestBySpreading_60 : decode cX5_strongestBySpreading 60 = .ok (.iload_n 3, 1) := by decide +kernel
theorem dX5_strongestBySpreading_61 : decode cX5_strongestBySpreading 61 = .ok (.iaload, 1) := by decide +kernel
theorem dX5_strongestBySpreading_62 : decode cX5_strongestBySpreading 62 = .ok (.goto 5, 3) := by decide +kernel
theorem dX5_strongestBySpreading_65 : decode cX5_strongestBySpreading 65 = .ok (.bipush (-4), 2) := by decide +kernel
theorem dX5_strongestBySpreading_67 : decode cX5_strongestBySpreading 67 = .ok (.ireturn, 1) := by decide +kernel
theorem dX5_spread_0 : decode cX5_spread 0 = .ok (.iconst 0, 1) := by decide +kernel
theorem dX5_spread_1 : decode cX5_spread 1 = .ok (.istore_n 2, 1) := by decide +kernel
theorem dX5_spread_2 : decode cX5_spread 2 = .ok (.iconst 0, 1) := by decide +kernel
theorem dX5_spread_3 : decode cX5_spread 3 = .ok (.istore_n 3, 1) := by decide +kernel
theorem dX5_spread_4 : decode cX5_spread 4 = .ok (.iload_n 3, 1) := by decide +kernel
theorem dX5_spread_5 : decode cX5_spread 5 = .ok (.bipush 28, 2) := by decide +kernel
theorem dX5_spread_7 : decode cX5_spread 7 = .ok (.if_icmp .ge 96, 3) := by decide +kernel
theorem dX5_spread_10 : decode cX5_spread 10 = .ok (.iload_n 3, 1) := by decide +kernel
theorem dX5_spread_11 : decode cX5_spread 11 = .ok (.invokestatic 22, 3) := by decide +kernel
theorem dX5_spread_14 : decode cX5_spread 14 = .ok (.ifCond .eq 83, 3) := by decide +kernel
theorem dX5_spread_17 : decode cX5_spread 17 = .ok (.iload_n 3, 1) := by decide +kernel
theorem dX5_spread_18 : decode cX5_spread 18 = .ok (.invokestatic 37, 3) := by decide +kernel
theorem dX5_spread_21 : decode cX5_spread 21 = .ok (.istore 4, 2) := by decide +kernel
theorem dX5_spread_23 : decode cX5_spread 23 = .ok (.iload_n 3, 1) := by decide +kernel
theorem dX5_spread_24 : decode cX5_spread 24 = .ok (.invokestatic 33, 3) := by decide +kernel
theorem dX5_spread_27 : decode cX5_spread 27 = .ok (.istore 5, 2) := by decide +kernel
theorem dX5_spread_29 : decode cX5_spread 29 = .ok (.aload_n 0, 1) := by decide +kernel
theorem dX5_spread_30 : decode cX5_spread 30 = .ok (.iload 5, 2) := by decide +kernel
theorem dX5_spread_32 : decode cX5_spread 32 = .ok (.aload_n 0, 1) := by decide +kernel
theorem dX5_spread_33 : decode cX5_spread 33 = .ok (.getfield 15, 3) := by decide +kernel
theorem dX5_spread_36 : decode cX5_spread 36 = .ok (.iload 4, 2) := by decide +kernel
theorem dX5_spread_38 : decode cX5_spread 38 = .ok (.iaload, 1) := by decide +kernel
theorem dX5_spread_39 : decode cX5_spread 39 = .ok (.aload_n 1, 1) := by decide +kernel
theorem dX5_spread_40 : decode cX5_spread 40 = .ok (.getfield 28, 3) := by decide +kernel
theorem dX5_spread_43 : decode cX5_spread 43 = .ok (.iload_n 3, 1) := by decide +kernel
theorem dX5_spread_44 : decode cX5_spread 44 = .ok (.iaload, 1) := by decide +kernel
theorem dX5_spread_45 : decode cX5_spread 45 = .ok (.invokestatic 54, 3) := by decide +kernel
theorem dX5_spread_48 : decode cX5_spread 48 = .ok (.invokevirtual 60, 3) := by decide +kernel
theorem dX5_spread_51 : decode cX5_spread 51 = .ok (.istore 6, 2) := by decide +kernel
theorem dX5_spread_53 : decode cX5_spread 53 = .ok (.aload_n 0, 1) := by decide +kernel
theorem dX5_spread_54 : decode cX5_spread 54 = .ok (.iload 4, 2) := by decide +kernel
theorem dX5_spread_56 : decode cX5_spread 56 = .ok (.aload_n 0, 1) := by decide +kernel
theorem dX5_spread_57 : decode cX5_spread 57 = .ok (.getfield 15, 3) := by decide +kernel
theorem dX5_spread_60 : decode cX5_spread 60 = .ok (.iload 5, 2) := by decide +kernel
theorem dX5_spread_62 : decode cX5_spread 62 = .ok (.iaload, 1) := by decide +kernel
theorem dX5_spread_63 : decode cX5_spread 63 = .ok (.aload_n 1, 1) := by decide +kernel
theorem dX5_spread_64 : decode cX5_spread 64 = .ok (.getfield 28, 3) := by decide +kernel
theorem dX5_spread_67 : decode cX5_spread 67 = .ok (.iload_n 3, 1) := by decide +kernel
theorem dX5_spread_68 : decode cX5_spread 68 = .ok (.iaload, 1) := by decide +kernel
theorem dX5_spread_69 : decode cX5_spread 69 = .ok (.invokestatic 54, 3) := by decide +kernel
theorem dX5_spread_72 : decode cX5_spread 72 = .ok (.invokevirtual 60, 3) := by decide +kernel
theorem dX5_spread_75 : decode cX5_spread 75 = .ok (.istore 7, 2) := by decide +kernel
theorem dX5_spread_77 : decode cX5_spread 77 = .ok (.iload_n 2, 1) := by decide +kernel
theorem dX5_spread_78 : decode cX5_spread 78 = .ok (.ifCond .ne 13, 3) := by decide +kernel
theorem dX5_spread_81 : decode cX5_spread 81 = .ok (.iload 6, 2) := by decide +kernel
theorem dX5_spread_83 : decode cX5_spread 83 = .ok (.ifCond .ne 8, 3) := by decide +kernel
theorem dX5_spread_86 : decode cX5_spread 86 = .ok (.iload 7, 2) := by decide +kernel
theorem dX5_spread_88 : decode cX5_spread 88 = .ok (.ifCond .eq 7, 3) := by decide +kernel
theorem dX5_spread_91 : decode cX5_spread 91 = .ok (.iconst 1, 1) := by decide +kernel
theorem dX5_spread_92 : decode cX5_spread 92 = .ok (.goto 4, 3) := by decide +kernel
theorem dX5_spread_95 : decode cX5_spread 95 = .ok (.iconst 0, 1) := by decide +kernel
theorem dX5_spread_96 : decode cX5_spread 96 = .ok (.istore_n 2, 1) := by decide +kernel
theorem dX5_spread_97 : decode cX5_spread 97 = .ok (.iinc 3 1, 3) := by decide +kernel
theorem dX5_spread_100 : decode cX5_spread 100 = .ok (.goto (-96), 3) := by decide +kernel
theorem dX5_spread_103 : decode cX5_spread 103 = .ok (.iload_n 2, 1) := by decide +kernel
theorem dX5_spread_104 : decode cX5_spread 104 = .ok (.ireturn, 1) := by decide +kernel
theorem dX5_raise_0 : decode cX5_raise 0 = .ok (.iload_n 2, 1) := by decide +kernel
theorem dX5_raise_1 : decode cX5_raise 1 = .ok (.aload_n 0, 1) := by decide +kernel
theorem dX5_raise_2 : decode cX5_raise 2 = .ok (.getfield 15, 3) := by decide +kernel
theorem dX5_raise_5 : decode cX5_raise 5 = .ok (.iload_n 1, 1) := by decide +kernel
theorem dX5_raise_6 : decode cX5_raise 6 = .ok (.iaload, 1) := by decide +kernel
theorem dX5_raise_7 : decode cX5_raise 7 = .ok (.if_icmp .gt 5, 3) := by decide +kernel
theorem dX5_raise_10 : decode cX5_raise 10 = .ok (.iconst 0, 1) := by decide +kernel
theorem dX5_raise_11 : decode cX5_raise 11 = .ok (.ireturn, 1) := by decide +kernel
theorem dX5_raise_12 : decode cX5_raise 12 = .ok (.aload_n 0, 1) := by decide +kernel
theorem dX5_raise_13 : decode cX5_raise 13 = .ok (.getfield 15, 3) := by decide +kernel
theorem dX5_raise_16 : decode cX5_raise 16 = .ok (.iload_n 1, 1) := by decide +kernel
theorem dX5_raise_17 : decode cX5_raise 17 = .ok (.iload_n 2, 1) := by decide +kernel
theorem dX5_raise_18 : decode cX5_raise 18 = .ok (.iastore, 1) := by decide +kernel
theorem dX5_raise_19 : decode cX5_raise 19 = .ok (.iconst 1, 1) := by decide +kernel
theorem dX5_raise_20 : decode cX5_raise 20 = .ok (.ireturn, 1) := by decide +kernel
theorem dX5_roofsFrom_0 : decode cX5_roofsFrom 0 = .ok (.iconst 1, 1) := by decide +kernel
theorem dX5_roofsFrom_1 : decode cX5_roofsFrom 1 = .ok (.iload_n 2, 1) := by decide +kernel
theorem dX5_roofsFrom_2 : decode cX5_roofsFrom 2 = .ok (.ishl, 1) := by decide +kernel
theorem dX5_roofsFrom_3 : decode cX5_roofsFrom 3 = .ok (.istore_n 3, 1) := by decide +kernel
theorem dX5_roofsFrom_4 : decode cX5_roofsFrom 4 = .ok (.iconst 0, 1) := by decide +kernel
theorem dX5_roofsFrom_5 : decode cX5_roofsFrom 5 = .ok (.istore 4, 2) := by decide +kernel
theorem dX5_roofsFrom_7 : decode cX5_roofsFrom 7 = .ok (.iload 4, 2) := by decide +kernel
theorem dX5_roofsFrom_9 : decode cX5_roofsFrom 9 = .ok (.bipush 16, 2) := by decide +kernel
theorem dX5_roofsFrom_11 : decode cX5_roofsFrom 11 = .ok (.if_icmp .ge 53, 3) := by decide +kernel
theorem dX5_roofsFrom_14 : decode cX5_roofsFrom 14 = .ok (.iconst 0, 1) := by decide +kernel
theorem dX5_roofsFrom_15 : decode cX5_roofsFrom 15 = .ok (.istore 5, 2) := by decide +kernel
theorem dX5_roofsFrom_17 : decode cX5_roofsFrom 17 = .ok (.iload 5, 2) := by decide +kernel
theorem dX5_roofsFrom_19 : decode cX5_roofsFrom 19 = .ok (.bipush 28, 2) := by decide +kernel
theorem dX5_roofsFrom_21 : decode cX5_roofsFrom 21 = .ok (.if_icmp .ge 37, 3) := by decide +kernel
theorem dX5_roofsFrom_24 : decode cX5_roofsFrom 24 = .ok (.iload 5, 2) := by decide +kernel
theorem dX5_roofsFrom_26 : decode cX5_roofsFrom 26 = .ok (.invokestatic 64, 3) := by decide +kernel
theorem dX5_roofsFrom_29 : decode cX5_roofsFrom 29 = .ok (.istore 6, 2) := by decide +kernel
theorem dX5_roofsFrom_31 : decode cX5_roofsFrom 31 = .ok (.aload_n 1, 1) := by decide +kernel
theorem dX5_roofsFrom_32 : decode cX5_roofsFrom 32 = .ok (.iload 5, 2) := by decide +kernel
theorem dX5_roofsFrom_34 : decode cX5_roofsFrom 34 = .ok (.invokevirtual 67, 3) := by decide +kernel
theorem dX5_roofsFrom_37 : decode cX5_roofsFrom 37 = .ok (.ifCond .eq 15, 3) := by decide +kernel
theorem dX5_roofsFrom_40 : decode cX5_roofsFrom 40 = .ok (.iload_n 3, 1) := by decide +kernel
theorem dX5_roofsFrom_41 : decode cX5_roofsFrom 41 = .ok (.iload 6, 2) := by decide +kernel
theorem dX5_roofsFrom_43 : decode cX5_roofsFrom 43 = .ok (.iand, 1) := by decide +kernel
theorem dX5_roofsFrom_44 : decode cX5_roofsFrom 44 = .ok (.ifCond .eq 8, 3) := by decide +kernel
theorem dX5_roofsFrom_47 : decode cX5_roofsFrom 47 = .ok (.iload_n 3, 1) := by decide +kernel
theorem dX5_roofsFrom_48 : decode cX5_roofsFrom 48 = .ok (.iload 6, 2) := by decide +kernel
theorem dX5_roofsFrom_50 : decode cX5_roofsFrom 50 = .ok (.ior, 1) := by decide +kernel
theorem dX5_roofsFrom_51 : decode cX5_roofsFrom 51 = .ok (.istore_n 3, 1) := by decide +kernel
theorem dX5_roofsFrom_52 : decode cX5_roofsFrom 52 = .ok (.iinc 5 1, 3) := by decide +kernel
theorem dX5_roofsFrom_55 : decode cX5_roofsFrom 55 = .ok (.goto (-38), 3) := by decide +kernel
theorem dX5_roofsFrom_58 : decode cX5_roofsFrom 58 = .ok (.iinc 4 1, 3) := by decide +kernel
theorem dX5_roofsFrom_61 : decode cX5_roofsFrom 61 = .ok (.goto (-54), 3) := by decide +kernel
theorem dX5_roofsFrom_64 : decode cX5_roofsFrom 64 = .ok (.iload_n 3, 1) := by decide +kernel
theorem dX5_roofsFrom_65 : decode cX5_roofsFrom 65 = .ok (.ireturn, 1) := by decide +kernel
theorem dX5_fewestWalks_0 : decode cX5_fewestWalks 0 = .ok (.iconst 1, 1) := by decide +kernel
theorem dX5_fewestWalks_1 : decode cX5_fewestWalks 1 = .ok (.aload_n 1, 1) := by decide +kernel
theorem dX5_fewestWalks_2 : decode cX5_fewestWalks 2 = .ok (.getfield 70, 3) := by decide +kernel
theorem dX5_fewestWalks_5 : decode cX5_fewestWalks 5 = .ok (.iload_n 2, 1) := by decide +kernel
theorem dX5_fewestWalks_6 : decode cX5_fewestWalks 6 = .ok (.iaload, 1) := by decide +kernel
theorem dX5_fewestWalks_7 : decode cX5_fewestWalks 7 = .ok (.ishl, 1) := by decide +kernel
theorem dX5_fewestWalks_8 : decode cX5_fewestWalks 8 = .ok (.istore 4, 2) := by decide +kernel
theorem dX5_fewestWalks_10 : decode cX5_fewestWalks 10 = .ok (.iconst 0, 1) := by decide +kernel
theorem dX5_fewestWalks_11 : decode cX5_fewestWalks 11 = .ok (.istore 5, 2) := by decide +kernel
theorem dX5_fewestWalks_13 : decode cX5_fewestWalks 13 = .ok (.iload 5, 2) := by decide +kernel
theorem dX5_fewestWalks_15 : decode cX5_fewestWalks 15 = .ok (.bipush 16, 2) := by decide +kernel
theorem dX5_fewestWalks_17 : decode cX5_fewestWalks 17 = .ok (.if_icmp .ge 31, 3) := by decide +kernel
theorem dX5_fewestWalks_20 : decode cX5_fewestWalks 20 = .ok (.iload 4, 2) := by decide +kernel
theorem dX5_fewestWalks_22 : decode cX5_fewestWalks 22 = .ok (.iload_n 3, 1) := by decide +kernel
theorem dX5_fewestWalks_23 : decode cX5_fewestWalks 23 = .ok (.invokestatic 73, 3) := by decide +kernel
theorem dX5_fewestWalks_26 : decode cX5_fewestWalks 26 = .ok (.ifCond .eq 6, 3) := by decide +kernel
theorem dX5_fewestWalks_29 : decode cX5_fewestWalks 29 = .ok (.iload 5, 2) := by decide +kernel
theorem dX5_fewestWalks_31 : decode cX5_fewestWalks 31 = .ok (.ireturn, 1) := by decide +kernel
theorem dX5_fewestWalks_32 : decode cX5_fewestWalks 32 = .ok (.aload_n 0, 1) := by decide +kernel
theorem dX5_fewestWalks_33 : decode cX5_fewestWalks 33 = .ok (.aload_n 1, 1) := by decide +kernel
theorem dX5_fewestWalks_34 : decode cX5_fewestWalks 34 = .ok (.iload_n 2, 1) := by decide +kernel
theorem dX5_fewestWalks_35 : decode cX5_fewestWalks 35 = .ok (.iload 4, 2) := by decide +kernel
theorem dX5_fewestWalks_37 : decode cX5_fewestWalks 37 = .ok (.invokevirtual 76, 3) := by decide +kernel
theorem dX5_fewestWalks_40 : decode cX5_fewestWalks 40 = .ok (.istore 4, 2) := by decide +kernel
theorem dX5_fewestWalks_42 : decode cX5_fewestWalks 42 = .ok (.iinc 5 1, 3) := by decide +kernel
theorem dX5_fewestWalks_45 : decode cX5_fewestWalks 45 = .ok (.goto (-32), 3) := by decide +kernel
theorem dX5_fewestWalks_48 : decode cX5_fewestWalks 48 = .ok (.bipush (-4), 2) := by decide +kernel
theorem dX5_fewestWalks_50 : decode cX5_fewestWalks 50 = .ok (.ireturn, 1) := by decide +kernel
theorem dX5_oneWalkFurther_0 : decode cX5_oneWalkFurther 0 = .ok (.iload_n 3, 1) := by decide +kernel
theorem dX5_oneWalkFurther_1 : decode cX5_oneWalkFurther 1 = .ok (.istore 4, 2) := by decide +kernel
theorem dX5_oneWalkFurther_3 : decode cX5_oneWalkFurther 3 = .ok (.iconst 0, 1) := by decide +kernel
theorem dX5_oneWalkFurther_4 : decode cX5_oneWalkFurther 4 = .ok (.istore 5, 2) := by decide +kernel
theorem dX5_oneWalkFurther_6 : decode cX5_oneWalkFurther 6 = .ok (.iload 5, 2) := by decide +kernel
theorem dX5_oneWalkFurther_8 : decode cX5_oneWalkFurther 8 = .ok (.bipush 28, 2) := by decide +kernel
theorem dX5_oneWalkFurther_10 : decode cX5_oneWalkFurther 10 = .ok (.if_icmp .ge 83, 3) := by decide +kernel
theorem dX5_oneWalkFurther_13 : decode cX5_oneWalkFurther 13 = .ok (.iload 5, 2) := by decide +kernel
theorem dX5_oneWalkFurther_15 : decode cX5_oneWalkFurther 15 = .ok (.invokestatic 37, 3) := by decide +kernel
theorem dX5_oneWalkFurther_18 : decode cX5_oneWalkFurther 18 = .ok (.istore 6, 2) := by decide +kernel
theorem dX5_oneWalkFurther_20 : decode cX5_oneWalkFurther 20 = .ok (.iload 5, 2) := by decide +kernel
theorem dX5_oneWalkFurther_22 : decode cX5_oneWalkFurther 22 = .ok (.invokestatic 33, 3) := by decide +kernel
theorem dX5_oneWalkFurther_25 : decode cX5_oneWalkFurther 25 = .ok (.istore 7, 2) := by decide +kernel
theorem dX5_oneWalkFurther_27 : decode cX5_oneWalkFurther 27 = .ok (.iload_n 3, 1) := by decide +kernel
theorem dX5_oneWalkFurther_28 : decode cX5_oneWalkFurther 28 = .ok (.iload 6, 2) := by decide +kernel
theorem dX5_oneWalkFurther_30 : decode cX5_oneWalkFurther 30 = .ok (.invokestatic 73, 3) := by decide +kernel
theorem dX5_oneWalkFurther_33 : decode cX5_oneWalkFurther 33 = .ok (.ifCond .eq 24, 3) := by decide +kernel
theorem dX5_oneWalkFurther_36 : decode cX5_oneWalkFurther 36 = .ok (.aload_n 1, 1) := by decide +kernel
theorem dX5_oneWalkFurther_37 : decode cX5_oneWalkFurther 37 = .ok (.iload_n 2, 1) := by decide +kernel
theorem dX5_oneWalkFurther_38 : decode cX5_oneWalkFurther 38 = .ok (.iload 5, 2) := by decide +kernel
theorem dX5_oneWalkFurther_40 : decode cX5_oneWalkFurther 40 = .ok (.iload 7, 2) := by decide +kernel
theorem dX5_oneWalkFurther_42 : decode cX5_oneWalkFurther 42 = .ok (.invokevirtual 80, 3) := by decide +kernel
theorem dX5_oneWalkFurther_45 : decode cX5_oneWalkFurther 45 = .ok (.ifCond .ne 12, 3) := by decide +kernel
theorem dX5_oneWalkFurther_48 : decode cX5_oneWalkFurther 48 = .ok (.iload 4, 2) := by decide +kernel
theorem dX5_oneWalkFurther_50 : decode cX5_oneWalkFurther 50 = .ok (.iconst 1, 1) := by decide +kernel
theorem dX5_oneWalkFurther_51 : decode cX5_oneWalkFurther 51 = .ok (.iload 7, 2) := by decide +kernel
theorem dX5_oneWalkFurther_53 : decode cX5_oneWalkFurther 53 = .ok (.ishl, 1) := by decide +kernel
theorem dX5_oneWalkFurther_54 : decode cX5_oneWalkFurther 54 = .ok (.ior, 1) := by decide +kernel
theorem dX5_oneWalkFurther_55 : decode cX5_oneWalkFurther 55 = .ok (.istore 4, 2) := by decide +kernel
theorem dX5_oneWalkFurther_57 : decode cX5_oneWalkFurther 57 = .ok (.iload_n 3, 1) := by decide +kernel
theorem dX5_oneWalkFurther_58 : decode cX5_oneWalkFurther 58 = .ok (.iload 7, 2) := by decide +kernel
theorem dX5_oneWalkFurther_60 : decode cX5_oneWalkFurther 60 = .ok (.invokestatic 73, 3) := by decide +kernel
theorem dX5_oneWalkFurther_63 : decode cX5_oneWalkFurther 63 = .ok (.ifCond .eq 24, 3) := by decide +kernel
theorem dX5_oneWalkFurther_66 : decode cX5_oneWalkFurther 66 = .ok (.aload_n 1, 1) := by decide +kernel
theorem dX5_oneWalkFurther_67 : decode cX5_oneWalkFurther 67 = .ok (.iload_n 2, 1) := by decide +kernel
theorem dX5_oneWalkFurther_68 : decode cX5_oneWalkFurther 68 = .ok (.iload 5, 2) := by decide +kernel
theorem dX5_oneWalkFurther_70 : decode cX5_oneWalkFurther 70 = .ok (.iload 6, 2) := by decide +kernel
theorem dX5_oneWalkFurther_72 : decode cX5_oneWalkFurther 72 = .ok (.invokevirtual 80, 3) := by decide +kernel
theorem dX5_oneWalkFurther_75 : decode cX5_oneWalkFurther 75 = .ok (.ifCond .ne 12, 3) := by decide +kernel
theorem dX5_oneWalkFurther_78 : decode cX5_oneWalkFurther 78 = .ok (.iload 4, 2) := by decide +kernel
theorem dX5_oneWalkFurther_80 : decode cX5_oneWalkFurther 80 = .ok (.iconst 1, 1) := by decide +kernel
theorem dX5_oneWalkFurther_81 : decode cX5_oneWalkFurther 81 = .ok (.iload 6, 2) := by decide +kernel
theorem dX5_oneWalkFurther_83 : decode cX5_oneWalkFurther 83 = .ok (.ishl, 1) := by decide +kernel
theorem dX5_oneWalkFurther_84 : decode cX5_oneWalkFurther 84 = .ok (.ior, 1) := by decide +kernel
theorem dX5_oneWalkFurther_85 : decode cX5_oneWalkFurther 85 = .ok (.istore 4, 2) := by decide +kernel
theorem dX5_oneWalkFurther_87 : decode cX5_oneWalkFurther 87 = .ok (.iinc 5 1, 3) := by decide +kernel
theorem dX5_oneWalkFurther_90 : decode cX5_oneWalkFurther 90 = .ok (.goto (-84), 3) := by decide +kernel
theorem dX5_oneWalkFurther_93 : decode cX5_oneWalkFurther 93 = .ok (.iload 4, 2) := by decide +kernel
theorem dX5_oneWalkFurther_95 : decode cX5_oneWalkFurther 95 = .ok (.ireturn, 1) := by decide +kernel
