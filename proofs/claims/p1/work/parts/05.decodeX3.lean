theorem dX3_init_0 : decode cX3_init 0 = .ok (.aload_n 0, 1) := by decide +kernel
theorem dX3_init_1 : decode cX3_init 1 = .ok (.invokespecial 3, 3) := by decide +kernel
theorem dX3_init_4 : decode cX3_init 4 = .ok (.aload_n 0, 1) := by decide +kernel
theorem dX3_init_5 : decode cX3_init 5 = .ok (.bipush 8, 2) := by decide +kernel
theorem dX3_init_7 : decode cX3_init 7 = .ok (.anewarray 9, 3) := by decide +kernel
theorem dX3_init_10 : decode cX3_init 10 = .ok (.putfield 11, 3) := by decide +kernel
theorem dX3_init_13 : decode cX3_init 13 = .ok (.aload_n 0, 1) := by decide +kernel
theorem dX3_init_14 : decode cX3_init 14 = .ok (.bipush 12, 2) := by decide +kernel
theorem dX3_init_16 : decode cX3_init 16 = .ok (.anewarray 17, 3) := by decide +kernel
theorem dX3_init_19 : decode cX3_init 19 = .ok (.putfield 19, 3) := by decide +kernel
theorem dX3_init_22 : decode cX3_init 22 = .ok (.aload_n 0, 1) := by decide +kernel
theorem dX3_init_23 : decode cX3_init 23 = .ok (.bipush 6, 2) := by decide +kernel
theorem dX3_init_25 : decode cX3_init 25 = .ok (.anewarray 23, 3) := by decide +kernel
theorem dX3_init_28 : decode cX3_init 28 = .ok (.putfield 25, 3) := by decide +kernel
theorem dX3_init_31 : decode cX3_init 31 = .ok (.aload_n 0, 1) := by decide +kernel
theorem dX3_init_32 : decode cX3_init 32 = .ok (.iconst 3, 1) := by decide +kernel
theorem dX3_init_33 : decode cX3_init 33 = .ok (.anewarray 29, 3) := by decide +kernel
theorem dX3_init_36 : decode cX3_init 36 = .ok (.putfield 31, 3) := by decide +kernel
theorem dX3_init_39 : decode cX3_init 39 = .ok (.aload_n 0, 1) := by decide +kernel
theorem dX3_init_40 : decode cX3_init 40 = .ok (.new 35, 3) := by decide +kernel
theorem dX3_init_43 : decode cX3_init 43 = .ok (.dup, 1) := by decide +kernel
theorem dX3_init_44 : decode cX3_init 44 = .ok (.invokespecial 37, 3) := by decide +kernel
theorem dX3_init_47 : decode cX3_init 47 = .ok (.putfield 38, 3) := by decide +kernel
theorem dX3_init_50 : decode cX3_init 50 = .ok (.aload_n 0, 1) := by decide +kernel
theorem dX3_init_51 : decode cX3_init 51 = .ok (.new 42, 3) := by decide +kernel
theorem dX3_init_54 : decode cX3_init 54 = .ok (.dup, 1) := by decide +kernel
theorem dX3_init_55 : decode cX3_init 55 = .ok (.invokespecial 44, 3) := by decide +kernel
theorem dX3_init_58 : decode cX3_init 58 = .ok (.putfield 45, 3) := by decide +kernel
theorem dX3_init_61 : decode cX3_init 61 = .ok (.aload_n 0, 1) := by decide +kernel
theorem dX3_init_62 : decode cX3_init 62 = .ok (.new 49, 3) := by decide +kernel
theorem dX3_init_65 : decode cX3_init 65 = .ok (.dup, 1) := by decide +kernel
theorem dX3_init_66 : decode cX3_init 66 = .ok (.invokespecial 51, 3) := by decide +kernel
theorem dX3_init_69 : decode cX3_init 69 = .ok (.putfield 52, 3) := by decide +kernel
theorem dX3_init_72 : decode cX3_init 72 = .ok (.aload_n 0, 1) := by decide +kernel
theorem dX3_init_73 : decode cX3_init 73 = .ok (.iconst 2, 1) := by decide +kernel
theorem dX3_init_74 : decode cX3_init 74 = .ok (.newarray .int, 2) := by decide +kernel
theorem dX3_init_76 : decode cX3_init 76 = .ok (.putfield 56, 3) := by decide +kernel
theorem dX3_init_79 : decode cX3_init 79 = .ok (.aload_n 0, 1) := by decide +kernel
theorem dX3_init_80 : decode cX3_init 80 = .ok (.iconst 4, 1) := by decide +kernel
theorem dX3_init_81 : decode cX3_init 81 = .ok (.newarray .int, 2) := by decide +kernel
theorem dX3_init_83 : decode cX3_init 83 = .ok (.putfield 60, 3) := by decide +kernel
theorem dX3_init_86 : decode cX3_init 86 = .ok (.aload_n 0, 1) := by decide +kernel
theorem dX3_init_87 : decode cX3_init 87 = .ok (.new 35, 3) := by decide +kernel
theorem dX3_init_90 : decode cX3_init 90 = .ok (.dup, 1) := by decide +kernel
theorem dX3_init_91 : decode cX3_init 91 = .ok (.invokespecial 37, 3) := by decide +kernel
theorem dX3_init_94 : decode cX3_init 94 = .ok (.putfield 63, 3) := by decide +kernel
theorem dX3_init_97 : decode cX3_init 97 = .ok (.iconst 0, 1) := by decide +kernel
theorem dX3_init_98 : decode cX3_init 98 = .ok (.istore_n 1, 1) := by decide +kernel
theorem dX3_init_99 : decode cX3_init 99 = .ok (.iload_n 1, 1) := by decide +kernel
theorem dX3_init_100 : decode cX3_init 100 = .ok (.bipush 8, 2) := by decide +kernel
theorem dX3_init_102 : decode cX3_init 102 = .ok (.if_icmp .ge 22, 3) := by decide +kernel
theorem dX3_init_105 : decode cX3_init 105 = .ok (.aload_n 0, 1) := by decide +kernel
theorem dX3_init_106 : decode cX3_init 106 = .ok (.getfield 11, 3) := by decide +kernel
theorem dX3_init_109 : decode cX3_init 109 = .ok (.iload_n 1, 1) := by decide +kernel
theorem dX3_init_110 : decode cX3_init 110 = .ok (.new 9, 3) := by decide +kernel
theorem dX3_init_113 : decode cX3_init 113 = .ok (.dup, 1) := by decide +kernel
theorem dX3_init_114 : decode cX3_init 114 = .ok (.invokespecial 66, 3) := by decide +kernel
theorem dX3_init_117 : decode cX3_init 117 = .ok (.aastore, 1) := by decide +kernel
theorem dX3_init_118 : decode cX3_init 118 = .ok (.iinc 1 1, 3) := by decide +kernel
theorem dX3_init_121 : decode cX3_init 121 = .ok (.goto (-22), 3) := by decide +kernel
theorem dX3_init_124 : decode cX3_init 124 = .ok (.iconst 0, 1) := by decide +kernel
theorem dX3_init_125 : decode cX3_init 125 = .ok (.istore_n 1, 1) := by decide +kernel
theorem dX3_init_126 : decode cX3_init 126 = .ok (.iload_n 1, 1) := by decide +kernel
theorem dX3_init_127 : decode cX3_init 127 = .ok (.bipush 12, 2) := by decide +kernel
theorem dX3_init_129 : decode cX3_init 129 = .ok (.if_icmp .ge 22, 3) := by decide +kernel
theorem dX3_init_132 : decode cX3_init 132 = .ok (.aload_n 0, 1) := by decide +kernel
theorem dX3_init_133 : decode cX3_init 133 = .ok (.getfield 19, 3) := by decide +kernel
theorem dX3_init_136 : decode cX3_init 136 = .ok (.iload_n 1, 1) := by decide +kernel
theorem dX3_init_137 : decode cX3_init 137 = .ok (.new 17, 3) := by decide +kernel
theorem dX3_init_140 : decode cX3_init 140 = .ok (.dup, 1) := by decide +kernel
theorem dX3_init_141 : decode cX3_init 141 = .ok (.invokespecial 67, 3) := by decide +kernel
theorem dX3_init_144 : decode cX3_init 144 = .ok (.aastore, 1) := by decide +kernel
theorem dX3_init_145 : decode cX3_init 145 = .ok (.iinc 1 1, 3) := by decide +kernel
theorem dX3_init_148 : decode cX3_init 148 = .ok (.goto (-22), 3) := by decide +kernel
theorem dX3_init_151 : decode cX3_init 151 = .ok (.iconst 0, 1) := by decide +kernel
theorem dX3_init_152 : decode cX3_init 152 = .ok (.istore_n 1, 1) := by decide +kernel
theorem dX3_init_153 : decode cX3_init 153 = .ok (.iload_n 1, 1) := by decide +kernel
theorem dX3_init_154 : decode cX3_init 154 = .ok (.bipush 6, 2) := by decide +kernel
theorem dX3_init_156 : decode cX3_init 156 = .ok (.if_icmp .ge 22, 3) := by decide +kernel
theorem dX3_init_159 : decode cX3_init 159 = .ok (.aload_n 0, 1) := by decide +kernel
theorem dX3_init_160 : decode cX3_init 160 = .ok (.getfield 25, 3) := by decide +kernel
theorem dX3_init_163 : decode cX3_init 163 = .ok (.iload_n 1, 1) := by decide +kernel
theorem dX3_init_164 : decode cX3_init 164 = .ok (.new 23, 3) := by decide +kernel
theorem dX3_init_167 : decode cX3_init 167 = .ok (.dup, 1) := by decide +kernel
theorem dX3_init_168 : decode cX3_init 168 = .ok (.invokespecial 68, 3) := by decide +kernel
theorem dX3_init_171 : decode cX3_init 171 = .ok (.aastore, 1) := by decide +kernel
theorem dX3_init_172 : decode cX3_init 172 = .ok (.iinc 1 1, 3) := by decide +kernel
theorem dX3_init_175 : decode cX3_init 175 = .ok (.goto (-22), 3) := by decide +kernel
theorem dX3_init_178 : decode cX3_init 178 = .ok (.iconst 0, 1) := by decide +kernel
theorem dX3_init_179 : decode cX3_init 179 = .ok (.istore_n 1, 1) := by decide +kernel
theorem dX3_init_180 : decode cX3_init 180 = .ok (.iload_n 1, 1) := by decide +kernel
theorem dX3_init_181 : decode cX3_init 181 = .ok (.iconst 3, 1) := by decide +kernel
theorem dX3_init_182 : decode cX3_init 182 = .ok (.if_icmp .ge 22, 3) := by decide +kernel
theorem dX3_init_185 : decode cX3_init 185 = .ok (.aload_n 0, 1) := by decide +kernel
theorem dX3_init_186 : decode cX3_init 186 = .ok (.getfield 31, 3) := by decide +kernel
theorem dX3_init_189 : decode cX3_init 189 = .ok (.iload_n 1, 1) := by decide +kernel
theorem dX3_init_190 : decode cX3_init 190 = .ok (.new 29, 3) := by decide +kernel
theorem dX3_init_193 : decode cX3_init 193 = .ok (.dup, 1) := by decide +kernel
theorem dX3_init_194 : decode cX3_init 194 = .ok (.invokespecial 69, 3) := by decide +kernel
theorem dX3_init_197 : decode cX3_init 197 = .ok (.aastore, 1) := by decide +kernel
theorem dX3_init_198 : decode cX3_init 198 = .ok (.iinc 1 1, 3) := by decide +kernel
theorem dX3_init_201 : decode cX3_init 201 = .ok (.goto (-21), 3) := by decide +kernel
theorem dX3_init_204 : decode cX3_init 204 = .ok (.iconst 0, 1) := by decide +kernel
theorem dX3_init_205 : decode cX3_init 205 = .ok (.istore_n 1, 1) := by decide +kernel
theorem dX3_init_206 : decode cX3_init 206 = .ok (.iload_n 1, 1) := by decide +kernel
theorem dX3_init_207 : decode cX3_init 207 = .ok (.iconst 2, 1) := by decide +kernel
theorem dX3_init_208 : decode cX3_init 208 = .ok (.if_icmp .ge 17, 3) := by decide +kernel
theorem dX3_init_211 : decode cX3_init 211 = .ok (.aload_n 0, 1) := by decide +kernel
theorem dX3_init_212 : decode cX3_init 212 = .ok (.getfield 56, 3) := by decide +kernel
theorem dX3_init_215 : decode cX3_init 215 = .ok (.iload_n 1, 1) := by decide +kernel
theorem dX3_init_216 : decode cX3_init 216 = .ok (.bipush 100, 2) := by decide +kernel
theorem dX3_init_218 : decode cX3_init 218 = .ok (.iastore, 1) := by decide +kernel
theorem dX3_init_219 : decode cX3_init 219 = .ok (.iinc 1 1, 3) := by decide +kernel
theorem dX3_init_222 : decode cX3_init 222 = .ok (.goto (-16), 3) := by decide +kernel
theorem dX3_init_225 : decode cX3_init 225 = .ok (.return_, 1) := by decide +kernel
theorem dX3_copyFrom_0 : decode cX3_copyFrom 0 = .ok (.iconst 0, 1) := by decide +kernel
theorem dX3_copyFrom_1 : decode cX3_copyFrom 1 = .ok (.istore_n 2, 1) := by decide +kernel
theorem dX3_copyFrom_2 : decode cX3_copyFrom 2 = .ok (.iload_n 2, 1) := by decide +kernel
theorem dX3_copyFrom_3 : decode cX3_copyFrom 3 = .ok (.bipush 8, 2) := by decide +kernel
theorem dX3_copyFrom_5 : decode cX3_copyFrom 5 = .ok (.if_icmp .ge 24, 3) := by decide +kernel
theorem dX3_copyFrom_8 : decode cX3_copyFrom 8 = .ok (.aload_n 0, 1) := by decide +kernel
theorem dX3_copyFrom_9 : decode cX3_copyFrom 9 = .ok (.getfield 11, 3) := by decide +kernel
theorem dX3_copyFrom_12 : decode cX3_copyFrom 12 = .ok (.iload_n 2, 1) := by decide +kernel
theorem dX3_copyFrom_13 : decode cX3_copyFrom 13 = .ok (.aaload, 1) := by decide +kernel
theorem dX3_copyFrom_14 : decode cX3_copyFrom 14 = .ok (.aload_n 1, 1) := by decide +kernel
theorem dX3_copyFrom_15 : decode cX3_copyFrom 15 = .ok (.getfield 11, 3) := by decide +kernel
theorem dX3_copyFrom_18 : decode cX3_copyFrom 18 = .ok (.iload_n 2, 1) := by decide +kernel
theorem dX3_copyFrom_19 : decode cX3_copyFrom 19 = .ok (.aaload, 1) := by decide +kernel
theorem dX3_copyFrom_20 : decode cX3_copyFrom 20 = .ok (.invokevirtual 70, 3) := by decide +kernel
theorem dX3_copyFrom_23 : decode cX3_copyFrom 23 = .ok (.iinc 2 1, 3) := by decide +kernel
theorem dX3_copyFrom_26 : decode cX3_copyFrom 26 = .ok (.goto (-24), 3) := by decide +kernel
theorem dX3_copyFrom_29 : decode cX3_copyFrom 29 = .ok (.iconst 0, 1) := by decide +kernel
theorem dX3_copyFrom_30 : decode cX3_copyFrom 30 = .ok (.istore_n 2, 1) := by decide +kernel
theorem dX3_copyFrom_31 : decode cX3_copyFrom 31 = .ok (.iload_n 2, 1) := by decide +kernel
theorem dX3_copyFrom_32 : decode cX3_copyFrom 32 = .ok (.bipush 12, 2) := by decide +kernel
theorem dX3_copyFrom_34 : decode cX3_copyFrom 34 = .ok (.if_icmp .ge 24, 3) := by decide +kernel
theorem dX3_copyFrom_37 : decode cX3_copyFrom 37 = .ok (.aload_n 0, 1) := by decide +kernel
theorem dX3_copyFrom_38 : decode cX3_copyFrom 38 = .ok (.getfield 19, 3) := by decide +kernel
theorem dX3_copyFrom_41 : decode cX3_copyFrom 41 = .ok (.iload_n 2, 1) := by decide +kernel
theorem dX3_copyFrom_42 : decode cX3_copyFrom 42 = .ok (.aaload, 1) := by decide +kernel
theorem dX3_copyFrom_43 : decode cX3_copyFrom 43 = .ok (.aload_n 1, 1) := by decide +kernel
theorem dX3_copyFrom_44 : decode cX3_copyFrom 44 = .ok (.getfield 19, 3) := by decide +kernel
theorem dX3_copyFrom_47 : decode cX3_copyFrom 47 = .ok (.iload_n 2, 1) := by decide +kernel
theorem dX3_copyFrom_48 : decode cX3_copyFrom 48 = .ok (.aaload, 1) := by decide +kernel
theorem dX3_copyFrom_49 : decode cX3_copyFrom 49 = .ok (.invokevirtual 74, 3) := by decide +kernel
theorem dX3_copyFrom_52 : decode cX3_copyFrom 52 = .ok (.iinc 2 1, 3) := by decide +kernel
theorem dX3_copyFrom_55 : decode cX3_copyFrom 55 = .ok (.goto (-24), 3) := by decide +kernel
theorem dX3_copyFrom_58 : decode cX3_copyFrom 58 = .ok (.iconst 0, 1) := by decide +kernel
theorem dX3_copyFrom_59 : decode cX3_copyFrom 59 = .ok (.istore_n 2, 1) := by decide +kernel
theorem dX3_copyFrom_60 : decode cX3_copyFrom 60 = .ok (.iload_n 2, 1) := by decide +kernel
theorem dX3_copyFrom_61 : decode cX3_copyFrom 61 = .ok (.bipush 6, 2) := by decide +kernel
theorem dX3_copyFrom_63 : decode cX3_copyFrom 63 = .ok (.if_icmp .ge 24, 3) := by decide +kernel
theorem dX3_copyFrom_66 : decode cX3_copyFrom 66 = .ok (.aload_n 0, 1) := by decide +kernel
theorem dX3_copyFrom_67 : decode cX3_copyFrom 67 = .ok (.getfield 25, 3) := by decide +kernel
theorem dX3_copyFrom_70 : decode cX3_copyFrom 70 = .ok (.iload_n 2, 1) := by decide +kernel
theorem dX3_copyFrom_71 : decode cX3_copyFrom 71 = .ok (.aaload, 1) := by decide +kernel
theorem dX3_copyFrom_72 : decode cX3_copyFrom 72 = .ok (.aload_n 1, 1) := by decide +kernel
theorem dX3_copyFrom_73 : decode cX3_copyFrom 73 = .ok (.getfield 25, 3) := by decide +kernel
theorem dX3_copyFrom_76 : decode cX3_copyFrom 76 = .ok (.iload_n 2, 1) := by decide +kernel
theorem dX3_copyFrom_77 : decode cX3_copyFrom 77 = .ok (.aaload, 1) := by decide +kernel
theorem dX3_copyFrom_78 : decode cX3_copyFrom 78 = .ok (.invokevirtual 77, 3) := by decide +kernel
theorem dX3_copyFrom_81 : decode cX3_copyFrom 81 = .ok (.iinc 2 1, 3) := by decide +kernel
theorem dX3_copyFrom_84 : decode cX3_copyFrom 84 = .ok (.goto (-24), 3) := by decide +kernel
theorem dX3_copyFrom_87 : decode cX3_copyFrom 87 = .ok (.iconst 0, 1) := by decide +kernel
theorem dX3_copyFrom_88 : decode cX3_copyFrom 88 = .ok (.istore_n 2, 1) := by decide +kernel
theorem dX3_copyFrom_89 : decode cX3_copyFrom 89 = .ok (.iload_n 2, 1) := by decide +kernel
theorem dX3_copyFrom_90 : decode cX3_copyFrom 90 = .ok (.iconst 3, 1) := by decide +kernel
theorem dX3_copyFrom_91 : decode cX3_copyFrom 91 = .ok (.if_icmp .ge 24, 3) := by decide +kernel
theorem dX3_copyFrom_94 : decode cX3_copyFrom 94 = .ok (.aload_n 0, 1) := by decide +kernel
theorem dX3_copyFrom_95 : decode cX3_copyFrom 95 = .ok (.getfield 31, 3) := by decide +kernel
theorem dX3_copyFrom_98 : decode cX3_copyFrom 98 = .ok (.iload_n 2, 1) := by decide +kernel
theorem dX3_copyFrom_99 : decode cX3_copyFrom 99 = .ok (.aaload, 1) := by decide +kernel
theorem dX3_copyFrom_100 : decode cX3_copyFrom 100 = .ok (.aload_n 1, 1) := by decide +kernel
theorem dX3_copyFrom_101 : decode cX3_copyFrom 101 = .ok (.getfield 31, 3) := by decide +kernel
theorem dX3_copyFrom_104 : decode cX3_copyFrom 104 = .ok (.iload_n 2, 1) := by decide +kernel
theorem dX3_copyFrom_105 : decode cX3_copyFrom 105 = .ok (.aaload, 1) := by decide +kernel
theorem dX3_copyFrom_106 : decode cX3_copyFrom 106 = .ok (.invokevirtual 80, 3) := by decide +kernel
theorem dX3_copyFrom_109 : decode cX3_copyFrom 109 = .ok (.iinc 2 1, 3) := by decide +kernel
theorem dX3_copyFrom_112 : decode cX3_copyFrom 112 = .ok (.goto (-23), 3) := by decide +kernel
theorem dX3_copyFrom_115 : decode cX3_copyFrom 115 = .ok (.aload_n 0, 1) := by decide +kernel
theorem dX3_copyFrom_116 : decode cX3_copyFrom 116 = .ok (.getfield 38, 3) := by decide +kernel
theorem dX3_copyFrom_119 : decode cX3_copyFrom 119 = .ok (.aload_n 1, 1) := by decide +kernel
theorem dX3_copyFrom_120 : decode cX3_copyFrom 120 = .ok (.getfield 38, 3) := by decide +kernel
theorem dX3_copyFrom_123 : decode cX3_copyFrom 123 = .ok (.invokevirtual 83, 3) := by decide +kernel
theorem dX3_copyFrom_126 : decode cX3_copyFrom 126 = .ok (.aload_n 0, 1) := by decide +kernel
theorem dX3_copyFrom_127 : decode cX3_copyFrom 127 = .ok (.getfield 45, 3) := by decide +kernel
theorem dX3_copyFrom_130 : decode cX3_copyFrom 130 = .ok (.aload_n 1, 1) := by decide +kernel
theorem dX3_copyFrom_131 : decode cX3_copyFrom 131 = .ok (.getfield 45, 3) := by decide +kernel
theorem dX3_copyFrom_134 : decode cX3_copyFrom 134 = .ok (.invokevirtual 86, 3) := by decide +kernel
theorem dX3_copyFrom_137 : decode cX3_copyFrom 137 = .ok (.aload_n 0, 1) := by decide +kernel
theorem dX3_copyFrom_138 : decode cX3_copyFrom 138 = .ok (.getfield 52, 3) := by decide +kernel
theorem dX3_copyFrom_141 : decode cX3_copyFrom 141 = .ok (.aload_n 1, 1) := by decide +kernel
theorem dX3_copyFrom_142 : decode cX3_copyFrom 142 = .ok (.getfield 52, 3) := by decide +kernel
theorem dX3_copyFrom_145 : decode cX3_copyFrom 145 = .ok (.invokevirtual 89, 3) := by decide +kernel
theorem dX3_copyFrom_148 : decode cX3_copyFrom 148 = .ok (.aload_n 1, 1) := by decide +kernel
theorem dX3_copyFrom_149 : decode cX3_copyFrom 149 = .ok (.getfield 56, 3) := by decide +kernel
theorem dX3_copyFrom_152 : decode cX3_copyFrom 152 = .ok (.iconst 0, 1) := by decide +kernel
theorem dX3_copyFrom_153 : decode cX3_copyFrom 153 = .ok (.aload_n 0, 1) := by decide +kernel
theorem dX3_copyFrom_154 : decode cX3_copyFrom 154 = .ok (.getfield 56, 3) := by decide +kernel
theorem dX3_copyFrom_157 : decode cX3_copyFrom 157 = .ok (.iconst 0, 1) := by decide +kernel
theorem dX3_copyFrom_158 : decode cX3_copyFrom 158 = .ok (.iconst 2, 1) := by decide +kernel
theorem dX3_copyFrom_159 : decode cX3_copyFrom 159 = .ok (.invokestatic 92, 3) := by decide +kernel
theorem dX3_copyFrom_162 : decode cX3_copyFrom 162 = .ok (.aload_n 1, 1) := by decide +kernel
theorem dX3_copyFrom_163 : decode cX3_copyFrom 163 = .ok (.getfield 60, 3) := by decide +kernel
theorem dX3_copyFrom_166 : decode cX3_copyFrom 166 = .ok (.iconst 0, 1) := by decide +kernel
theorem dX3_copyFrom_167 : decode cX3_copyFrom 167 = .ok (.aload_n 0, 1) := by decide +kernel
theorem dX3_copyFrom_168 : decode cX3_copyFrom 168 = .ok (.getfield 60, 3) := by decide +kernel
theorem dX3_copyFrom_171 : decode cX3_copyFrom 171 = .ok (.iconst 0, 1) := by decide +kernel
theorem dX3_copyFrom_172 : decode cX3_copyFrom 172 = .ok (.iconst 4, 1) := by decide +kernel
theorem dX3_copyFrom_173 : decode cX3_copyFrom 173 = .ok (.invokestatic 92, 3) := by decide +kernel
theorem dX3_copyFrom_176 : decode cX3_copyFrom 176 = .ok (.aload_n 0, 1) := by decide +kernel
theorem dX3_copyFrom_177 : decode cX3_copyFrom 177 = .ok (.aload_n 1, 1) := by decide +kernel
theorem dX3_copyFrom_178 : decode cX3_copyFrom 178 = .ok (.getfield 98, 3) := by decide +kernel
theorem dX3_copyFrom_181 : decode cX3_copyFrom 181 = .ok (.putfield 98, 3) := by decide +kernel
theorem dX3_copyFrom_184 : decode cX3_copyFrom 184 = .ok (.aload_n 0, 1) := by decide +kernel
theorem dX3_copyFrom_185 : decode cX3_copyFrom 185 = .ok (.aload_n 1, 1) := by decide +kernel
theorem dX3_copyFrom_186 : decode cX3_copyFrom 186 = .ok (.getfield 102, 3) := by decide +kernel
theorem dX3_copyFrom_189 : decode cX3_copyFrom 189 = .ok (.putfield 102, 3) := by decide +kernel
theorem dX3_copyFrom_192 : decode cX3_copyFrom 192 = .ok (.aload_n 0, 1) := by decide +kernel
theorem dX3_copyFrom_193 : decode cX3_copyFrom 193 = .ok (.aload_n 1, 1) := by decide +kernel
theorem dX3_copyFrom_194 : decode cX3_copyFrom 194 = .ok (.getfield 105, 3) := by decide +kernel
theorem dX3_copyFrom_197 : decode cX3_copyFrom 197 = .ok (.putfield 105, 3) := by decide +kernel
theorem dX3_copyFrom_200 : decode cX3_copyFrom 200 = .ok (.aload_n 0, 1) := by decide +kernel
theorem dX3_copyFrom_201 : decode cX3_copyFrom 201 = .ok (.aload_n 1, 1) := by decide +kernel
theorem dX3_copyFrom_202 : decode cX3_copyFrom 202 = .ok (.getfield 108, 3) := by decide +kernel
theorem dX3_copyFrom_205 : decode cX3_copyFrom 205 = .ok (.putfield 108, 3) := by decide +kernel
theorem dX3_copyFrom_208 : decode cX3_copyFrom 208 = .ok (.aload_n 0, 1) := by decide +kernel
theorem dX3_copyFrom_209 : decode cX3_copyFrom 209 = .ok (.aload_n 1, 1) := by decide +kernel
theorem dX3_copyFrom_210 : decode cX3_copyFrom 210 = .ok (.getfield 111, 3) := by decide +kernel
theorem dX3_copyFrom_213 : decode cX3_copyFrom 213 = .ok (.putfield 111, 3) := by decide +kernel
theorem dX3_copyFrom_216 : decode cX3_copyFrom 216 = .ok (.return_, 1) := by decide +kernel
theorem dX3_light_0 : decode cX3_light 0 = .ok (.iconst 0, 1) := by decide +kernel
theorem dX3_light_1 : decode cX3_light 1 = .ok (.istore_n 1, 1) := by decide +kernel
theorem dX3_light_2 : decode cX3_light 2 = .ok (.iconst 0, 1) := by decide +kernel
theorem dX3_light_3 : decode cX3_light 3 = .ok (.istore_n 2, 1) := by decide +kernel
theorem dX3_light_4 : decode cX3_light 4 = .ok (.iload_n 2, 1) := by decide +kernel
theorem dX3_light_5 : decode cX3_light 5 = .ok (.iconst 4, 1) := by decide +kernel
theorem dX3_light_6 : decode cX3_light 6 = .ok (.if_icmp .ge 18, 3) := by decide +kernel
theorem dX3_light_9 : decode cX3_light 9 = .ok (.iload_n 1, 1) := by decide +kernel
theorem dX3_light_10 : decode cX3_light 10 = .ok (.aload_n 0, 1) := by decide +kernel
theorem dX3_light_11 : decode cX3_light 11 = .ok (.getfield 60, 3) := by decide +kernel
theorem dX3_light_14 : decode cX3_light 14 = .ok (.iload_n 2, 1) := by decide +kernel
theorem dX3_light_15 : decode cX3_light 15 = .ok (.iaload, 1) := by decide +kernel
theorem dX3_light_16 : decode cX3_light 16 = .ok (.iadd, 1) := by decide +kernel
theorem dX3_light_17 : decode cX3_light 17 = .ok (.istore_n 1, 1) := by decide +kernel
theorem dX3_light_18 : decode cX3_light 18 = .ok (.iinc 2 1, 3) := by decide +kernel
theorem dX3_light_21 : decode cX3_light 21 = .ok (.goto (-17), 3) := by decide +kernel
theorem dX3_light_24 : decode cX3_light 24 = .ok (.iload_n 1, 1) := by decide +kernel
theorem dX3_light_25 : decode cX3_light 25 = .ok (.bipush 10, 2) := by decide +kernel
theorem dX3_light_27 : decode cX3_light 27 = .ok (.if_icmp .ge 5, 3) := by decide +kernel
theorem dX3_light_30 : decode cX3_light 30 = .ok (.iconst 0, 1) := by decide +kernel
theorem dX3_light_31 : decode cX3_light 31 = .ok (.ireturn, 1) := by decide +kernel
theorem dX3_light_32 : decode cX3_light 32 = .ok (.iload_n 1, 1) := by decide +kernel
theorem dX3_light_33 : decode cX3_light 33 = .ok (.bipush 25, 2) := by decide +kernel
theorem dX3_light_35 : decode cX3_light 35 = .ok (.if_icmp .ge 7, 3) := by decide +kernel
theorem dX3_light_38 : decode cX3_light 38 = .ok (.iconst 1, 1) := by decide +kernel
theorem dX3_light_39 : decode cX3_light 39 = .ok (.goto 4, 3) := by decide +kernel
theorem dX3_light_42 : decode cX3_light 42 = .ok (.iconst 2, 1) := by decide +kernel
theorem dX3_light_43 : decode cX3_light 43 = .ok (.ireturn, 1) := by decide +kernel
theorem dX3_lastShock_0 : decode cX3_lastShock 0 = .ok (.aload_n 0, 1) := by decide +kernel
theorem dX3_lastShock_1 : decode cX3_lastShock 1 = .ok (.getfield 60, 3) := by decide +kernel
theorem dX3_lastShock_4 : decode cX3_lastShock 4 = .ok (.aload_n 0, 1) := by decide +kernel
theorem dX3_lastShock_5 : decode cX3_lastShock 5 = .ok (.getfield 111, 3) := by decide +kernel
theorem dX3_lastShock_8 : decode cX3_lastShock 8 = .ok (.iconst 3, 1) := by decide +kernel
theorem dX3_lastShock_9 : decode cX3_lastShock 9 = .ok (.iand, 1) := by decide +kernel
theorem dX3_lastShock_10 : decode cX3_lastShock 10 = .ok (.iaload, 1) := by decide +kernel
theorem dX3_lastShock_11 : decode cX3_lastShock 11 = .ok (.ireturn, 1) := by decide +kernel
theorem dX3_shareOf_0 : decode cX3_shareOf 0 = .ok (.iconst 0, 1) := by decide +kernel
theorem dX3_shareOf_1 : decode cX3_shareOf 1 = .ok (.istore_n 2, 1) := by decide +kernel
theorem dX3_shareOf_2 : decode cX3_shareOf 2 = .ok (.iconst 0, 1) := by decide +kernel
theorem dX3_shareOf_3 : decode cX3_shareOf 3 = .ok (.istore_n 3, 1) := by decide +kernel
theorem dX3_shareOf_4 : decode cX3_shareOf 4 = .ok (.iload_n 3, 1) := by decide +kernel
theorem dX3_shareOf_5 : decode cX3_shareOf 5 = .ok (.aload_n 0, 1) := by decide +kernel
theorem dX3_shareOf_6 : decode cX3_shareOf 6 = .ok (.getfield 98, 3) := by decide +kernel
theorem dX3_shareOf_9 : decode cX3_shareOf 9 = .ok (.if_icmp .ge 34, 3) := by decide +kernel
theorem dX3_shareOf_12 : decode cX3_shareOf 12 = .ok (.aload_n 0, 1) := by decide +kernel
theorem dX3_shareOf_13 : decode cX3_shareOf 13 = .ok (.getfield 11, 3) := by decide +kernel
theorem dX3_shareOf_16 : decode cX3_shareOf 16 = .ok (.iload_n 3, 1) := by decide +kernel
theorem dX3_shareOf_17 : decode cX3_shareOf 17 = .ok (.aaload, 1) := by decide +kernel
theorem dX3_shareOf_18 : decode cX3_shareOf 18 = .ok (.getfield 114, 3) := by decide +kernel
theorem dX3_shareOf_21 : decode cX3_shareOf 21 = .ok (.iload_n 1, 1) := by decide +kernel
theorem dX3_shareOf_22 : decode cX3_shareOf 22 = .ok (.if_icmp .ne 15, 3) := by decide +kernel
theorem dX3_shareOf_25 : decode cX3_shareOf 25 = .ok (.iload_n 2, 1) := by decide +kernel
theorem dX3_shareOf_26 : decode cX3_shareOf 26 = .ok (.aload_n 0, 1) := by decide +kernel
theorem dX3_shareOf_27 : decode cX3_shareOf 27 = .ok (.getfield 11, 3) := by decide +kernel
theorem dX3_shareOf_30 : decode cX3_shareOf 30 = .ok (.iload_n 3, 1) := by decide +kernel
theorem dX3_shareOf_31 : decode cX3_shareOf 31 = .ok (.aaload, 1) := by decide +kernel
theorem dX3_shareOf_32 : decode cX3_shareOf 32 = .ok (.getfield 117, 3) := by decide +kernel
theorem dX3_shareOf_35 : decode cX3_shareOf 35 = .ok (.iadd, 1) := by decide +kernel
theorem dX3_shareOf_36 : decode cX3_shareOf 36 = .ok (.istore_n 2, 1) := by decide +kernel
theorem dX3_shareOf_37 : decode cX3_shareOf 37 = .ok (.iinc 3 1, 3) := by decide +kernel
theorem dX3_shareOf_40 : decode cX3_shareOf 40 = .ok (.goto (-36), 3) := by decide +kernel
theorem dX3_shareOf_43 : decode cX3_shareOf 43 = .ok (.iload_n 2, 1) := by decide +kernel
theorem dX3_shareOf_44 : decode cX3_shareOf 44 = .ok (.ireturn, 1) := by decide +kernel
theorem dX3_lackedEver_0 : decode cX3_lackedEver 0 = .ok (.iconst 0, 1) := by decide +kernel
theorem dX3_lackedEver_1 : decode cX3_lackedEver 1 = .ok (.istore_n 1, 1) := by decide +kernel
theorem dX3_lackedEver_2 : decode cX3_lackedEver 2 = .ok (.iconst 0, 1) := by decide +kernel
theorem dX3_lackedEver_3 : decode cX3_lackedEver 3 = .ok (.istore_n 2, 1) := by decide +kernel
theorem dX3_lackedEver_4 : decode cX3_lackedEver 4 = .ok (.iload_n 2, 1) := by decide +kernel
theorem dX3_lackedEver_5 : decode cX3_lackedEver 5 = .ok (.aload_n 0, 1) := by decide +kernel
theorem dX3_lackedEver_6 : decode cX3_lackedEver 6 = .ok (.getfield 108, 3) := by decide +kernel
theorem dX3_lackedEver_9 : decode cX3_lackedEver 9 = .ok (.if_icmp .ge 21, 3) := by decide +kernel
theorem dX3_lackedEver_12 : decode cX3_lackedEver 12 = .ok (.iload_n 1, 1) := by decide +kernel
theorem dX3_lackedEver_13 : decode cX3_lackedEver 13 = .ok (.aload_n 0, 1) := by decide +kernel
theorem dX3_lackedEver_14 : decode cX3_lackedEver 14 = .ok (.getfield 31, 3) := by decide +kernel
theorem dX3_lackedEver_17 : decode cX3_lackedEver 17 = .ok (.iload_n 2, 1) := by decide +kernel
theorem dX3_lackedEver_18 : decode cX3_lackedEver 18 = .ok (.aaload, 1) := by decide +kernel
theorem dX3_lackedEver_19 : decode cX3_lackedEver 19 = .ok (.getfield 120, 3) := by decide +kernel
theorem dX3_lackedEver_22 : decode cX3_lackedEver 22 = .ok (.iadd, 1) := by decide +kernel
theorem dX3_lackedEver_23 : decode cX3_lackedEver 23 = .ok (.istore_n 1, 1) := by decide +kernel
theorem dX3_lackedEver_24 : decode cX3_lackedEver 24 = .ok (.iinc 2 1, 3) := by decide +kernel
theorem dX3_lackedEver_27 : decode cX3_lackedEver 27 = .ok (.goto (-23), 3) := by decide +kernel
theorem dX3_lackedEver_30 : decode cX3_lackedEver 30 = .ok (.iload_n 1, 1) := by decide +kernel
theorem dX3_lackedEver_31 : decode cX3_lackedEver 31 = .ok (.ireturn, 1) := by decide +kernel
theorem dX3_inBlocks_0 : decode cX3_inBlocks 0 = .ok (.iconst 0, 1) := by decide +kernel
theorem dX3_inBlocks_1 : decode cX3_inBlocks 1 = .ok (.istore_n 2, 1) := by decide +kernel
theorem dX3_inBlocks_2 : decode cX3_inBlocks 2 = .ok (.iconst 0, 1) := by decide +kernel
theorem dX3_inBlocks_3 : decode cX3_inBlocks 3 = .ok (.istore_n 3, 1) := by decide +kernel
theorem dX3_inBlocks_4 : decode cX3_inBlocks 4 = .ok (.iload_n 3, 1) := by decide +kernel
theorem dX3_inBlocks_5 : decode cX3_inBlocks 5 = .ok (.aload_n 0, 1) := by decide +kernel
theorem dX3_inBlocks_6 : decode cX3_inBlocks 6 = .ok (.getfield 98, 3) := by decide +kernel
theorem dX3_inBlocks_9 : decode cX3_inBlocks 9 = .ok (.if_icmp .ge 25, 3) := by decide +kernel
theorem dX3_inBlocks_12 : decode cX3_inBlocks 12 = .ok (.iload_n 2, 1) := by decide +kernel
theorem dX3_inBlocks_13 : decode cX3_inBlocks 13 = .ok (.aload_n 0, 1) := by decide +kernel
theorem dX3_inBlocks_14 : decode cX3_inBlocks 14 = .ok (.getfield 11, 3) := by decide +kernel
theorem dX3_inBlocks_17 : decode cX3_inBlocks 17 = .ok (.iload_n 3, 1) := by decide +kernel
theorem dX3_inBlocks_18 : decode cX3_inBlocks 18 = .ok (.aaload, 1) := by decide +kernel
theorem dX3_inBlocks_19 : decode cX3_inBlocks 19 = .ok (.getfield 123, 3) := by decide +kernel
theorem dX3_inBlocks_22 : decode cX3_inBlocks 22 = .ok (.iload_n 1, 1) := by decide +kernel
theorem dX3_inBlocks_23 : decode cX3_inBlocks 23 = .ok (.invokevirtual 126, 3) := by decide +kernel
theorem dX3_inBlocks_26 : decode cX3_inBlocks 26 = .ok (.iadd, 1) := by decide +kernel
theorem dX3_inBlocks_27 : decode cX3_inBlocks 27 = .ok (.istore_n 2, 1) := by decide +kernel
theorem dX3_inBlocks_28 : decode cX3_inBlocks 28 = .ok (.iinc 3 1, 3) := by decide +kernel
theorem dX3_inBlocks_31 : decode cX3_inBlocks 31 = .ok (.goto (-27), 3) := by decide +kernel
theorem dX3_inBlocks_34 : decode cX3_inBlocks 34 = .ok (.iload_n 2, 1) := by decide +kernel
theorem dX3_inBlocks_35 : decode cX3_inBlocks 35 = .ok (.ireturn, 1) := by decide +kernel
theorem dX3_accountedFor_0 : decode cX3_accountedFor 0 = .ok (.aload_n 0, 1) := by decide +kernel
theorem dX3_accountedFor_1 : decode cX3_accountedFor 1 = .ok (.iload_n 1, 1) := by decide +kernel
theorem dX3_accountedFor_2 : decode cX3_accountedFor 2 = .ok (.invokevirtual 130, 3) := by decide +kernel
theorem dX3_accountedFor_5 : decode cX3_accountedFor 5 = .ok (.aload_n 0, 1) := by decide +kernel
theorem dX3_accountedFor_6 : decode cX3_accountedFor 6 = .ok (.getfield 38, 3) := by decide +kernel
theorem dX3_accountedFor_9 : decode cX3_accountedFor 9 = .ok (.iload_n 1, 1) := by decide +kernel
theorem dX3_accountedFor_10 : decode cX3_accountedFor 10 = .ok (.invokevirtual 126, 3) := by decide +kernel
theorem dX3_accountedFor_13 : decode cX3_accountedFor 13 = .ok (.iadd, 1) := by decide +kernel
theorem dX3_accountedFor_14 : decode cX3_accountedFor 14 = .ok (.aload_n 0, 1) := by decide +kernel
theorem dX3_accountedFor_15 : decode cX3_accountedFor 15 = .ok (.getfield 52, 3) := by decide +kernel
theorem dX3_accountedFor_18 : decode cX3_accountedFor 18 = .ok (.getfield 133, 3) := by decide +kernel
theorem dX3_accountedFor_21 : decode cX3_accountedFor 21 = .ok (.iload_n 1, 1) := by decide +kernel
theorem dX3_accountedFor_22 : decode cX3_accountedFor 22 = .ok (.invokevirtual 126, 3) := by decide +kernel
theorem dX3_accountedFor_25 : decode cX3_accountedFor 25 = .ok (.iadd, 1) := by decide +kernel
theorem dX3_accountedFor_26 : decode cX3_accountedFor 26 = .ok (.aload_n 0, 1) := by decide +kernel
theorem dX3_accountedFor_27 : decode cX3_accountedFor 27 = .ok (.getfield 52, 3) := by decide +kernel
theorem dX3_accountedFor_30 : decode cX3_accountedFor 30 = .ok (.getfield 136, 3) := by decide +kernel
theorem dX3_accountedFor_33 : decode cX3_accountedFor 33 = .ok (.iload_n 1, 1) := by decide +kernel
theorem dX3_accountedFor_34 : decode cX3_accountedFor 34 = .ok (.invokevirtual 126, 3) := by decide +kernel
theorem dX3_accountedFor_37 : decode cX3_accountedFor 37 = .ok (.iadd, 1) := by decide +kernel
theorem dX3_accountedFor_38 : decode cX3_accountedFor 38 = .ok (.ireturn, 1) := by decide +kernel
theorem dX3_turnAll_0 : decode cX3_turnAll 0 = .ok (.iconst 0, 1) := by decide +kernel
theorem dX3_turnAll_1 : decode cX3_turnAll 1 = .ok (.istore_n 3, 1) := by decide +kernel
theorem dX3_turnAll_2 : decode cX3_turnAll 2 = .ok (.iload_n 3, 1) := by decide +kernel
theorem dX3_turnAll_3 : decode cX3_turnAll 3 = .ok (.aload_n 0, 1) := by decide +kernel
theorem dX3_turnAll_4 : decode cX3_turnAll 4 = .ok (.getfield 105, 3) := by decide +kernel
theorem dX3_turnAll_7 : decode cX3_turnAll 7 = .ok (.if_icmp .ge 35, 3) := by decide +kernel
theorem dX3_turnAll_10 : decode cX3_turnAll 10 = .ok (.aload_n 0, 1) := by decide +kernel
theorem dX3_turnAll_11 : decode cX3_turnAll 11 = .ok (.getfield 25, 3) := by decide +kernel
theorem dX3_turnAll_14 : decode cX3_turnAll 14 = .ok (.iload_n 3, 1) := by decide +kernel
theorem dX3_turnAll_15 : decode cX3_turnAll 15 = .ok (.aaload, 1) := by decide +kernel
theorem dX3_turnAll_16 : decode cX3_turnAll 16 = .ok (.aload_n 0, 1) := by decide +kernel
theorem dX3_turnAll_17 : decode cX3_turnAll 17 = .ok (.getfield 25, 3) := by decide +kernel
theorem dX3_turnAll_20 : decode cX3_turnAll 20 = .ok (.iload_n 3, 1) := by decide +kernel
theorem dX3_turnAll_21 : decode cX3_turnAll 21 = .ok (.aaload, 1) := by decide +kernel
theorem dX3_turnAll_22 : decode cX3_turnAll 22 = .ok (.getfield 139, 3) := by decide +kernel
theorem dX3_turnAll_25 : decode cX3_turnAll 25 = .ok (.ifCond .eq 7, 3) := by decide +kernel
theorem dX3_turnAll_28 : decode cX3_turnAll 28 = .ok (.iload_n 2, 1) := by decide +kernel
theorem dX3_turnAll_29 : decode cX3_turnAll 29 = .ok (.goto 4, 3) := by decide +kernel
theorem dX3_turnAll_32 : decode cX3_turnAll 32 = .ok (.iload_n 1, 1) := by decide +kernel
theorem dX3_turnAll_33 : decode cX3_turnAll 33 = .ok (.putfield 143, 3) := by decide +kernel
theorem dX3_turnAll_36 : decode cX3_turnAll 36 = .ok (.iinc 3 1, 3) := by decide +kernel
theorem dX3_turnAll_39 : decode cX3_turnAll 39 = .ok (.goto (-37), 3) := by decide +kernel
theorem dX3_turnAll_42 : decode cX3_turnAll 42 = .ok (.return_, 1) := by decide +kernel
theorem dX3_step_0 : decode cX3_step 0 = .ok (.aload_n 0, 1) := by decide +kernel
theorem dX3_step_1 : decode cX3_step 1 = .ok (.dup, 1) := by decide +kernel
theorem dX3_step_2 : decode cX3_step 2 = .ok (.getfield 111, 3) := by decide +kernel
theorem dX3_step_5 : decode cX3_step 5 = .ok (.iconst 1, 1) := by decide +kernel
theorem dX3_step_6 : decode cX3_step 6 = .ok (.iadd, 1) := by decide +kernel
theorem dX3_step_7 : decode cX3_step 7 = .ok (.putfield 111, 3) := by decide +kernel
theorem dX3_step_10 : decode cX3_step 10 = .ok (.aload_n 0, 1) := by decide +kernel
theorem dX3_step_11 : decode cX3_step 11 = .ok (.invokevirtual 146, 3) := by decide +kernel
theorem dX3_step_14 : decode cX3_step 14 = .ok (.istore_n 1, 1) := by decide +kernel
theorem dX3_step_15 : decode cX3_step 15 = .ok (.iconst 0, 1) := by decide +kernel
theorem dX3_step_16 : decode cX3_step 16 = .ok (.istore_n 2, 1) := by decide +kernel
theorem dX3_step_17 : decode cX3_step 17 = .ok (.iload_n 2, 1) := by decide +kernel
theorem dX3_step_18 : decode cX3_step 18 = .ok (.aload_n 0, 1) := by decide +kernel
theorem dX3_step_19 : decode cX3_step 19 = .ok (.getfield 102, 3) := by decide +kernel
theorem dX3_step_22 : decode cX3_step 22 = .ok (.if_icmp .ge 19, 3) := by decide +kernel
theorem dX3_step_25 : decode cX3_step 25 = .ok (.aload_n 0, 1) := by decide +kernel
theorem dX3_step_26 : decode cX3_step 26 = .ok (.aload_n 0, 1) := by decide +kernel
theorem dX3_step_27 : decode cX3_step 27 = .ok (.getfield 19, 3) := by decide +kernel
theorem dX3_step_30 : decode cX3_step 30 = .ok (.iload_n 2, 1) := by decide +kernel
theorem dX3_step_31 : decode cX3_step 31 = .ok (.aaload, 1) := by decide +kernel
theorem dX3_step_32 : decode cX3_step 32 = .ok (.invokevirtual 150, 3) := by decide +kernel
theorem dX3_step_35 : decode cX3_step 35 = .ok (.iinc 2 1, 3) := by decide +kernel
theorem dX3_step_38 : decode cX3_step 38 = .ok (.goto (-21), 3) := by decide +kernel
theorem dX3_step_41 : decode cX3_step 41 = .ok (.iconst 0, 1) := by decide +kernel
theorem dX3_step_42 : decode cX3_step 42 = .ok (.istore_n 2, 1) := by decide +kernel
theorem dX3_step_43 : decode cX3_step 43 = .ok (.iconst 0, 1) := by decide +kernel
theorem dX3_step_44 : decode cX3_step 44 = .ok (.istore_n 3, 1) := by decide +kernel
theorem dX3_step_45 : decode cX3_step 45 = .ok (.iload_n 3, 1) := by decide +kernel
theorem dX3_step_46 : decode cX3_step 46 = .ok (.aload_n 0, 1) := by decide +kernel
theorem dX3_step_47 : decode cX3_step 47 = .ok (.getfield 105, 3) := by decide +kernel
theorem dX3_step_50 : decode cX3_step 50 = .ok (.if_icmp .ge 34, 3) := by decide +kernel
theorem dX3_step_53 : decode cX3_step 53 = .ok (.aload_n 0, 1) := by decide +kernel
theorem dX3_step_54 : decode cX3_step 54 = .ok (.getfield 25, 3) := by decide +kernel
theorem dX3_step_57 : decode cX3_step 57 = .ok (.iload_n 3, 1) := by decide +kernel
theorem dX3_step_58 : decode cX3_step 58 = .ok (.aaload, 1) := by decide +kernel
theorem dX3_step_59 : decode cX3_step 59 = .ok (.getfield 139, 3) := by decide +kernel
theorem dX3_step_62 : decode cX3_step 62 = .ok (.ifCond .ne 16, 3) := by decide +kernel
theorem dX3_step_65 : decode cX3_step 65 = .ok (.iload_n 2, 1) := by decide +kernel
theorem dX3_step_66 : decode cX3_step 66 = .ok (.aload_n 0, 1) := by decide +kernel
theorem dX3_step_67 : decode cX3_step 67 = .ok (.aload_n 0, 1) := by decide +kernel
theorem dX3_step_68 : decode cX3_step 68 = .ok (.getfield 25, 3) := by decide +kernel
theorem dX3_step_71 : decode cX3_step 71 = .ok (.iload_n 3, 1) := by decide +kernel
theorem dX3_step_72 : decode cX3_step 72 = .ok (.aaload, 1) := by decide +kernel
theorem dX3_step_73 : decode cX3_step 73 = .ok (.invokevirtual 153, 3) := by decide +kernel
theorem dX3_step_76 : decode cX3_step 76 = .ok (.iadd, 1) := by decide +kernel
theorem dX3_step_77 : decode cX3_step 77 = .ok (.istore_n 2, 1) := by decide +kernel
theorem dX3_step_78 : decode cX3_step 78 = .ok (.iinc 3 1, 3) := by decide +kernel
theorem dX3_step_81 : decode cX3_step 81 = .ok (.goto (-36), 3) := by decide +kernel
theorem dX3_step_84 : decode cX3_step 84 = .ok (.aload_n 0, 1) := by decide +kernel
theorem dX3_step_85 : decode cX3_step 85 = .ok (.iload_n 2, 1) := by decide +kernel
theorem dX3_step_86 : decode cX3_step 86 = .ok (.invokevirtual 157, 3) := by decide +kernel
theorem dX3_step_89 : decode cX3_step 89 = .ok (.aload_n 0, 1) := by decide +kernel
theorem dX3_step_90 : decode cX3_step 90 = .ok (.invokevirtual 161, 3) := by decide +kernel
theorem dX3_step_93 : decode cX3_step 93 = .ok (.aload_n 0, 1) := by decide +kernel
theorem dX3_step_94 : decode cX3_step 94 = .ok (.invokevirtual 164, 3) := by decide +kernel
theorem dX3_step_97 : decode cX3_step 97 = .ok (.iconst 0, 1) := by decide +kernel
theorem dX3_step_98 : decode cX3_step 98 = .ok (.istore_n 3, 1) := by decide +kernel
theorem dX3_step_99 : decode cX3_step 99 = .ok (.iconst 0, 1) := by decide +kernel
theorem dX3_step_100 : decode cX3_step 100 = .ok (.istore 4, 2) := by decide +kernel
theorem dX3_step_102 : decode cX3_step 102 = .ok (.iload 4, 2) := by decide +kernel
theorem dX3_step_104 : decode cX3_step 104 = .ok (.aload_n 0, 1) := by decide +kernel
theorem dX3_step_105 : decode cX3_step 105 = .ok (.getfield 105, 3) := by decide +kernel
theorem dX3_step_108 : decode cX3_step 108 = .ok (.if_icmp .ge 37, 3) := by decide +kernel
theorem dX3_step_111 : decode cX3_step 111 = .ok (.aload_n 0, 1) := by decide +kernel
theorem dX3_step_112 : decode cX3_step 112 = .ok (.getfield 25, 3) := by decide +kernel
theorem dX3_step_115 : decode cX3_step 115 = .ok (.iload 4, 2) := by decide +kernel
theorem dX3_step_117 : decode cX3_step 117 = .ok (.aaload, 1) := by decide +kernel
theorem dX3_step_118 : decode cX3_step 118 = .ok (.getfield 139, 3) := by decide +kernel
theorem dX3_step_121 : decode cX3_step 121 = .ok (.ifCond .eq 18, 3) := by decide +kernel
theorem dX3_step_124 : decode cX3_step 124 = .ok (.iload_n 3, 1) := by decide +kernel
theorem dX3_step_125 : decode cX3_step 125 = .ok (.aload_n 0, 1) := by decide +kernel
theorem dX3_step_126 : decode cX3_step 126 = .ok (.aload_n 0, 1) := by decide +kernel
theorem dX3_step_127 : decode cX3_step 127 = .ok (.getfield 25, 3) := by decide +kernel
theorem dX3_step_130 : decode cX3_step 130 = .ok (.iload 4, 2) := by decide +kernel
theorem dX3_step_132 : decode cX3_step 132 = .ok (.aaload, 1) := by decide +kernel
theorem dX3_step_133 : decode cX3_step 133 = .ok (.iload_n 1, 1) := by decide +kernel
theorem dX3_step_134 : decode cX3_step 134 = .ok (.invokevirtual 167, 3) := by decide +kernel
theorem dX3_step_137 : decode cX3_step 137 = .ok (.iadd, 1) := by decide +kernel
theorem dX3_step_138 : decode cX3_step 138 = .ok (.istore_n 3, 1) := by decide +kernel
theorem dX3_step_139 : decode cX3_step 139 = .ok (.iinc 4 1, 3) := by decide +kernel
theorem dX3_step_142 : decode cX3_step 142 = .ok (.goto (-40), 3) := by decide +kernel
theorem dX3_step_145 : decode cX3_step 145 = .ok (.aload_n 0, 1) := by decide +kernel
theorem dX3_step_146 : decode cX3_step 146 = .ok (.getfield 60, 3) := by decide +kernel
theorem dX3_step_149 : decode cX3_step 149 = .ok (.aload_n 0, 1) := by decide +kernel
theorem dX3_step_150 : decode cX3_step 150 = .ok (.getfield 111, 3) := by decide +kernel
theorem dX3_step_153 : decode cX3_step 153 = .ok (.iconst 3, 1) := by decide +kernel
theorem dX3_step_154 : decode cX3_step 154 = .ok (.iand, 1) := by decide +kernel
theorem dX3_step_155 : decode cX3_step 155 = .ok (.iload_n 3, 1) := by decide +kernel
theorem dX3_step_156 : decode cX3_step 156 = .ok (.iastore, 1) := by decide +kernel
theorem dX3_step_157 : decode cX3_step 157 = .ok (.iconst 0, 1) := by decide +kernel
theorem dX3_step_158 : decode cX3_step 158 = .ok (.istore 4, 2) := by decide +kernel
theorem dX3_step_160 : decode cX3_step 160 = .ok (.iload 4, 2) := by decide +kernel
theorem dX3_step_162 : decode cX3_step 162 = .ok (.aload_n 0, 1) := by decide +kernel
theorem dX3_step_163 : decode cX3_step 163 = .ok (.getfield 108, 3) := by decide +kernel
theorem dX3_step_166 : decode cX3_step 166 = .ok (.if_icmp .ge 20, 3) := by decide +kernel
theorem dX3_step_169 : decode cX3_step 169 = .ok (.aload_n 0, 1) := by decide +kernel
theorem dX3_step_170 : decode cX3_step 170 = .ok (.aload_n 0, 1) := by decide +kernel
theorem dX3_step_171 : decode cX3_step 171 = .ok (.getfield 31, 3) := by decide +kernel
theorem dX3_step_174 : decode cX3_step 174 = .ok (.iload 4, 2) := by decide +kernel
theorem dX3_step_176 : decode cX3_step 176 = .ok (.aaload, 1) := by decide +kernel
theorem dX3_step_177 : decode cX3_step 177 = .ok (.invokevirtual 171, 3) := by decide +kernel
theorem dX3_step_180 : decode cX3_step 180 = .ok (.iinc 4 1, 3) := by decide +kernel
theorem dX3_step_183 : decode cX3_step 183 = .ok (.goto (-23), 3) := by decide +kernel
theorem dX3_step_186 : decode cX3_step 186 = .ok (.aload_n 0, 1) := by decide +kernel
theorem dX3_step_187 : decode cX3_step 187 = .ok (.invokevirtual 174, 3) := by decide +kernel
theorem dX3_step_190 : decode cX3_step 190 = .ok (.aload_n 0, 1) := by decide +kernel
theorem dX3_step_191 : decode cX3_step 191 = .ok (.invokevirtual 177, 3) := by decide +kernel
theorem dX3_step_194 : decode cX3_step 194 = .ok (.return_, 1) := by decide +kernel
theorem dX3_flowThrough_0 : decode cX3_flowThrough 0 = .ok (.aload_n 0, 1) := by decide +kernel
theorem dX3_flowThrough_1 : decode cX3_flowThrough 1 = .ok (.getfield 11, 3) := by decide +kernel
theorem dX3_flowThrough_4 : decode cX3_flowThrough 4 = .ok (.aload_n 1, 1) := by decide +kernel
theorem dX3_flowThrough_5 : decode cX3_flowThrough 5 = .ok (.getfield 180, 3) := by decide +kernel
theorem dX3_flowThrough_8 : decode cX3_flowThrough 8 = .ok (.aaload, 1) := by decide +kernel
theorem dX3_flowThrough_9 : decode cX3_flowThrough 9 = .ok (.astore_n 2, 1) := by decide +kernel
theorem dX3_flowThrough_10 : decode cX3_flowThrough 10 = .ok (.aload_n 0, 1) := by decide +kernel
theorem dX3_flowThrough_11 : decode cX3_flowThrough 11 = .ok (.getfield 11, 3) := by decide +kernel
theorem dX3_flowThrough_14 : decode cX3_flowThrough 14 = .ok (.aload_n 1, 1) := by decide +kernel
theorem dX3_flowThrough_15 : decode cX3_flowThrough 15 = .ok (.getfield 183, 3) := by decide +kernel
theorem dX3_flowThrough_18 : decode cX3_flowThrough 18 = .ok (.aaload, 1) := by decide +kernel
theorem dX3_flowThrough_19 : decode cX3_flowThrough 19 = .ok (.astore_n 3, 1) := by decide +kernel
theorem dX3_flowThrough_20 : decode cX3_flowThrough 20 = .ok (.aload_n 2, 1) := by decide +kernel
theorem dX3_flowThrough_21 : decode cX3_flowThrough 21 = .ok (.invokevirtual 186, 3) := by decide +kernel
theorem dX3_flowThrough_24 : decode cX3_flowThrough 24 = .ok (.aload_n 3, 1) := by decide +kernel
theorem dX3_flowThrough_25 : decode cX3_flowThrough 25 = .ok (.invokevirtual 186, 3) := by decide +kernel
theorem dX3_flowThrough_28 : decode cX3_flowThrough 28 = .ok (.isub, 1) := by decide +kernel
theorem dX3_flowThrough_29 : decode cX3_flowThrough 29 = .ok (.istore 4, 2) := by decide +kernel
theorem dX3_flowThrough_31 : decode cX3_flowThrough 31 = .ok (.iload 4, 2) := by decide +kernel
theorem dX3_flowThrough_33 : decode cX3_flowThrough 33 = .ok (.ifCond .lt 7, 3) := by decide +kernel
theorem dX3_flowThrough_36 : decode cX3_flowThrough 36 = .ok (.aload_n 2, 1) := by decide +kernel
theorem dX3_flowThrough_37 : decode cX3_flowThrough 37 = .ok (.goto 4, 3) := by decide +kernel
theorem dX3_flowThrough_40 : decode cX3_flowThrough 40 = .ok (.aload_n 3, 1) := by decide +kernel
theorem dX3_flowThrough_41 : decode cX3_flowThrough 41 = .ok (.astore 5, 2) := by decide +kernel
theorem dX3_flowThrough_43 : decode cX3_flowThrough 43 = .ok (.iload 4, 2) := by decide +kernel
theorem dX3_flowThrough_45 : decode cX3_flowThrough 45 = .ok (.ifCond .lt 7, 3) := by decide +kernel
theorem dX3_flowThrough_48 : decode cX3_flowThrough 48 = .ok (.aload_n 3, 1) := by decide +kernel
theorem dX3_flowThrough_49 : decode cX3_flowThrough 49 = .ok (.goto 4, 3) := by decide +kernel
theorem dX3_flowThrough_52 : decode cX3_flowThrough 52 = .ok (.aload_n 2, 1) := by decide +kernel
theorem dX3_flowThrough_53 : decode cX3_flowThrough 53 = .ok (.astore 6, 2) := by decide +kernel
theorem dX3_flowThrough_55 : decode cX3_flowThrough 55 = .ok (.iload 4, 2) := by decide +kernel
theorem dX3_flowThrough_57 : decode cX3_flowThrough 57 = .ok (.invokestatic 189, 3) := by decide +kernel
theorem dX3_flowThrough_60 : decode cX3_flowThrough 60 = .ok (.istore 7, 2) := by decide +kernel
theorem dX3_flowThrough_62 : decode cX3_flowThrough 62 = .ok (.aload 5, 2) := by decide +kernel
theorem dX3_flowThrough_64 : decode cX3_flowThrough 64 = .ok (.iload 7, 2) := by decide +kernel
theorem dX3_flowThrough_66 : decode cX3_flowThrough 66 = .ok (.aload_n 1, 1) := by decide +kernel
theorem dX3_flowThrough_67 : decode cX3_flowThrough 67 = .ok (.getfield 194, 3) := by decide +kernel
theorem dX3_flowThrough_70 : decode cX3_flowThrough 70 = .ok (.imul, 1) := by decide +kernel
theorem dX3_flowThrough_71 : decode cX3_flowThrough 71 = .ok (.bipush 20, 2) := by decide +kernel
theorem dX3_flowThrough_73 : decode cX3_flowThrough 73 = .ok (.idiv, 1) := by decide +kernel
theorem dX3_flowThrough_74 : decode cX3_flowThrough 74 = .ok (.aload_n 0, 1) := by decide +kernel
theorem dX3_flowThrough_75 : decode cX3_flowThrough 75 = .ok (.getfield 63, 3) := by decide +kernel
theorem dX3_flowThrough_78 : decode cX3_flowThrough 78 = .ok (.invokevirtual 197, 3) := by decide +kernel
theorem dX3_flowThrough_81 : decode cX3_flowThrough 81 = .ok (.aload 6, 2) := by decide +kernel
theorem dX3_flowThrough_83 : decode cX3_flowThrough 83 = .ok (.getfield 123, 3) := by decide +kernel
theorem dX3_flowThrough_86 : decode cX3_flowThrough 86 = .ok (.aload_n 0, 1) := by decide +kernel
theorem dX3_flowThrough_87 : decode cX3_flowThrough 87 = .ok (.getfield 63, 3) := by decide +kernel
theorem dX3_flowThrough_90 : decode cX3_flowThrough 90 = .ok (.invokevirtual 201, 3) := by decide +kernel
theorem dX3_flowThrough_93 : decode cX3_flowThrough 93 = .ok (.aload_n 1, 1) := by decide +kernel
theorem dX3_flowThrough_94 : decode cX3_flowThrough 94 = .ok (.iload 4, 2) := by decide +kernel
theorem dX3_flowThrough_96 : decode cX3_flowThrough 96 = .ok (.ifCond .lt 13, 3) := by decide +kernel
theorem dX3_flowThrough_99 : decode cX3_flowThrough 99 = .ok (.aload_n 0, 1) := by decide +kernel
theorem dX3_flowThrough_100 : decode cX3_flowThrough 100 = .ok (.getfield 63, 3) := by decide +kernel
theorem dX3_flowThrough_103 : decode cX3_flowThrough 103 = .ok (.getfield 204, 3) := by decide +kernel
theorem dX3_flowThrough_106 : decode cX3_flowThrough 106 = .ok (.goto 11, 3) := by decide +kernel
theorem dX3_flowThrough_109 : decode cX3_flowThrough 109 = .ok (.aload_n 0, 1) := by decide +kernel
theorem dX3_flowThrough_110 : decode cX3_flowThrough 110 = .ok (.getfield 63, 3) := by decide +kernel
theorem dX3_flowThrough_113 : decode cX3_flowThrough 113 = .ok (.getfield 204, 3) := by decide +kernel
theorem dX3_flowThrough_116 : decode cX3_flowThrough 116 = .ok (.ineg, 1) := by decide +kernel
theorem dX3_flowThrough_117 : decode cX3_flowThrough 117 = .ok (.putfield 207, 3) := by decide +kernel
theorem dX3_flowThrough_120 : decode cX3_flowThrough 120 = .ok (.aload_n 2, 1) := by decide +kernel
theorem dX3_flowThrough_121 : decode cX3_flowThrough 121 = .ok (.invokevirtual 210, 3) := by decide +kernel
theorem dX3_flowThrough_124 : decode cX3_flowThrough 124 = .ok (.aload_n 3, 1) := by decide +kernel
theorem dX3_flowThrough_125 : decode cX3_flowThrough 125 = .ok (.invokevirtual 210, 3) := by decide +kernel
theorem dX3_flowThrough_128 : decode cX3_flowThrough 128 = .ok (.isub, 1) := by decide +kernel
theorem dX3_flowThrough_129 : decode cX3_flowThrough 129 = .ok (.aload_n 1, 1) := by decide +kernel
theorem dX3_flowThrough_130 : decode cX3_flowThrough 130 = .ok (.getfield 194, 3) := by decide +kernel
theorem dX3_flowThrough_133 : decode cX3_flowThrough 133 = .ok (.imul, 1) := by decide +kernel
theorem dX3_flowThrough_134 : decode cX3_flowThrough 134 = .ok (.istore 8, 2) := by decide +kernel
theorem dX3_flowThrough_136 : decode cX3_flowThrough 136 = .ok (.aload_n 2, 1) := by decide +kernel
theorem dX3_flowThrough_137 : decode cX3_flowThrough 137 = .ok (.getfield 123, 3) := by decide +kernel
theorem dX3_flowThrough_140 : decode cX3_flowThrough 140 = .ok (.dup, 1) := by decide +kernel
theorem dX3_flowThrough_141 : decode cX3_flowThrough 141 = .ok (.getfield 213, 3) := by decide +kernel
theorem dX3_flowThrough_144 : decode cX3_flowThrough 144 = .ok (.iload 8, 2) := by decide +kernel
theorem dX3_flowThrough_146 : decode cX3_flowThrough 146 = .ok (.isub, 1) := by decide +kernel
theorem dX3_flowThrough_147 : decode cX3_flowThrough 147 = .ok (.putfield 213, 3) := by decide +kernel
theorem dX3_flowThrough_150 : decode cX3_flowThrough 150 = .ok (.aload_n 3, 1) := by decide +kernel
theorem dX3_flowThrough_151 : decode cX3_flowThrough 151 = .ok (.getfield 123, 3) := by decide +kernel
theorem dX3_flowThrough_154 : decode cX3_flowThrough 154 = .ok (.dup, 1) := by decide +kernel
theorem dX3_flowThrough_155 : decode cX3_flowThrough 155 = .ok (.getfield 213, 3) := by decide +kernel
theorem dX3_flowThrough_158 : decode cX3_flowThrough 158 = .ok (.iload 8, 2) := by decide +kernel
theorem dX3_flowThrough_160 : decode cX3_flowThrough 160 = .ok (.iadd, 1) := by decide +kernel
theorem dX3_flowThrough_161 : decode cX3_flowThrough 161 = .ok (.putfield 213, 3) := by decide +kernel
theorem dX3_flowThrough_164 : decode cX3_flowThrough 164 = .ok (.iload 7, 2) := by decide +kernel
theorem dX3_flowThrough_166 : decode cX3_flowThrough 166 = .ok (.bipush 50, 2) := by decide +kernel
theorem dX3_flowThrough_168 : decode cX3_flowThrough 168 = .ok (.if_icmp .lt 18, 3) := by decide +kernel
theorem dX3_flowThrough_171 : decode cX3_flowThrough 171 = .ok (.aload_n 1, 1) := by decide +kernel
theorem dX3_flowThrough_172 : decode cX3_flowThrough 172 = .ok (.aload_n 1, 1) := by decide +kernel
theorem dX3_flowThrough_173 : decode cX3_flowThrough 173 = .ok (.getfield 194, 3) := by decide +kernel
theorem dX3_flowThrough_176 : decode cX3_flowThrough 176 = .ok (.iconst 1, 1) := by decide +kernel
theorem dX3_flowThrough_177 : decode cX3_flowThrough 177 = .ok (.iadd, 1) := by decide +kernel
theorem dX3_flowThrough_178 : decode cX3_flowThrough 178 = .ok (.bipush 9, 2) := by decide +kernel
theorem dX3_flowThrough_180 : decode cX3_flowThrough 180 = .ok (.invokestatic 216, 3) := by decide +kernel
theorem dX3_flowThrough_183 : decode cX3_flowThrough 183 = .ok (.putfield 194, 3) := by decide +kernel
theorem dX3_flowThrough_186 : decode cX3_flowThrough 186 = .ok (.return_, 1) := by decide +kernel
theorem dX3_produce_0 : decode cX3_produce 0 = .ok (.aload_n 0, 1) := by decide +kernel
theorem dX3_produce_1 : decode cX3_produce 1 = .ok (.getfield 11, 3) := by decide +kernel
theorem dX3_produce_4 : decode cX3_produce 4 = .ok (.aload_n 1, 1) := by decide +kernel
theorem dX3_produce_5 : decode cX3_produce 5 = .ok (.getfield 220, 3) := by decide +kernel
theorem dX3_produce_8 : decode cX3_produce 8 = .ok (.aaload, 1) := by decide +kernel
theorem dX3_produce_9 : decode cX3_produce 9 = .ok (.astore_n 2, 1) := by decide +kernel
theorem dX3_produce_10 : decode cX3_produce 10 = .ok (.aload_n 2, 1) := by decide +kernel
theorem dX3_produce_11 : decode cX3_produce 11 = .ok (.invokevirtual 210, 3) := by decide +kernel
theorem dX3_produce_14 : decode cX3_produce 14 = .ok (.istore_n 3, 1) := by decide +kernel
theorem dX3_produce_15 : decode cX3_produce 15 = .ok (.aload_n 2, 1) := by decide +kernel
theorem dX3_produce_16 : decode cX3_produce 16 = .ok (.invokevirtual 186, 3) := by decide +kernel
theorem dX3_produce_19 : decode cX3_produce 19 = .ok (.bipush 40, 2) := by decide +kernel
theorem dX3_produce_21 : decode cX3_produce 21 = .ok (.isub, 1) := by decide +kernel
theorem dX3_produce_22 : decode cX3_produce 22 = .ok (.iconst 3, 1) := by decide +kernel
theorem dX3_produce_23 : decode cX3_produce 23 = .ok (.aload_n 1, 1) := by decide +kernel
theorem dX3_produce_24 : decode cX3_produce 24 = .ok (.getfield 223, 3) := by decide +kernel
theorem dX3_produce_27 : decode cX3_produce 27 = .ok (.imul, 1) := by decide +kernel
theorem dX3_produce_28 : decode cX3_produce 28 = .ok (.isub, 1) := by decide +kernel
theorem dX3_produce_29 : decode cX3_produce 29 = .ok (.iconst 0, 1) := by decide +kernel
theorem dX3_produce_30 : decode cX3_produce 30 = .ok (.invokestatic 226, 3) := by decide +kernel
theorem dX3_produce_33 : decode cX3_produce 33 = .ok (.istore 4, 2) := by decide +kernel
theorem dX3_produce_35 : decode cX3_produce 35 = .ok (.aload_n 2, 1) := by decide +kernel
theorem dX3_produce_36 : decode cX3_produce 36 = .ok (.iload 4, 2) := by decide +kernel
theorem dX3_produce_38 : decode cX3_produce 38 = .ok (.aload_n 1, 1) := by decide +kernel
theorem dX3_produce_39 : decode cX3_produce 39 = .ok (.getfield 143, 3) := by decide +kernel
theorem dX3_produce_42 : decode cX3_produce 42 = .ok (.imul, 1) := by decide +kernel
theorem dX3_produce_43 : decode cX3_produce 43 = .ok (.bipush 20, 2) := by decide +kernel
theorem dX3_produce_45 : decode cX3_produce 45 = .ok (.idiv, 1) := by decide +kernel
theorem dX3_produce_46 : decode cX3_produce 46 = .ok (.aload_n 0, 1) := by decide +kernel
theorem dX3_produce_47 : decode cX3_produce 47 = .ok (.getfield 63, 3) := by decide +kernel
theorem dX3_produce_50 : decode cX3_produce 50 = .ok (.invokevirtual 197, 3) := by decide +kernel
theorem dX3_produce_53 : decode cX3_produce 53 = .ok (.aload_n 0, 1) := by decide +kernel
theorem dX3_produce_54 : decode cX3_produce 54 = .ok (.getfield 63, 3) := by decide +kernel
theorem dX3_produce_57 : decode cX3_produce 57 = .ok (.getfield 204, 3) := by decide +kernel
theorem dX3_produce_60 : decode cX3_produce 60 = .ok (.iload_n 3, 1) := by decide +kernel
theorem dX3_produce_61 : decode cX3_produce 61 = .ok (.bipush 100, 2) := by decide +kernel
theorem dX3_produce_63 : decode cX3_produce 63 = .ok (.isub, 1) := by decide +kernel
theorem dX3_produce_64 : decode cX3_produce 64 = .ok (.iconst 0, 1) := by decide +kernel
theorem dX3_produce_65 : decode cX3_produce 65 = .ok (.invokestatic 226, 3) := by decide +kernel
theorem dX3_produce_68 : decode cX3_produce 68 = .ok (.imul, 1) := by decide +kernel
theorem dX3_produce_69 : decode cX3_produce 69 = .ok (.sipush 400, 3) := by decide +kernel
theorem dX3_produce_72 : decode cX3_produce 72 = .ok (.idiv, 1) := by decide +kernel
theorem dX3_produce_73 : decode cX3_produce 73 = .ok (.aload_n 0, 1) := by decide +kernel
theorem dX3_produce_74 : decode cX3_produce 74 = .ok (.getfield 63, 3) := by decide +kernel
theorem dX3_produce_77 : decode cX3_produce 77 = .ok (.getfield 204, 3) := by decide +kernel
theorem dX3_produce_80 : decode cX3_produce 80 = .ok (.invokestatic 216, 3) := by decide +kernel
theorem dX3_produce_83 : decode cX3_produce 83 = .ok (.istore 5, 2) := by decide +kernel
theorem dX3_produce_85 : decode cX3_produce 85 = .ok (.aload_n 0, 1) := by decide +kernel
theorem dX3_produce_86 : decode cX3_produce 86 = .ok (.getfield 63, 3) := by decide +kernel
theorem dX3_produce_89 : decode cX3_produce 89 = .ok (.getfield 204, 3) := by decide +kernel
theorem dX3_produce_92 : decode cX3_produce 92 = .ok (.iload 5, 2) := by decide +kernel
theorem dX3_produce_94 : decode cX3_produce 94 = .ok (.isub, 1) := by decide +kernel
theorem dX3_produce_95 : decode cX3_produce 95 = .ok (.istore 6, 2) := by decide +kernel
theorem dX3_produce_97 : decode cX3_produce 97 = .ok (.aload_n 1, 1) := by decide +kernel
theorem dX3_produce_98 : decode cX3_produce 98 = .ok (.aload_n 0, 1) := by decide +kernel
theorem dX3_produce_99 : decode cX3_produce 99 = .ok (.getfield 63, 3) := by decide +kernel
theorem dX3_produce_102 : decode cX3_produce 102 = .ok (.iload 5, 2) := by decide +kernel
theorem dX3_produce_104 : decode cX3_produce 104 = .ok (.invokevirtual 229, 3) := by decide +kernel
theorem dX3_produce_107 : decode cX3_produce 107 = .ok (.bipush 10, 2) := by decide +kernel
theorem dX3_produce_109 : decode cX3_produce 109 = .ok (.aload_n 0, 1) := by decide +kernel
theorem dX3_produce_110 : decode cX3_produce 110 = .ok (.getfield 63, 3) := by decide +kernel
theorem dX3_produce_113 : decode cX3_produce 113 = .ok (.getfield 233, 3) := by decide +kernel
theorem dX3_produce_116 : decode cX3_produce 116 = .ok (.imul, 1) := by decide +kernel
theorem dX3_produce_117 : decode cX3_produce 117 = .ok (.bipush 30, 2) := by decide +kernel
theorem dX3_produce_119 : decode cX3_produce 119 = .ok (.iload 6, 2) := by decide +kernel
theorem dX3_produce_121 : decode cX3_produce 121 = .ok (.imul, 1) := by decide +kernel
theorem dX3_produce_122 : decode cX3_produce 122 = .ok (.if_icmp .le 7, 3) := by decide +kernel
theorem dX3_produce_125 : decode cX3_produce 125 = .ok (.aload_n 1, 1) := by decide +kernel
theorem dX3_produce_126 : decode cX3_produce 126 = .ok (.invokevirtual 236, 3) := by decide +kernel
theorem dX3_produce_129 : decode cX3_produce 129 = .ok (.aload_n 0, 1) := by decide +kernel
theorem dX3_produce_130 : decode cX3_produce 130 = .ok (.getfield 63, 3) := by decide +kernel
theorem dX3_produce_133 : decode cX3_produce 133 = .ok (.iload 6, 2) := by decide +kernel
theorem dX3_produce_135 : decode cX3_produce 135 = .ok (.putfield 204, 3) := by decide +kernel
theorem dX3_produce_138 : decode cX3_produce 138 = .ok (.aload_n 0, 1) := by decide +kernel
theorem dX3_produce_139 : decode cX3_produce 139 = .ok (.getfield 63, 3) := by decide +kernel
theorem dX3_produce_142 : decode cX3_produce 142 = .ok (.iload 6, 2) := by decide +kernel
theorem dX3_produce_144 : decode cX3_produce 144 = .ok (.iload_n 3, 1) := by decide +kernel
theorem dX3_produce_145 : decode cX3_produce 145 = .ok (.bipush 100, 2) := by decide +kernel
theorem dX3_produce_147 : decode cX3_produce 147 = .ok (.invokestatic 216, 3) := by decide +kernel
theorem dX3_produce_150 : decode cX3_produce 150 = .ok (.imul, 1) := by decide +kernel
theorem dX3_produce_151 : decode cX3_produce 151 = .ok (.putfield 213, 3) := by decide +kernel
theorem dX3_produce_154 : decode cX3_produce 154 = .ok (.aload_n 0, 1) := by decide +kernel
theorem dX3_produce_155 : decode cX3_produce 155 = .ok (.getfield 38, 3) := by decide +kernel
theorem dX3_produce_158 : decode cX3_produce 158 = .ok (.aload_n 0, 1) := by decide +kernel
theorem dX3_produce_159 : decode cX3_produce 159 = .ok (.getfield 63, 3) := by decide +kernel
theorem dX3_produce_162 : decode cX3_produce 162 = .ok (.invokevirtual 201, 3) := by decide +kernel
theorem dX3_produce_165 : decode cX3_produce 165 = .ok (.iload 5, 2) := by decide +kernel
theorem dX3_produce_167 : decode cX3_produce 167 = .ok (.ireturn, 1) := by decide +kernel
theorem dX3_drive_0 : decode cX3_drive 0 = .ok (.aload_n 0, 1) := by decide +kernel
theorem dX3_drive_1 : decode cX3_drive 1 = .ok (.getfield 45, 3) := by decide +kernel
theorem dX3_drive_4 : decode cX3_drive 4 = .ok (.getfield 239, 3) := by decide +kernel
theorem dX3_drive_7 : decode cX3_drive 7 = .ok (.ifCond .eq 17, 3) := by decide +kernel
theorem dX3_drive_10 : decode cX3_drive 10 = .ok (.iload_n 1, 1) := by decide +kernel
theorem dX3_drive_11 : decode cX3_drive 11 = .ok (.aload_n 0, 1) := by decide +kernel
theorem dX3_drive_12 : decode cX3_drive 12 = .ok (.getfield 45, 3) := by decide +kernel
theorem dX3_drive_15 : decode cX3_drive 15 = .ok (.getfield 242, 3) := by decide +kernel
theorem dX3_drive_18 : decode cX3_drive 18 = .ok (.invokestatic 216, 3) := by decide +kernel
theorem dX3_drive_21 : decode cX3_drive 21 = .ok (.goto 4, 3) := by decide +kernel
theorem dX3_drive_24 : decode cX3_drive 24 = .ok (.iconst 0, 1) := by decide +kernel
theorem dX3_drive_25 : decode cX3_drive 25 = .ok (.istore_n 2, 1) := by decide +kernel
theorem dX3_drive_26 : decode cX3_drive 26 = .ok (.aload_n 0, 1) := by decide +kernel
theorem dX3_drive_27 : decode cX3_drive 27 = .ok (.getfield 45, 3) := by decide +kernel
theorem dX3_drive_30 : decode cX3_drive 30 = .ok (.iconst 2, 1) := by decide +kernel
theorem dX3_drive_31 : decode cX3_drive 31 = .ok (.iload_n 2, 1) := by decide +kernel
theorem dX3_drive_32 : decode cX3_drive 32 = .ok (.imul, 1) := by decide +kernel
theorem dX3_drive_33 : decode cX3_drive 33 = .ok (.putfield 245, 3) := by decide +kernel
theorem dX3_drive_36 : decode cX3_drive 36 = .ok (.aload_n 0, 1) := by decide +kernel
theorem dX3_drive_37 : decode cX3_drive 37 = .ok (.getfield 45, 3) := by decide +kernel
theorem dX3_drive_40 : decode cX3_drive 40 = .ok (.dup, 1) := by decide +kernel
theorem dX3_drive_41 : decode cX3_drive 41 = .ok (.getfield 248, 3) := by decide +kernel
theorem dX3_drive_44 : decode cX3_drive 44 = .ok (.aload_n 0, 1) := by decide +kernel
theorem dX3_drive_45 : decode cX3_drive 45 = .ok (.getfield 45, 3) := by decide +kernel
theorem dX3_drive_48 : decode cX3_drive 48 = .ok (.getfield 245, 3) := by decide +kernel
theorem dX3_drive_51 : decode cX3_drive 51 = .ok (.iadd, 1) := by decide +kernel
theorem dX3_drive_52 : decode cX3_drive 52 = .ok (.putfield 248, 3) := by decide +kernel
theorem dX3_drive_55 : decode cX3_drive 55 = .ok (.aload_n 0, 1) := by decide +kernel
theorem dX3_drive_56 : decode cX3_drive 56 = .ok (.getfield 52, 3) := by decide +kernel
theorem dX3_drive_59 : decode cX3_drive 59 = .ok (.dup, 1) := by decide +kernel
theorem dX3_drive_60 : decode cX3_drive 60 = .ok (.getfield 251, 3) := by decide +kernel
theorem dX3_drive_63 : decode cX3_drive 63 = .ok (.iload_n 2, 1) := by decide +kernel
theorem dX3_drive_64 : decode cX3_drive 64 = .ok (.iadd, 1) := by decide +kernel
theorem dX3_drive_65 : decode cX3_drive 65 = .ok (.putfield 251, 3) := by decide +kernel
theorem dX3_drive_68 : decode cX3_drive 68 = .ok (.aload_n 0, 1) := by decide +kernel
theorem dX3_drive_69 : decode cX3_drive 69 = .ok (.getfield 52, 3) := by decide +kernel
theorem dX3_drive_72 : decode cX3_drive 72 = .ok (.dup, 1) := by decide +kernel
theorem dX3_drive_73 : decode cX3_drive 73 = .ok (.getfield 254, 3) := by decide +kernel
theorem dX3_drive_76 : decode cX3_drive 76 = .ok (.iload_n 1, 1) := by decide +kernel
theorem dX3_drive_77 : decode cX3_drive 77 = .ok (.iload_n 2, 1) := by decide +kernel
theorem dX3_drive_78 : decode cX3_drive 78 = .ok (.isub, 1) := by decide +kernel
theorem dX3_drive_79 : decode cX3_drive 79 = .ok (.iadd, 1) := by decide +kernel
theorem dX3_drive_80 : decode cX3_drive 80 = .ok (.putfield 254, 3) := by decide +kernel
theorem dX3_drive_83 : decode cX3_drive 83 = .ok (.iload_n 1, 1) := by decide +kernel
theorem dX3_drive_84 : decode cX3_drive 84 = .ok (.iconst 2, 1) := by decide +kernel
theorem dX3_drive_85 : decode cX3_drive 85 = .ok (.aload_n 0, 1) := by decide +kernel
theorem dX3_drive_86 : decode cX3_drive 86 = .ok (.getfield 45, 3) := by decide +kernel
theorem dX3_drive_89 : decode cX3_drive 89 = .ok (.getfield 242, 3) := by decide +kernel
theorem dX3_drive_92 : decode cX3_drive 92 = .ok (.imul, 1) := by decide +kernel
theorem dX3_drive_93 : decode cX3_drive 93 = .ok (.if_icmp .le 21, 3) := by decide +kernel
theorem dX3_drive_96 : decode cX3_drive 96 = .ok (.aload_n 0, 1) := by decide +kernel
theorem dX3_drive_97 : decode cX3_drive 97 = .ok (.getfield 45, 3) := by decide +kernel
theorem dX3_drive_100 : decode cX3_drive 100 = .ok (.getfield 242, 3) := by decide +kernel
theorem dX3_drive_103 : decode cX3_drive 103 = .ok (.ifCond .le 11, 3) := by decide +kernel
theorem dX3_drive_106 : decode cX3_drive 106 = .ok (.aload_n 0, 1) := by decide +kernel
theorem dX3_drive_107 : decode cX3_drive 107 = .ok (.getfield 45, 3) := by decide +kernel
theorem dX3_drive_110 : decode cX3_drive 110 = .ok (.iconst 0, 1) := by decide +kernel
theorem dX3_drive_111 : decode cX3_drive 111 = .ok (.putfield 239, 3) := by decide +kernel
theorem dX3_drive_114 : decode cX3_drive 114 = .ok (.return_, 1) := by decide +kernel
theorem dX3_warmTheTown_0 : decode cX3_warmTheTown 0 = .ok (.aload_n 0, 1) := by decide +kernel
theorem dX3_warmTheTown_1 : decode cX3_warmTheTown 1 = .ok (.getfield 38, 3) := by decide +kernel
theorem dX3_warmTheTown_4 : decode cX3_warmTheTown 4 = .ok (.getfield 213, 3) := by decide +kernel
theorem dX3_warmTheTown_7 : decode cX3_warmTheTown 7 = .ok (.bipush 30, 2) := by decide +kernel
theorem dX3_warmTheTown_9 : decode cX3_warmTheTown 9 = .ok (.aload_n 0, 1) := by decide +kernel
theorem dX3_warmTheTown_10 : decode cX3_warmTheTown 10 = .ok (.getfield 38, 3) := by decide +kernel
theorem dX3_warmTheTown_13 : decode cX3_warmTheTown 13 = .ok (.getfield 204, 3) := by decide +kernel
theorem dX3_warmTheTown_16 : decode cX3_warmTheTown 16 = .ok (.imul, 1) := by decide +kernel
theorem dX3_warmTheTown_17 : decode cX3_warmTheTown 17 = .ok (.isub, 1) := by decide +kernel
theorem dX3_warmTheTown_18 : decode cX3_warmTheTown 18 = .ok (.iconst 0, 1) := by decide +kernel
theorem dX3_warmTheTown_19 : decode cX3_warmTheTown 19 = .ok (.invokestatic 226, 3) := by decide +kernel
theorem dX3_warmTheTown_22 : decode cX3_warmTheTown 22 = .ok (.istore_n 1, 1) := by decide +kernel
theorem dX3_warmTheTown_23 : decode cX3_warmTheTown 23 = .ok (.aload_n 0, 1) := by decide +kernel
theorem dX3_warmTheTown_24 : decode cX3_warmTheTown 24 = .ok (.getfield 45, 3) := by decide +kernel
theorem dX3_warmTheTown_27 : decode cX3_warmTheTown 27 = .ok (.aload_n 0, 1) := by decide +kernel
theorem dX3_warmTheTown_28 : decode cX3_warmTheTown 28 = .ok (.getfield 45, 3) := by decide +kernel
theorem dX3_warmTheTown_31 : decode cX3_warmTheTown 31 = .ok (.getfield 257, 3) := by decide +kernel
theorem dX3_warmTheTown_34 : decode cX3_warmTheTown 34 = .ok (.iload_n 1, 1) := by decide +kernel
theorem dX3_warmTheTown_35 : decode cX3_warmTheTown 35 = .ok (.invokestatic 216, 3) := by decide +kernel
theorem dX3_warmTheTown_38 : decode cX3_warmTheTown 38 = .ok (.putfield 260, 3) := by decide +kernel
theorem dX3_warmTheTown_41 : decode cX3_warmTheTown 41 = .ok (.aload_n 0, 1) := by decide +kernel
theorem dX3_warmTheTown_42 : decode cX3_warmTheTown 42 = .ok (.getfield 38, 3) := by decide +kernel
theorem dX3_warmTheTown_45 : decode cX3_warmTheTown 45 = .ok (.dup, 1) := by decide +kernel
theorem dX3_warmTheTown_46 : decode cX3_warmTheTown 46 = .ok (.getfield 213, 3) := by decide +kernel
theorem dX3_warmTheTown_49 : decode cX3_warmTheTown 49 = .ok (.aload_n 0, 1) := by decide +kernel
theorem dX3_warmTheTown_50 : decode cX3_warmTheTown 50 = .ok (.getfield 45, 3) := by decide +kernel
theorem dX3_warmTheTown_53 : decode cX3_warmTheTown 53 = .ok (.getfield 260, 3) := by decide +kernel
theorem dX3_warmTheTown_56 : decode cX3_warmTheTown 56 = .ok (.isub, 1) := by decide +kernel
theorem dX3_warmTheTown_57 : decode cX3_warmTheTown 57 = .ok (.putfield 213, 3) := by decide +kernel
theorem dX3_warmTheTown_60 : decode cX3_warmTheTown 60 = .ok (.return_, 1) := by decide +kernel
theorem dX3_spill_0 : decode cX3_spill 0 = .ok (.aload_n 0, 1) := by decide +kernel
theorem dX3_spill_1 : decode cX3_spill 1 = .ok (.aload_n 0, 1) := by decide +kernel
theorem dX3_spill_2 : decode cX3_spill 2 = .ok (.getfield 38, 3) := by decide +kernel
theorem dX3_spill_5 : decode cX3_spill 5 = .ok (.getfield 204, 3) := by decide +kernel
theorem dX3_spill_8 : decode cX3_spill 8 = .ok (.sipush 500, 3) := by decide +kernel
theorem dX3_spill_11 : decode cX3_spill 11 = .ok (.isub, 1) := by decide +kernel
theorem dX3_spill_12 : decode cX3_spill 12 = .ok (.iconst 0, 1) := by decide +kernel
theorem dX3_spill_13 : decode cX3_spill 13 = .ok (.invokestatic 226, 3) := by decide +kernel
theorem dX3_spill_16 : decode cX3_spill 16 = .ok (.invokevirtual 263, 3) := by decide +kernel
theorem dX3_spill_19 : decode cX3_spill 19 = .ok (.aload_n 0, 1) := by decide +kernel
theorem dX3_spill_20 : decode cX3_spill 20 = .ok (.getfield 52, 3) := by decide +kernel
theorem dX3_spill_23 : decode cX3_spill 23 = .ok (.getfield 133, 3) := by decide +kernel
theorem dX3_spill_26 : decode cX3_spill 26 = .ok (.aload_n 0, 1) := by decide +kernel
theorem dX3_spill_27 : decode cX3_spill 27 = .ok (.getfield 63, 3) := by decide +kernel
theorem dX3_spill_30 : decode cX3_spill 30 = .ok (.invokevirtual 201, 3) := by decide +kernel
theorem dX3_spill_33 : decode cX3_spill 33 = .ok (.return_, 1) := by decide +kernel
theorem dX3_drain_0 : decode cX3_drain 0 = .ok (.aload_n 0, 1) := by decide +kernel
theorem dX3_drain_1 : decode cX3_drain 1 = .ok (.getfield 63, 3) := by decide +kernel
theorem dX3_drain_4 : decode cX3_drain 4 = .ok (.iload_n 1, 1) := by decide +kernel
theorem dX3_drain_5 : decode cX3_drain 5 = .ok (.putfield 204, 3) := by decide +kernel
theorem dX3_drain_8 : decode cX3_drain 8 = .ok (.aload_n 0, 1) := by decide +kernel
theorem dX3_drain_9 : decode cX3_drain 9 = .ok (.getfield 63, 3) := by decide +kernel
theorem dX3_drain_12 : decode cX3_drain 12 = .ok (.aload_n 0, 1) := by decide +kernel
theorem dX3_drain_13 : decode cX3_drain 13 = .ok (.getfield 38, 3) := by decide +kernel
theorem dX3_drain_16 : decode cX3_drain 16 = .ok (.aload_n 0, 1) := by decide +kernel
theorem dX3_drain_17 : decode cX3_drain 17 = .ok (.getfield 38, 3) := by decide +kernel
theorem dX3_drain_20 : decode cX3_drain 20 = .ok (.getfield 213, 3) := by decide +kernel
theorem dX3_drain_23 : decode cX3_drain 23 = .ok (.iload_n 1, 1) := by decide +kernel
theorem dX3_drain_24 : decode cX3_drain 24 = .ok (.invokevirtual 266, 3) := by decide +kernel
theorem dX3_drain_27 : decode cX3_drain 27 = .ok (.putfield 213, 3) := by decide +kernel
theorem dX3_drain_30 : decode cX3_drain 30 = .ok (.aload_n 0, 1) := by decide +kernel
theorem dX3_drain_31 : decode cX3_drain 31 = .ok (.getfield 63, 3) := by decide +kernel
theorem dX3_drain_34 : decode cX3_drain 34 = .ok (.aload_n 0, 1) := by decide +kernel
theorem dX3_drain_35 : decode cX3_drain 35 = .ok (.getfield 38, 3) := by decide +kernel
theorem dX3_drain_38 : decode cX3_drain 38 = .ok (.aload_n 0, 1) := by decide +kernel
theorem dX3_drain_39 : decode cX3_drain 39 = .ok (.getfield 38, 3) := by decide +kernel
theorem dX3_drain_42 : decode cX3_drain 42 = .ok (.getfield 233, 3) := by decide +kernel
theorem dX3_drain_45 : decode cX3_drain 45 = .ok (.iload_n 1, 1) := by decide +kernel
theorem dX3_drain_46 : decode cX3_drain 46 = .ok (.invokevirtual 266, 3) := by decide +kernel
theorem dX3_drain_49 : decode cX3_drain 49 = .ok (.putfield 233, 3) := by decide +kernel
theorem dX3_drain_52 : decode cX3_drain 52 = .ok (.aload_n 0, 1) := by decide +kernel
theorem dX3_drain_53 : decode cX3_drain 53 = .ok (.getfield 63, 3) := by decide +kernel
theorem dX3_drain_56 : decode cX3_drain 56 = .ok (.aload_n 0, 1) := by decide +kernel
theorem dX3_drain_57 : decode cX3_drain 57 = .ok (.getfield 38, 3) := by decide +kernel
theorem dX3_drain_60 : decode cX3_drain 60 = .ok (.aload_n 0, 1) := by decide +kernel
theorem dX3_drain_61 : decode cX3_drain 61 = .ok (.getfield 38, 3) := by decide +kernel
theorem dX3_drain_64 : decode cX3_drain 64 = .ok (.getfield 269, 3) := by decide +kernel
theorem dX3_drain_67 : decode cX3_drain 67 = .ok (.iload_n 1, 1) := by decide +kernel
theorem dX3_drain_68 : decode cX3_drain 68 = .ok (.invokevirtual 266, 3) := by decide +kernel
theorem dX3_drain_71 : decode cX3_drain 71 = .ok (.putfield 269, 3) := by decide +kernel
theorem dX3_drain_74 : decode cX3_drain 74 = .ok (.aload_n 0, 1) := by decide +kernel
theorem dX3_drain_75 : decode cX3_drain 75 = .ok (.getfield 38, 3) := by decide +kernel
theorem dX3_drain_78 : decode cX3_drain 78 = .ok (.aload_n 0, 1) := by decide +kernel
theorem dX3_drain_79 : decode cX3_drain 79 = .ok (.getfield 63, 3) := by decide +kernel
theorem dX3_drain_82 : decode cX3_drain 82 = .ok (.invokevirtual 272, 3) := by decide +kernel
theorem dX3_drain_85 : decode cX3_drain 85 = .ok (.return_, 1) := by decide +kernel
theorem dX3_inject_0 : decode cX3_inject 0 = .ok (.iconst 4, 1) := by decide +kernel
theorem dX3_inject_1 : decode cX3_inject 1 = .ok (.aload_n 1, 1) := by decide +kernel
theorem dX3_inject_2 : decode cX3_inject 2 = .ok (.getfield 143, 3) := by decide +kernel
theorem dX3_inject_5 : decode cX3_inject 5 = .ok (.imul, 1) := by decide +kernel
theorem dX3_inject_6 : decode cX3_inject 6 = .ok (.istore_n 3, 1) := by decide +kernel
theorem dX3_inject_7 : decode cX3_inject 7 = .ok (.iload_n 2, 1) := by decide +kernel
theorem dX3_inject_8 : decode cX3_inject 8 = .ok (.ifCond .eq 16, 3) := by decide +kernel
theorem dX3_inject_11 : decode cX3_inject 11 = .ok (.iload_n 2, 1) := by decide +kernel
theorem dX3_inject_12 : decode cX3_inject 12 = .ok (.iconst 1, 1) := by decide +kernel
theorem dX3_inject_13 : decode cX3_inject 13 = .ok (.if_icmp .ne 9, 3) := by decide +kernel
theorem dX3_inject_16 : decode cX3_inject 16 = .ok (.iload_n 3, 1) := by decide +kernel
theorem dX3_inject_17 : decode cX3_inject 17 = .ok (.iconst 2, 1) := by decide +kernel
theorem dX3_inject_18 : decode cX3_inject 18 = .ok (.idiv, 1) := by decide +kernel
theorem dX3_inject_19 : decode cX3_inject 19 = .ok (.goto 4, 3) := by decide +kernel
theorem dX3_inject_22 : decode cX3_inject 22 = .ok (.iconst 0, 1) := by decide +kernel
theorem dX3_inject_23 : decode cX3_inject 23 = .ok (.istore_n 3, 1) := by decide +kernel
theorem dX3_inject_24 : decode cX3_inject 24 = .ok (.aload_n 0, 1) := by decide +kernel
theorem dX3_inject_25 : decode cX3_inject 25 = .ok (.iload_n 3, 1) := by decide +kernel
theorem dX3_inject_26 : decode cX3_inject 26 = .ok (.aload_n 0, 1) := by decide +kernel
theorem dX3_inject_27 : decode cX3_inject 27 = .ok (.getfield 38, 3) := by decide +kernel
theorem dX3_inject_30 : decode cX3_inject 30 = .ok (.getfield 204, 3) := by decide +kernel
theorem dX3_inject_33 : decode cX3_inject 33 = .ok (.invokestatic 216, 3) := by decide +kernel
theorem dX3_inject_36 : decode cX3_inject 36 = .ok (.invokevirtual 263, 3) := by decide +kernel
theorem dX3_inject_39 : decode cX3_inject 39 = .ok (.aload_n 0, 1) := by decide +kernel
theorem dX3_inject_40 : decode cX3_inject 40 = .ok (.getfield 11, 3) := by decide +kernel
theorem dX3_inject_43 : decode cX3_inject 43 = .ok (.aload_n 1, 1) := by decide +kernel
theorem dX3_inject_44 : decode cX3_inject 44 = .ok (.getfield 220, 3) := by decide +kernel
theorem dX3_inject_47 : decode cX3_inject 47 = .ok (.aaload, 1) := by decide +kernel
theorem dX3_inject_48 : decode cX3_inject 48 = .ok (.astore 4, 2) := by decide +kernel
theorem dX3_inject_50 : decode cX3_inject 50 = .ok (.aload 4, 2) := by decide +kernel
theorem dX3_inject_52 : decode cX3_inject 52 = .ok (.invokevirtual 186, 3) := by decide +kernel
theorem dX3_inject_55 : decode cX3_inject 55 = .ok (.istore 5, 2) := by decide +kernel
theorem dX3_inject_57 : decode cX3_inject 57 = .ok (.aload 4, 2) := by decide +kernel
theorem dX3_inject_59 : decode cX3_inject 59 = .ok (.getfield 123, 3) := by decide +kernel
theorem dX3_inject_62 : decode cX3_inject 62 = .ok (.aload_n 0, 1) := by decide +kernel
theorem dX3_inject_63 : decode cX3_inject 63 = .ok (.getfield 63, 3) := by decide +kernel
theorem dX3_inject_66 : decode cX3_inject 66 = .ok (.invokevirtual 201, 3) := by decide +kernel
theorem dX3_inject_69 : decode cX3_inject 69 = .ok (.aload_n 1, 1) := by decide +kernel
theorem dX3_inject_70 : decode cX3_inject 70 = .ok (.aload_n 0, 1) := by decide +kernel
theorem dX3_inject_71 : decode cX3_inject 71 = .ok (.getfield 63, 3) := by decide +kernel
theorem dX3_inject_74 : decode cX3_inject 74 = .ok (.iconst 0, 1) := by decide +kernel
theorem dX3_inject_75 : decode cX3_inject 75 = .ok (.invokevirtual 229, 3) := by decide +kernel
theorem dX3_inject_78 : decode cX3_inject 78 = .ok (.aload 4, 2) := by decide +kernel
theorem dX3_inject_80 : decode cX3_inject 80 = .ok (.invokevirtual 186, 3) := by decide +kernel
theorem dX3_inject_83 : decode cX3_inject 83 = .ok (.iload 5, 2) := by decide +kernel
theorem dX3_inject_85 : decode cX3_inject 85 = .ok (.isub, 1) := by decide +kernel
theorem dX3_inject_86 : decode cX3_inject 86 = .ok (.istore 6, 2) := by decide +kernel
theorem dX3_inject_88 : decode cX3_inject 88 = .ok (.iload 6, 2) := by decide +kernel
theorem dX3_inject_90 : decode cX3_inject 90 = .ok (.iconst 5, 1) := by decide +kernel
theorem dX3_inject_91 : decode cX3_inject 91 = .ok (.if_icmp .lt 8, 3) := by decide +kernel
theorem dX3_inject_94 : decode cX3_inject 94 = .ok (.iload 6, 2) := by decide +kernel
theorem dX3_inject_96 : decode cX3_inject 96 = .ok (.goto 4, 3) := by decide +kernel
theorem dX3_inject_99 : decode cX3_inject 99 = .ok (.iconst 0, 1) := by decide +kernel
theorem dX3_inject_100 : decode cX3_inject 100 = .ok (.ireturn, 1) := by decide +kernel
theorem dX3_letFlow_0 : decode cX3_letFlow 0 = .ok (.aload_n 0, 1) := by decide +kernel
theorem dX3_letFlow_1 : decode cX3_letFlow 1 = .ok (.getfield 11, 3) := by decide +kernel
theorem dX3_letFlow_4 : decode cX3_letFlow 4 = .ok (.aload_n 1, 1) := by decide +kernel
theorem dX3_letFlow_5 : decode cX3_letFlow 5 = .ok (.getfield 275, 3) := by decide +kernel
theorem dX3_letFlow_8 : decode cX3_letFlow 8 = .ok (.aaload, 1) := by decide +kernel
theorem dX3_letFlow_9 : decode cX3_letFlow 9 = .ok (.astore_n 2, 1) := by decide +kernel
theorem dX3_letFlow_10 : decode cX3_letFlow 10 = .ok (.aload_n 2, 1) := by decide +kernel
theorem dX3_letFlow_11 : decode cX3_letFlow 11 = .ok (.aload_n 2, 1) := by decide +kernel
theorem dX3_letFlow_12 : decode cX3_letFlow 12 = .ok (.invokevirtual 186, 3) := by decide +kernel
theorem dX3_letFlow_15 : decode cX3_letFlow 15 = .ok (.aload_n 1, 1) := by decide +kernel
theorem dX3_letFlow_16 : decode cX3_letFlow 16 = .ok (.getfield 276, 3) := by decide +kernel
theorem dX3_letFlow_19 : decode cX3_letFlow 19 = .ok (.isub, 1) := by decide +kernel
theorem dX3_letFlow_20 : decode cX3_letFlow 20 = .ok (.iconst 0, 1) := by decide +kernel
theorem dX3_letFlow_21 : decode cX3_letFlow 21 = .ok (.invokestatic 226, 3) := by decide +kernel
theorem dX3_letFlow_24 : decode cX3_letFlow 24 = .ok (.iconst 5, 1) := by decide +kernel
theorem dX3_letFlow_25 : decode cX3_letFlow 25 = .ok (.idiv, 1) := by decide +kernel
theorem dX3_letFlow_26 : decode cX3_letFlow 26 = .ok (.aload_n 0, 1) := by decide +kernel
theorem dX3_letFlow_27 : decode cX3_letFlow 27 = .ok (.getfield 63, 3) := by decide +kernel
theorem dX3_letFlow_30 : decode cX3_letFlow 30 = .ok (.invokevirtual 197, 3) := by decide +kernel
theorem dX3_letFlow_33 : decode cX3_letFlow 33 = .ok (.aload_n 0, 1) := by decide +kernel
theorem dX3_letFlow_34 : decode cX3_letFlow 34 = .ok (.getfield 52, 3) := by decide +kernel
theorem dX3_letFlow_37 : decode cX3_letFlow 37 = .ok (.getfield 136, 3) := by decide +kernel
theorem dX3_letFlow_40 : decode cX3_letFlow 40 = .ok (.aload_n 0, 1) := by decide +kernel
theorem dX3_letFlow_41 : decode cX3_letFlow 41 = .ok (.getfield 63, 3) := by decide +kernel
theorem dX3_letFlow_44 : decode cX3_letFlow 44 = .ok (.invokevirtual 201, 3) := by decide +kernel
theorem dX3_letFlow_47 : decode cX3_letFlow 47 = .ok (.aload_n 1, 1) := by decide +kernel
theorem dX3_letFlow_48 : decode cX3_letFlow 48 = .ok (.aload_n 0, 1) := by decide +kernel
theorem dX3_letFlow_49 : decode cX3_letFlow 49 = .ok (.getfield 63, 3) := by decide +kernel
theorem dX3_letFlow_52 : decode cX3_letFlow 52 = .ok (.getfield 204, 3) := by decide +kernel
theorem dX3_letFlow_55 : decode cX3_letFlow 55 = .ok (.invokevirtual 279, 3) := by decide +kernel
theorem dX3_letFlow_58 : decode cX3_letFlow 58 = .ok (.return_, 1) := by decide +kernel
theorem dX3_shareOut_0 : decode cX3_shareOut 0 = .ok (.iconst 3, 1) := by decide +kernel
theorem dX3_shareOut_1 : decode cX3_shareOut 1 = .ok (.aload_n 0, 1) := by decide +kernel
theorem dX3_shareOut_2 : decode cX3_shareOut 2 = .ok (.getfield 45, 3) := by decide +kernel
theorem dX3_shareOut_5 : decode cX3_shareOut 5 = .ok (.getfield 245, 3) := by decide +kernel
theorem dX3_shareOut_8 : decode cX3_shareOut 8 = .ok (.imul, 1) := by decide +kernel
theorem dX3_shareOut_9 : decode cX3_shareOut 9 = .ok (.aload_n 0, 1) := by decide +kernel
theorem dX3_shareOut_10 : decode cX3_shareOut 10 = .ok (.getfield 45, 3) := by decide +kernel
theorem dX3_shareOut_13 : decode cX3_shareOut 13 = .ok (.getfield 260, 3) := by decide +kernel
theorem dX3_shareOut_16 : decode cX3_shareOut 16 = .ok (.bipush 100, 2) := by decide +kernel
theorem dX3_shareOut_18 : decode cX3_shareOut 18 = .ok (.idiv, 1) := by decide +kernel
theorem dX3_shareOut_19 : decode cX3_shareOut 19 = .ok (.iadd, 1) := by decide +kernel
theorem dX3_shareOut_20 : decode cX3_shareOut 20 = .ok (.istore_n 1, 1) := by decide +kernel
theorem dX3_shareOut_21 : decode cX3_shareOut 21 = .ok (.aload_n 0, 1) := by decide +kernel
theorem dX3_shareOut_22 : decode cX3_shareOut 22 = .ok (.iconst 0, 1) := by decide +kernel
theorem dX3_shareOut_23 : decode cX3_shareOut 23 = .ok (.invokevirtual 281, 3) := by decide +kernel
theorem dX3_shareOut_26 : decode cX3_shareOut 26 = .ok (.istore_n 2, 1) := by decide +kernel
theorem dX3_shareOut_27 : decode cX3_shareOut 27 = .ok (.iload_n 2, 1) := by decide +kernel
theorem dX3_shareOut_28 : decode cX3_shareOut 28 = .ok (.aload_n 0, 1) := by decide +kernel
theorem dX3_shareOut_29 : decode cX3_shareOut 29 = .ok (.iconst 1, 1) := by decide +kernel
theorem dX3_shareOut_30 : decode cX3_shareOut 30 = .ok (.invokevirtual 281, 3) := by decide +kernel
theorem dX3_shareOut_33 : decode cX3_shareOut 33 = .ok (.iadd, 1) := by decide +kernel
theorem dX3_shareOut_34 : decode cX3_shareOut 34 = .ok (.istore_n 3, 1) := by decide +kernel
theorem dX3_shareOut_35 : decode cX3_shareOut 35 = .ok (.iload_n 3, 1) := by decide +kernel
theorem dX3_shareOut_36 : decode cX3_shareOut 36 = .ok (.ifCond .le 11, 3) := by decide +kernel
theorem dX3_shareOut_39 : decode cX3_shareOut 39 = .ok (.iload_n 1, 1) := by decide +kernel
theorem dX3_shareOut_40 : decode cX3_shareOut 40 = .ok (.iload_n 2, 1) := by decide +kernel
theorem dX3_shareOut_41 : decode cX3_shareOut 41 = .ok (.imul, 1) := by decide +kernel
theorem dX3_shareOut_42 : decode cX3_shareOut 42 = .ok (.iload_n 3, 1) := by decide +kernel
theorem dX3_shareOut_43 : decode cX3_shareOut 43 = .ok (.idiv, 1) := by decide +kernel
theorem dX3_shareOut_44 : decode cX3_shareOut 44 = .ok (.goto 4, 3) := by decide +kernel
theorem dX3_shareOut_47 : decode cX3_shareOut 47 = .ok (.iconst 0, 1) := by decide +kernel
theorem dX3_shareOut_48 : decode cX3_shareOut 48 = .ok (.istore 4, 2) := by decide +kernel
theorem dX3_shareOut_50 : decode cX3_shareOut 50 = .ok (.aload_n 0, 1) := by decide +kernel
theorem dX3_shareOut_51 : decode cX3_shareOut 51 = .ok (.getfield 56, 3) := by decide +kernel
theorem dX3_shareOut_54 : decode cX3_shareOut 54 = .ok (.iconst 0, 1) := by decide +kernel
theorem dX3_shareOut_55 : decode cX3_shareOut 55 = .ok (.dup2, 1) := by decide +kernel
theorem dX3_shareOut_56 : decode cX3_shareOut 56 = .ok (.iaload, 1) := by decide +kernel
theorem dX3_shareOut_57 : decode cX3_shareOut 57 = .ok (.iload 4, 2) := by decide +kernel
theorem dX3_shareOut_59 : decode cX3_shareOut 59 = .ok (.iadd, 1) := by decide +kernel
theorem dX3_shareOut_60 : decode cX3_shareOut 60 = .ok (.iastore, 1) := by decide +kernel
theorem dX3_shareOut_61 : decode cX3_shareOut 61 = .ok (.aload_n 0, 1) := by decide +kernel
theorem dX3_shareOut_62 : decode cX3_shareOut 62 = .ok (.getfield 56, 3) := by decide +kernel
theorem dX3_shareOut_65 : decode cX3_shareOut 65 = .ok (.iconst 1, 1) := by decide +kernel
theorem dX3_shareOut_66 : decode cX3_shareOut 66 = .ok (.dup2, 1) := by decide +kernel
theorem dX3_shareOut_67 : decode cX3_shareOut 67 = .ok (.iaload, 1) := by decide +kernel
theorem dX3_shareOut_68 : decode cX3_shareOut 68 = .ok (.iload_n 1, 1) := by decide +kernel
theorem dX3_shareOut_69 : decode cX3_shareOut 69 = .ok (.iload 4, 2) := by decide +kernel
theorem dX3_shareOut_71 : decode cX3_shareOut 71 = .ok (.isub, 1) := by decide +kernel
theorem dX3_shareOut_72 : decode cX3_shareOut 72 = .ok (.iadd, 1) := by decide +kernel
theorem dX3_shareOut_73 : decode cX3_shareOut 73 = .ok (.iastore, 1) := by decide +kernel
theorem dX3_shareOut_74 : decode cX3_shareOut 74 = .ok (.return_, 1) := by decide +kernel
theorem dX3_payForLacks_0 : decode cX3_payForLacks 0 = .ok (.iconst 0, 1) := by decide +kernel
theorem dX3_payForLacks_1 : decode cX3_payForLacks 1 = .ok (.istore_n 1, 1) := by decide +kernel
theorem dX3_payForLacks_2 : decode cX3_payForLacks 2 = .ok (.iload_n 1, 1) := by decide +kernel
theorem dX3_payForLacks_3 : decode cX3_payForLacks 3 = .ok (.aload_n 0, 1) := by decide +kernel
theorem dX3_payForLacks_4 : decode cX3_payForLacks 4 = .ok (.getfield 108, 3) := by decide +kernel
theorem dX3_payForLacks_7 : decode cX3_payForLacks 7 = .ok (.if_icmp .ge 59, 3) := by decide +kernel
theorem dX3_payForLacks_10 : decode cX3_payForLacks 10 = .ok (.aload_n 0, 1) := by decide +kernel
theorem dX3_payForLacks_11 : decode cX3_payForLacks 11 = .ok (.getfield 31, 3) := by decide +kernel
theorem dX3_payForLacks_14 : decode cX3_payForLacks 14 = .ok (.iload_n 1, 1) := by decide +kernel
theorem dX3_payForLacks_15 : decode cX3_payForLacks 15 = .ok (.aaload, 1) := by decide +kernel
theorem dX3_payForLacks_16 : decode cX3_payForLacks 16 = .ok (.astore_n 2, 1) := by decide +kernel
theorem dX3_payForLacks_17 : decode cX3_payForLacks 17 = .ok (.aload_n 0, 1) := by decide +kernel
theorem dX3_payForLacks_18 : decode cX3_payForLacks 18 = .ok (.getfield 11, 3) := by decide +kernel
theorem dX3_payForLacks_21 : decode cX3_payForLacks 21 = .ok (.aload_n 2, 1) := by decide +kernel
theorem dX3_payForLacks_22 : decode cX3_payForLacks 22 = .ok (.getfield 275, 3) := by decide +kernel
theorem dX3_payForLacks_25 : decode cX3_payForLacks 25 = .ok (.aaload, 1) := by decide +kernel
theorem dX3_payForLacks_26 : decode cX3_payForLacks 26 = .ok (.getfield 114, 3) := by decide +kernel
theorem dX3_payForLacks_29 : decode cX3_payForLacks 29 = .ok (.istore_n 3, 1) := by decide +kernel
theorem dX3_payForLacks_30 : decode cX3_payForLacks 30 = .ok (.aload_n 0, 1) := by decide +kernel
theorem dX3_payForLacks_31 : decode cX3_payForLacks 31 = .ok (.getfield 56, 3) := by decide +kernel
theorem dX3_payForLacks_34 : decode cX3_payForLacks 34 = .ok (.iload_n 3, 1) := by decide +kernel
theorem dX3_payForLacks_35 : decode cX3_payForLacks 35 = .ok (.dup2, 1) := by decide +kernel
theorem dX3_payForLacks_36 : decode cX3_payForLacks 36 = .ok (.iaload, 1) := by decide +kernel
theorem dX3_payForLacks_37 : decode cX3_payForLacks 37 = .ok (.iconst 2, 1) := by decide +kernel
theorem dX3_payForLacks_38 : decode cX3_payForLacks 38 = .ok (.aload_n 2, 1) := by decide +kernel
theorem dX3_payForLacks_39 : decode cX3_payForLacks 39 = .ok (.getfield 283, 3) := by decide +kernel
theorem dX3_payForLacks_42 : decode cX3_payForLacks 42 = .ok (.imul, 1) := by decide +kernel
theorem dX3_payForLacks_43 : decode cX3_payForLacks 43 = .ok (.isub, 1) := by decide +kernel
theorem dX3_payForLacks_44 : decode cX3_payForLacks 44 = .ok (.iastore, 1) := by decide +kernel
theorem dX3_payForLacks_45 : decode cX3_payForLacks 45 = .ok (.aload_n 0, 1) := by decide +kernel
theorem dX3_payForLacks_46 : decode cX3_payForLacks 46 = .ok (.getfield 56, 3) := by decide +kernel
theorem dX3_payForLacks_49 : decode cX3_payForLacks 49 = .ok (.iconst 1, 1) := by decide +kernel
theorem dX3_payForLacks_50 : decode cX3_payForLacks 50 = .ok (.iload_n 3, 1) := by decide +kernel
theorem dX3_payForLacks_51 : decode cX3_payForLacks 51 = .ok (.isub, 1) := by decide +kernel
theorem dX3_payForLacks_52 : decode cX3_payForLacks 52 = .ok (.dup2, 1) := by decide +kernel
theorem dX3_payForLacks_53 : decode cX3_payForLacks 53 = .ok (.iaload, 1) := by decide +kernel
theorem dX3_payForLacks_54 : decode cX3_payForLacks 54 = .ok (.aload_n 2, 1) := by decide +kernel
theorem dX3_payForLacks_55 : decode cX3_payForLacks 55 = .ok (.getfield 283, 3) := by decide +kernel
theorem dX3_payForLacks_58 : decode cX3_payForLacks 58 = .ok (.isub, 1) := by decide +kernel
theorem dX3_payForLacks_59 : decode cX3_payForLacks 59 = .ok (.iastore, 1) := by decide +kernel
theorem dX3_payForLacks_60 : decode cX3_payForLacks 60 = .ok (.iinc 1 1, 3) := by decide +kernel
theorem dX3_payForLacks_63 : decode cX3_payForLacks 63 = .ok (.goto (-61), 3) := by decide +kernel
theorem dX3_payForLacks_66 : decode cX3_payForLacks 66 = .ok (.return_, 1) := by decide +kernel
