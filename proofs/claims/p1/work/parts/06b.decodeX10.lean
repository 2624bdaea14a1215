theorem dX10_init_0 : decode cX10_init 0 = .ok (.aload_n 0, 1) := by decide +kernel
theorem dX10_init_1 : decode cX10_init 1 = .ok (.invokespecial 1, 3) := by decide +kernel
theorem dX10_init_4 : decode cX10_init 4 = .ok (.aload_n 0, 1) := by decide +kernel
theorem dX10_init_5 : decode cX10_init 5 = .ok (.new 7, 3) := by decide +kernel
theorem dX10_init_8 : decode cX10_init 8 = .ok (.dup, 1) := by decide +kernel
theorem dX10_init_9 : decode cX10_init 9 = .ok (.invokespecial 9, 3) := by decide +kernel
theorem dX10_init_12 : decode cX10_init 12 = .ok (.putfield 10, 3) := by decide +kernel
theorem dX10_init_15 : decode cX10_init 15 = .ok (.return_, 1) := by decide +kernel
theorem dX10_thrown_0 : decode cX10_thrown 0 = .ok (.aload_n 0, 1) := by decide +kernel
theorem dX10_thrown_1 : decode cX10_thrown 1 = .ok (.getfield 16, 3) := by decide +kernel
theorem dX10_thrown_4 : decode cX10_thrown 4 = .ok (.ireturn, 1) := by decide +kernel
theorem dX10_refuse_0 : decode cX10_refuse 0 = .ok (.aload_n 0, 1) := by decide +kernel
theorem dX10_refuse_1 : decode cX10_refuse 1 = .ok (.iload_n 1, 1) := by decide +kernel
theorem dX10_refuse_2 : decode cX10_refuse 2 = .ok (.putfield 16, 3) := by decide +kernel
theorem dX10_refuse_5 : decode cX10_refuse 5 = .ok (.iconst 0, 1) := by decide +kernel
theorem dX10_refuse_6 : decode cX10_refuse 6 = .ok (.ireturn, 1) := by decide +kernel
theorem dX10_is_0 : decode cX10_is 0 = .ok (.iload_n 0, 1) := by decide +kernel
theorem dX10_is_1 : decode cX10_is 1 = .ok (.iload_n 1, 1) := by decide +kernel
theorem dX10_is_2 : decode cX10_is 2 = .ok (.if_icmp .lt 12, 3) := by decide +kernel
theorem dX10_is_5 : decode cX10_is 5 = .ok (.iload_n 0, 1) := by decide +kernel
theorem dX10_is_6 : decode cX10_is 6 = .ok (.iload_n 2, 1) := by decide +kernel
theorem dX10_is_7 : decode cX10_is 7 = .ok (.if_icmp .gt 7, 3) := by decide +kernel
theorem dX10_is_10 : decode cX10_is 10 = .ok (.iconst 1, 1) := by decide +kernel
theorem dX10_is_11 : decode cX10_is 11 = .ok (.goto 4, 3) := by decide +kernel
theorem dX10_is_14 : decode cX10_is 14 = .ok (.iconst 0, 1) := by decide +kernel
theorem dX10_is_15 : decode cX10_is 15 = .ok (.ireturn, 1) := by decide +kernel
theorem dX10_isBlock_0 : decode cX10_isBlock 0 = .ok (.iload_n 1, 1) := by decide +kernel
theorem dX10_isBlock_1 : decode cX10_isBlock 1 = .ok (.iconst 0, 1) := by decide +kernel
theorem dX10_isBlock_2 : decode cX10_isBlock 2 = .ok (.aload_n 0, 1) := by decide +kernel
theorem dX10_isBlock_3 : decode cX10_isBlock 3 = .ok (.getfield 10, 3) := by decide +kernel
theorem dX10_isBlock_6 : decode cX10_isBlock 6 = .ok (.getfield 20, 3) := by decide +kernel
theorem dX10_isBlock_9 : decode cX10_isBlock 9 = .ok (.iconst 1, 1) := by decide +kernel
theorem dX10_isBlock_10 : decode cX10_isBlock 10 = .ok (.isub, 1) := by decide +kernel
theorem dX10_isBlock_11 : decode cX10_isBlock 11 = .ok (.invokestatic 23, 3) := by decide +kernel
theorem dX10_isBlock_14 : decode cX10_isBlock 14 = .ok (.ireturn, 1) := by decide +kernel
theorem dX10_isFace_0 : decode cX10_isFace 0 = .ok (.iload_n 1, 1) := by decide +kernel
theorem dX10_isFace_1 : decode cX10_isFace 1 = .ok (.iconst 0, 1) := by decide +kernel
theorem dX10_isFace_2 : decode cX10_isFace 2 = .ok (.aload_n 0, 1) := by decide +kernel
theorem dX10_isFace_3 : decode cX10_isFace 3 = .ok (.getfield 10, 3) := by decide +kernel
theorem dX10_isFace_6 : decode cX10_isFace 6 = .ok (.getfield 27, 3) := by decide +kernel
theorem dX10_isFace_9 : decode cX10_isFace 9 = .ok (.iconst 1, 1) := by decide +kernel
theorem dX10_isFace_10 : decode cX10_isFace 10 = .ok (.isub, 1) := by decide +kernel
theorem dX10_isFace_11 : decode cX10_isFace 11 = .ok (.invokestatic 23, 3) := by decide +kernel
theorem dX10_isFace_14 : decode cX10_isFace 14 = .ok (.ireturn, 1) := by decide +kernel
theorem dX10_isWell_0 : decode cX10_isWell 0 = .ok (.iload_n 1, 1) := by decide +kernel
theorem dX10_isWell_1 : decode cX10_isWell 1 = .ok (.iconst 0, 1) := by decide +kernel
theorem dX10_isWell_2 : decode cX10_isWell 2 = .ok (.aload_n 0, 1) := by decide +kernel
theorem dX10_isWell_3 : decode cX10_isWell 3 = .ok (.getfield 10, 3) := by decide +kernel
theorem dX10_isWell_6 : decode cX10_isWell 6 = .ok (.getfield 30, 3) := by decide +kernel
theorem dX10_isWell_9 : decode cX10_isWell 9 = .ok (.iconst 1, 1) := by decide +kernel
theorem dX10_isWell_10 : decode cX10_isWell 10 = .ok (.isub, 1) := by decide +kernel
theorem dX10_isWell_11 : decode cX10_isWell 11 = .ok (.invokestatic 23, 3) := by decide +kernel
theorem dX10_isWell_14 : decode cX10_isWell 14 = .ok (.ireturn, 1) := by decide +kernel
theorem dX10_isSpring_0 : decode cX10_isSpring 0 = .ok (.iload_n 1, 1) := by decide +kernel
theorem dX10_isSpring_1 : decode cX10_isSpring 1 = .ok (.iconst 0, 1) := by decide +kernel
theorem dX10_isSpring_2 : decode cX10_isSpring 2 = .ok (.aload_n 0, 1) := by decide +kernel
theorem dX10_isSpring_3 : decode cX10_isSpring 3 = .ok (.getfield 10, 3) := by decide +kernel
theorem dX10_isSpring_6 : decode cX10_isSpring 6 = .ok (.getfield 33, 3) := by decide +kernel
theorem dX10_isSpring_9 : decode cX10_isSpring 9 = .ok (.iconst 1, 1) := by decide +kernel
theorem dX10_isSpring_10 : decode cX10_isSpring 10 = .ok (.isub, 1) := by decide +kernel
theorem dX10_isSpring_11 : decode cX10_isSpring 11 = .ok (.invokestatic 23, 3) := by decide +kernel
theorem dX10_isSpring_14 : decode cX10_isSpring 14 = .ok (.ireturn, 1) := by decide +kernel
theorem dX10_block_0 : decode cX10_block 0 = .ok (.aload_n 0, 1) := by decide +kernel
theorem dX10_block_1 : decode cX10_block 1 = .ok (.iconst 0, 1) := by decide +kernel
theorem dX10_block_2 : decode cX10_block 2 = .ok (.putfield 16, 3) := by decide +kernel
theorem dX10_block_5 : decode cX10_block 5 = .ok (.iload_n 1, 1) := by decide +kernel
theorem dX10_block_6 : decode cX10_block 6 = .ok (.bipush 10, 2) := by decide +kernel
theorem dX10_block_8 : decode cX10_block 8 = .ok (.bipush 99, 2) := by decide +kernel
theorem dX10_block_10 : decode cX10_block 10 = .ok (.invokestatic 23, 3) := by decide +kernel
theorem dX10_block_13 : decode cX10_block 13 = .ok (.ifCond .eq 47, 3) := by decide +kernel
theorem dX10_block_16 : decode cX10_block 16 = .ok (.iload_n 2, 1) := by decide +kernel
theorem dX10_block_17 : decode cX10_block 17 = .ok (.iconst 0, 1) := by decide +kernel
theorem dX10_block_18 : decode cX10_block 18 = .ok (.iconst 1, 1) := by decide +kernel
theorem dX10_block_19 : decode cX10_block 19 = .ok (.invokestatic 23, 3) := by decide +kernel
theorem dX10_block_22 : decode cX10_block 22 = .ok (.ifCond .eq 38, 3) := by decide +kernel
theorem dX10_block_25 : decode cX10_block 25 = .ok (.iload_n 3, 1) := by decide +kernel
theorem dX10_block_26 : decode cX10_block 26 = .ok (.iconst 0, 1) := by decide +kernel
theorem dX10_block_27 : decode cX10_block 27 = .ok (.sipush 2000, 3) := by decide +kernel
theorem dX10_block_30 : decode cX10_block 30 = .ok (.invokestatic 23, 3) := by decide +kernel
theorem dX10_block_33 : decode cX10_block 33 = .ok (.ifCond .eq 27, 3) := by decide +kernel
theorem dX10_block_36 : decode cX10_block 36 = .ok (.iload 4, 2) := by decide +kernel
theorem dX10_block_38 : decode cX10_block 38 = .ok (.iconst 0, 1) := by decide +kernel
theorem dX10_block_39 : decode cX10_block 39 = .ok (.sipush 400, 3) := by decide +kernel
theorem dX10_block_42 : decode cX10_block 42 = .ok (.invokestatic 23, 3) := by decide +kernel
theorem dX10_block_45 : decode cX10_block 45 = .ok (.ifCond .eq 15, 3) := by decide +kernel
theorem dX10_block_48 : decode cX10_block 48 = .ok (.iload 5, 2) := by decide +kernel
theorem dX10_block_50 : decode cX10_block 50 = .ok (.iconst 0, 1) := by decide +kernel
theorem dX10_block_51 : decode cX10_block 51 = .ok (.sipush 9999, 3) := by decide +kernel
theorem dX10_block_54 : decode cX10_block 54 = .ok (.invokestatic 23, 3) := by decide +kernel
theorem dX10_block_57 : decode cX10_block 57 = .ok (.ifCond .ne 9, 3) := by decide +kernel
theorem dX10_block_60 : decode cX10_block 60 = .ok (.aload_n 0, 1) := by decide +kernel
theorem dX10_block_61 : decode cX10_block 61 = .ok (.iconst 1, 1) := by decide +kernel
theorem dX10_block_62 : decode cX10_block 62 = .ok (.invokevirtual 36, 3) := by decide +kernel
theorem dX10_block_65 : decode cX10_block 65 = .ok (.ireturn, 1) := by decide +kernel
theorem dX10_block_66 : decode cX10_block 66 = .ok (.aload_n 0, 1) := by decide +kernel
theorem dX10_block_67 : decode cX10_block 67 = .ok (.getfield 10, 3) := by decide +kernel
theorem dX10_block_70 : decode cX10_block 70 = .ok (.getfield 20, 3) := by decide +kernel
theorem dX10_block_73 : decode cX10_block 73 = .ok (.bipush 8, 2) := by decide +kernel
theorem dX10_block_75 : decode cX10_block 75 = .ok (.if_icmp .ne 9, 3) := by decide +kernel
theorem dX10_block_78 : decode cX10_block 78 = .ok (.aload_n 0, 1) := by decide +kernel
theorem dX10_block_79 : decode cX10_block 79 = .ok (.iconst 2, 1) := by decide +kernel
theorem dX10_block_80 : decode cX10_block 80 = .ok (.invokevirtual 36, 3) := by decide +kernel
theorem dX10_block_83 : decode cX10_block 83 = .ok (.ireturn, 1) := by decide +kernel
theorem dX10_block_84 : decode cX10_block 84 = .ok (.aload_n 0, 1) := by decide +kernel
theorem dX10_block_85 : decode cX10_block 85 = .ok (.getfield 10, 3) := by decide +kernel
theorem dX10_block_88 : decode cX10_block 88 = .ok (.getfield 40, 3) := by decide +kernel
theorem dX10_block_91 : decode cX10_block 91 = .ok (.aload_n 0, 1) := by decide +kernel
theorem dX10_block_92 : decode cX10_block 92 = .ok (.getfield 10, 3) := by decide +kernel
theorem dX10_block_95 : decode cX10_block 95 = .ok (.getfield 20, 3) := by decide +kernel
theorem dX10_block_98 : decode cX10_block 98 = .ok (.aaload, 1) := by decide +kernel
theorem dX10_block_99 : decode cX10_block 99 = .ok (.astore 6, 2) := by decide +kernel
theorem dX10_block_101 : decode cX10_block 101 = .ok (.aload 6, 2) := by decide +kernel
theorem dX10_block_103 : decode cX10_block 103 = .ok (.iconst 4, 1) := by decide +kernel
theorem dX10_block_104 : decode cX10_block 104 = .ok (.iload_n 1, 1) := by decide +kernel
theorem dX10_block_105 : decode cX10_block 105 = .ok (.iastore, 1) := by decide +kernel
theorem dX10_block_106 : decode cX10_block 106 = .ok (.aload 6, 2) := by decide +kernel
theorem dX10_block_108 : decode cX10_block 108 = .ok (.iconst 5, 1) := by decide +kernel
theorem dX10_block_109 : decode cX10_block 109 = .ok (.iload_n 2, 1) := by decide +kernel
theorem dX10_block_110 : decode cX10_block 110 = .ok (.iastore, 1) := by decide +kernel
theorem dX10_block_111 : decode cX10_block 111 = .ok (.aload 6, 2) := by decide +kernel
theorem dX10_block_113 : decode cX10_block 113 = .ok (.iconst 0, 1) := by decide +kernel
theorem dX10_block_114 : decode cX10_block 114 = .ok (.iload_n 3, 1) := by decide +kernel
theorem dX10_block_115 : decode cX10_block 115 = .ok (.iastore, 1) := by decide +kernel
theorem dX10_block_116 : decode cX10_block 116 = .ok (.aload 6, 2) := by decide +kernel
theorem dX10_block_118 : decode cX10_block 118 = .ok (.iconst 1, 1) := by decide +kernel
theorem dX10_block_119 : decode cX10_block 119 = .ok (.iload 4, 2) := by decide +kernel
theorem dX10_block_121 : decode cX10_block 121 = .ok (.iload_n 1, 1) := by decide +kernel
theorem dX10_block_122 : decode cX10_block 122 = .ok (.iload_n 3, 1) := by decide +kernel
theorem dX10_block_123 : decode cX10_block 123 = .ok (.iadd, 1) := by decide +kernel
theorem dX10_block_124 : decode cX10_block 124 = .ok (.imul, 1) := by decide +kernel
theorem dX10_block_125 : decode cX10_block 125 = .ok (.iastore, 1) := by decide +kernel
theorem dX10_block_126 : decode cX10_block 126 = .ok (.aload 6, 2) := by decide +kernel
theorem dX10_block_128 : decode cX10_block 128 = .ok (.iconst 2, 1) := by decide +kernel
theorem dX10_block_129 : decode cX10_block 129 = .ok (.iload 5, 2) := by decide +kernel
theorem dX10_block_131 : decode cX10_block 131 = .ok (.iastore, 1) := by decide +kernel
theorem dX10_block_132 : decode cX10_block 132 = .ok (.aload_n 0, 1) := by decide +kernel
theorem dX10_block_133 : decode cX10_block 133 = .ok (.getfield 10, 3) := by decide +kernel
theorem dX10_block_136 : decode cX10_block 136 = .ok (.getfield 44, 3) := by decide +kernel
theorem dX10_block_139 : decode cX10_block 139 = .ok (.iconst 0, 1) := by decide +kernel
theorem dX10_block_140 : decode cX10_block 140 = .ok (.dup2, 1) := by decide +kernel
theorem dX10_block_141 : decode cX10_block 141 = .ok (.iaload, 1) := by decide +kernel
theorem dX10_block_142 : decode cX10_block 142 = .ok (.iload_n 3, 1) := by decide +kernel
theorem dX10_block_143 : decode cX10_block 143 = .ok (.iadd, 1) := by decide +kernel
theorem dX10_block_144 : decode cX10_block 144 = .ok (.iastore, 1) := by decide +kernel
theorem dX10_block_145 : decode cX10_block 145 = .ok (.aload_n 0, 1) := by decide +kernel
theorem dX10_block_146 : decode cX10_block 146 = .ok (.getfield 10, 3) := by decide +kernel
theorem dX10_block_149 : decode cX10_block 149 = .ok (.getfield 44, 3) := by decide +kernel
theorem dX10_block_152 : decode cX10_block 152 = .ok (.iconst 2, 1) := by decide +kernel
theorem dX10_block_153 : decode cX10_block 153 = .ok (.dup2, 1) := by decide +kernel
theorem dX10_block_154 : decode cX10_block 154 = .ok (.iaload, 1) := by decide +kernel
theorem dX10_block_155 : decode cX10_block 155 = .ok (.iload 5, 2) := by decide +kernel
theorem dX10_block_157 : decode cX10_block 157 = .ok (.iadd, 1) := by decide +kernel
theorem dX10_block_158 : decode cX10_block 158 = .ok (.iastore, 1) := by decide +kernel
theorem dX10_block_159 : decode cX10_block 159 = .ok (.aload_n 0, 1) := by decide +kernel
theorem dX10_block_160 : decode cX10_block 160 = .ok (.getfield 10, 3) := by decide +kernel
theorem dX10_block_163 : decode cX10_block 163 = .ok (.dup, 1) := by decide +kernel
theorem dX10_block_164 : decode cX10_block 164 = .ok (.getfield 20, 3) := by decide +kernel
theorem dX10_block_167 : decode cX10_block 167 = .ok (.iconst 1, 1) := by decide +kernel
theorem dX10_block_168 : decode cX10_block 168 = .ok (.iadd, 1) := by decide +kernel
theorem dX10_block_169 : decode cX10_block 169 = .ok (.putfield 20, 3) := by decide +kernel
theorem dX10_block_172 : decode cX10_block 172 = .ok (.aload_n 0, 1) := by decide +kernel
theorem dX10_block_173 : decode cX10_block 173 = .ok (.getfield 10, 3) := by decide +kernel
theorem dX10_block_176 : decode cX10_block 176 = .ok (.getfield 20, 3) := by decide +kernel
theorem dX10_block_179 : decode cX10_block 179 = .ok (.iconst 1, 1) := by decide +kernel
theorem dX10_block_180 : decode cX10_block 180 = .ok (.isub, 1) := by decide +kernel
theorem dX10_block_181 : decode cX10_block 181 = .ok (.ireturn, 1) := by decide +kernel
theorem dX10_face_0 : decode cX10_face 0 = .ok (.aload_n 0, 1) := by decide +kernel
theorem dX10_face_1 : decode cX10_face 1 = .ok (.iconst 0, 1) := by decide +kernel
theorem dX10_face_2 : decode cX10_face 2 = .ok (.putfield 16, 3) := by decide +kernel
theorem dX10_face_5 : decode cX10_face 5 = .ok (.aload_n 0, 1) := by decide +kernel
theorem dX10_face_6 : decode cX10_face 6 = .ok (.iload_n 1, 1) := by decide +kernel
theorem dX10_face_7 : decode cX10_face 7 = .ok (.invokevirtual 48, 3) := by decide +kernel
theorem dX10_face_10 : decode cX10_face 10 = .ok (.ifCond .eq 11, 3) := by decide +kernel
theorem dX10_face_13 : decode cX10_face 13 = .ok (.aload_n 0, 1) := by decide +kernel
theorem dX10_face_14 : decode cX10_face 14 = .ok (.iload_n 2, 1) := by decide +kernel
theorem dX10_face_15 : decode cX10_face 15 = .ok (.invokevirtual 48, 3) := by decide +kernel
theorem dX10_face_18 : decode cX10_face 18 = .ok (.ifCond .ne 9, 3) := by decide +kernel
theorem dX10_face_21 : decode cX10_face 21 = .ok (.aload_n 0, 1) := by decide +kernel
theorem dX10_face_22 : decode cX10_face 22 = .ok (.iconst 1, 1) := by decide +kernel
theorem dX10_face_23 : decode cX10_face 23 = .ok (.invokevirtual 36, 3) := by decide +kernel
theorem dX10_face_26 : decode cX10_face 26 = .ok (.ireturn, 1) := by decide +kernel
theorem dX10_face_27 : decode cX10_face 27 = .ok (.iload_n 1, 1) := by decide +kernel
theorem dX10_face_28 : decode cX10_face 28 = .ok (.iload_n 2, 1) := by decide +kernel
theorem dX10_face_29 : decode cX10_face 29 = .ok (.if_icmp .eq 13, 3) := by decide +kernel
theorem dX10_face_32 : decode cX10_face 32 = .ok (.iload_n 3, 1) := by decide +kernel
theorem dX10_face_33 : decode cX10_face 33 = .ok (.iconst 1, 1) := by decide +kernel
theorem dX10_face_34 : decode cX10_face 34 = .ok (.bipush 9, 2) := by decide +kernel
theorem dX10_face_36 : decode cX10_face 36 = .ok (.invokestatic 23, 3) := by decide +kernel
theorem dX10_face_39 : decode cX10_face 39 = .ok (.ifCond .ne 9, 3) := by decide +kernel
theorem dX10_face_42 : decode cX10_face 42 = .ok (.aload_n 0, 1) := by decide +kernel
theorem dX10_face_43 : decode cX10_face 43 = .ok (.iconst 2, 1) := by decide +kernel
theorem dX10_face_44 : decode cX10_face 44 = .ok (.invokevirtual 36, 3) := by decide +kernel
theorem dX10_face_47 : decode cX10_face 47 = .ok (.ireturn, 1) := by decide +kernel
theorem dX10_face_48 : decode cX10_face 48 = .ok (.aload_n 0, 1) := by decide +kernel
theorem dX10_face_49 : decode cX10_face 49 = .ok (.getfield 10, 3) := by decide +kernel
theorem dX10_face_52 : decode cX10_face 52 = .ok (.getfield 27, 3) := by decide +kernel
theorem dX10_face_55 : decode cX10_face 55 = .ok (.bipush 12, 2) := by decide +kernel
theorem dX10_face_57 : decode cX10_face 57 = .ok (.if_icmp .ne 9, 3) := by decide +kernel
theorem dX10_face_60 : decode cX10_face 60 = .ok (.aload_n 0, 1) := by decide +kernel
theorem dX10_face_61 : decode cX10_face 61 = .ok (.iconst 3, 1) := by decide +kernel
theorem dX10_face_62 : decode cX10_face 62 = .ok (.invokevirtual 36, 3) := by decide +kernel
theorem dX10_face_65 : decode cX10_face 65 = .ok (.ireturn, 1) := by decide +kernel
theorem dX10_face_66 : decode cX10_face 66 = .ok (.aload_n 0, 1) := by decide +kernel
theorem dX10_face_67 : decode cX10_face 67 = .ok (.getfield 10, 3) := by decide +kernel
theorem dX10_face_70 : decode cX10_face 70 = .ok (.getfield 52, 3) := by decide +kernel
theorem dX10_face_73 : decode cX10_face 73 = .ok (.aload_n 0, 1) := by decide +kernel
theorem dX10_face_74 : decode cX10_face 74 = .ok (.getfield 10, 3) := by decide +kernel
theorem dX10_face_77 : decode cX10_face 77 = .ok (.getfield 27, 3) := by decide +kernel
theorem dX10_face_80 : decode cX10_face 80 = .ok (.aaload, 1) := by decide +kernel
theorem dX10_face_81 : decode cX10_face 81 = .ok (.astore 4, 2) := by decide +kernel
theorem dX10_face_83 : decode cX10_face 83 = .ok (.aload 4, 2) := by decide +kernel
theorem dX10_face_85 : decode cX10_face 85 = .ok (.iconst 0, 1) := by decide +kernel
theorem dX10_face_86 : decode cX10_face 86 = .ok (.iload_n 1, 1) := by decide +kernel
theorem dX10_face_87 : decode cX10_face 87 = .ok (.iastore, 1) := by decide +kernel
theorem dX10_face_88 : decode cX10_face 88 = .ok (.aload 4, 2) := by decide +kernel
theorem dX10_face_90 : decode cX10_face 90 = .ok (.iconst 1, 1) := by decide +kernel
theorem dX10_face_91 : decode cX10_face 91 = .ok (.iload_n 2, 1) := by decide +kernel
theorem dX10_face_92 : decode cX10_face 92 = .ok (.iastore, 1) := by decide +kernel
theorem dX10_face_93 : decode cX10_face 93 = .ok (.aload 4, 2) := by decide +kernel
theorem dX10_face_95 : decode cX10_face 95 = .ok (.iconst 2, 1) := by decide +kernel
theorem dX10_face_96 : decode cX10_face 96 = .ok (.iload_n 3, 1) := by decide +kernel
theorem dX10_face_97 : decode cX10_face 97 = .ok (.iastore, 1) := by decide +kernel
theorem dX10_face_98 : decode cX10_face 98 = .ok (.aload_n 0, 1) := by decide +kernel
theorem dX10_face_99 : decode cX10_face 99 = .ok (.getfield 10, 3) := by decide +kernel
theorem dX10_face_102 : decode cX10_face 102 = .ok (.dup, 1) := by decide +kernel
theorem dX10_face_103 : decode cX10_face 103 = .ok (.getfield 27, 3) := by decide +kernel
theorem dX10_face_106 : decode cX10_face 106 = .ok (.iconst 1, 1) := by decide +kernel
theorem dX10_face_107 : decode cX10_face 107 = .ok (.iadd, 1) := by decide +kernel
theorem dX10_face_108 : decode cX10_face 108 = .ok (.putfield 27, 3) := by decide +kernel
theorem dX10_face_111 : decode cX10_face 111 = .ok (.aload_n 0, 1) := by decide +kernel
theorem dX10_face_112 : decode cX10_face 112 = .ok (.getfield 10, 3) := by decide +kernel
theorem dX10_face_115 : decode cX10_face 115 = .ok (.getfield 27, 3) := by decide +kernel
theorem dX10_face_118 : decode cX10_face 118 = .ok (.iconst 1, 1) := by decide +kernel
theorem dX10_face_119 : decode cX10_face 119 = .ok (.isub, 1) := by decide +kernel
theorem dX10_face_120 : decode cX10_face 120 = .ok (.ireturn, 1) := by decide +kernel
theorem dX10_well_0 : decode cX10_well 0 = .ok (.aload_n 0, 1) := by decide +kernel
theorem dX10_well_1 : decode cX10_well 1 = .ok (.iconst 0, 1) := by decide +kernel
theorem dX10_well_2 : decode cX10_well 2 = .ok (.putfield 16, 3) := by decide +kernel
theorem dX10_well_5 : decode cX10_well 5 = .ok (.aload_n 0, 1) := by decide +kernel
theorem dX10_well_6 : decode cX10_well 6 = .ok (.iload_n 1, 1) := by decide +kernel
theorem dX10_well_7 : decode cX10_well 7 = .ok (.invokevirtual 48, 3) := by decide +kernel
theorem dX10_well_10 : decode cX10_well 10 = .ok (.ifCond .ne 9, 3) := by decide +kernel
theorem dX10_well_13 : decode cX10_well 13 = .ok (.aload_n 0, 1) := by decide +kernel
theorem dX10_well_14 : decode cX10_well 14 = .ok (.iconst 1, 1) := by decide +kernel
theorem dX10_well_15 : decode cX10_well 15 = .ok (.invokevirtual 36, 3) := by decide +kernel
theorem dX10_well_18 : decode cX10_well 18 = .ok (.ireturn, 1) := by decide +kernel
theorem dX10_well_19 : decode cX10_well 19 = .ok (.aload_n 0, 1) := by decide +kernel
theorem dX10_well_20 : decode cX10_well 20 = .ok (.getfield 10, 3) := by decide +kernel
theorem dX10_well_23 : decode cX10_well 23 = .ok (.getfield 30, 3) := by decide +kernel
theorem dX10_well_26 : decode cX10_well 26 = .ok (.bipush 6, 2) := by decide +kernel
theorem dX10_well_28 : decode cX10_well 28 = .ok (.if_icmp .ne 9, 3) := by decide +kernel
theorem dX10_well_31 : decode cX10_well 31 = .ok (.aload_n 0, 1) := by decide +kernel
theorem dX10_well_32 : decode cX10_well 32 = .ok (.iconst 2, 1) := by decide +kernel
theorem dX10_well_33 : decode cX10_well 33 = .ok (.invokevirtual 36, 3) := by decide +kernel
theorem dX10_well_36 : decode cX10_well 36 = .ok (.ireturn, 1) := by decide +kernel
theorem dX10_well_37 : decode cX10_well 37 = .ok (.aload_n 0, 1) := by decide +kernel
theorem dX10_well_38 : decode cX10_well 38 = .ok (.getfield 10, 3) := by decide +kernel
theorem dX10_well_41 : decode cX10_well 41 = .ok (.getfield 55, 3) := by decide +kernel
theorem dX10_well_44 : decode cX10_well 44 = .ok (.aload_n 0, 1) := by decide +kernel
theorem dX10_well_45 : decode cX10_well 45 = .ok (.getfield 10, 3) := by decide +kernel
theorem dX10_well_48 : decode cX10_well 48 = .ok (.getfield 30, 3) := by decide +kernel
theorem dX10_well_51 : decode cX10_well 51 = .ok (.aaload, 1) := by decide +kernel
theorem dX10_well_52 : decode cX10_well 52 = .ok (.iconst 0, 1) := by decide +kernel
theorem dX10_well_53 : decode cX10_well 53 = .ok (.iload_n 1, 1) := by decide +kernel
theorem dX10_well_54 : decode cX10_well 54 = .ok (.iastore, 1) := by decide +kernel
theorem dX10_well_55 : decode cX10_well 55 = .ok (.aload_n 0, 1) := by decide +kernel
theorem dX10_well_56 : decode cX10_well 56 = .ok (.getfield 10, 3) := by decide +kernel
theorem dX10_well_59 : decode cX10_well 59 = .ok (.getfield 55, 3) := by decide +kernel
theorem dX10_well_62 : decode cX10_well 62 = .ok (.aload_n 0, 1) := by decide +kernel
theorem dX10_well_63 : decode cX10_well 63 = .ok (.getfield 10, 3) := by decide +kernel
theorem dX10_well_66 : decode cX10_well 66 = .ok (.getfield 30, 3) := by decide +kernel
theorem dX10_well_69 : decode cX10_well 69 = .ok (.aaload, 1) := by decide +kernel
theorem dX10_well_70 : decode cX10_well 70 = .ok (.iconst 1, 1) := by decide +kernel
theorem dX10_well_71 : decode cX10_well 71 = .ok (.iload_n 2, 1) := by decide +kernel
theorem dX10_well_72 : decode cX10_well 72 = .ok (.ifCond .eq 7, 3) := by decide +kernel
theorem dX10_well_75 : decode cX10_well 75 = .ok (.iconst 1, 1) := by decide +kernel
theorem dX10_well_76 : decode cX10_well 76 = .ok (.goto 4, 3) := by decide +kernel
theorem dX10_well_79 : decode cX10_well 79 = .ok (.iconst 0, 1) := by decide +kernel
theorem dX10_well_80 : decode cX10_well 80 = .ok (.iastore, 1) := by decide +kernel
theorem dX10_well_81 : decode cX10_well 81 = .ok (.aload_n 0, 1) := by decide +kernel
theorem dX10_well_82 : decode cX10_well 82 = .ok (.getfield 10, 3) := by decide +kernel
theorem dX10_well_85 : decode cX10_well 85 = .ok (.dup, 1) := by decide +kernel
theorem dX10_well_86 : decode cX10_well 86 = .ok (.getfield 30, 3) := by decide +kernel
theorem dX10_well_89 : decode cX10_well 89 = .ok (.iconst 1, 1) := by decide +kernel
theorem dX10_well_90 : decode cX10_well 90 = .ok (.iadd, 1) := by decide +kernel
theorem dX10_well_91 : decode cX10_well 91 = .ok (.putfield 30, 3) := by decide +kernel
theorem dX10_well_94 : decode cX10_well 94 = .ok (.aload_n 0, 1) := by decide +kernel
theorem dX10_well_95 : decode cX10_well 95 = .ok (.getfield 10, 3) := by decide +kernel
theorem dX10_well_98 : decode cX10_well 98 = .ok (.getfield 30, 3) := by decide +kernel
theorem dX10_well_101 : decode cX10_well 101 = .ok (.iconst 1, 1) := by decide +kernel
theorem dX10_well_102 : decode cX10_well 102 = .ok (.isub, 1) := by decide +kernel
theorem dX10_well_103 : decode cX10_well 103 = .ok (.ireturn, 1) := by decide +kernel
theorem dX10_spring_0 : decode cX10_spring 0 = .ok (.aload_n 0, 1) := by decide +kernel
theorem dX10_spring_1 : decode cX10_spring 1 = .ok (.iconst 0, 1) := by decide +kernel
theorem dX10_spring_2 : decode cX10_spring 2 = .ok (.putfield 16, 3) := by decide +kernel
theorem dX10_spring_5 : decode cX10_spring 5 = .ok (.aload_n 0, 1) := by decide +kernel
theorem dX10_spring_6 : decode cX10_spring 6 = .ok (.iload_n 1, 1) := by decide +kernel
theorem dX10_spring_7 : decode cX10_spring 7 = .ok (.invokevirtual 48, 3) := by decide +kernel
theorem dX10_spring_10 : decode cX10_spring 10 = .ok (.ifCond .ne 9, 3) := by decide +kernel
theorem dX10_spring_13 : decode cX10_spring 13 = .ok (.aload_n 0, 1) := by decide +kernel
theorem dX10_spring_14 : decode cX10_spring 14 = .ok (.iconst 1, 1) := by decide +kernel
theorem dX10_spring_15 : decode cX10_spring 15 = .ok (.invokevirtual 36, 3) := by decide +kernel
theorem dX10_spring_18 : decode cX10_spring 18 = .ok (.ireturn, 1) := by decide +kernel
theorem dX10_spring_19 : decode cX10_spring 19 = .ok (.iload_n 2, 1) := by decide +kernel
theorem dX10_spring_20 : decode cX10_spring 20 = .ok (.iconst 0, 1) := by decide +kernel
theorem dX10_spring_21 : decode cX10_spring 21 = .ok (.sipush 300, 3) := by decide +kernel
theorem dX10_spring_24 : decode cX10_spring 24 = .ok (.invokestatic 23, 3) := by decide +kernel
theorem dX10_spring_27 : decode cX10_spring 27 = .ok (.ifCond .eq 13, 3) := by decide +kernel
theorem dX10_spring_30 : decode cX10_spring 30 = .ok (.iload_n 3, 1) := by decide +kernel
theorem dX10_spring_31 : decode cX10_spring 31 = .ok (.iconst 0, 1) := by decide +kernel
theorem dX10_spring_32 : decode cX10_spring 32 = .ok (.bipush 50, 2) := by decide +kernel
theorem dX10_spring_34 : decode cX10_spring 34 = .ok (.invokestatic 23, 3) := by decide +kernel
theorem dX10_spring_37 : decode cX10_spring 37 = .ok (.ifCond .ne 9, 3) := by decide +kernel
theorem dX10_spring_40 : decode cX10_spring 40 = .ok (.aload_n 0, 1) := by decide +kernel
theorem dX10_spring_41 : decode cX10_spring 41 = .ok (.iconst 2, 1) := by decide +kernel
theorem dX10_spring_42 : decode cX10_spring 42 = .ok (.invokevirtual 36, 3) := by decide +kernel
theorem dX10_spring_45 : decode cX10_spring 45 = .ok (.ireturn, 1) := by decide +kernel
theorem dX10_spring_46 : decode cX10_spring 46 = .ok (.aload_n 0, 1) := by decide +kernel
theorem dX10_spring_47 : decode cX10_spring 47 = .ok (.getfield 10, 3) := by decide +kernel
theorem dX10_spring_50 : decode cX10_spring 50 = .ok (.getfield 33, 3) := by decide +kernel
theorem dX10_spring_53 : decode cX10_spring 53 = .ok (.iconst 3, 1) := by decide +kernel
theorem dX10_spring_54 : decode cX10_spring 54 = .ok (.if_icmp .ne 9, 3) := by decide +kernel
theorem dX10_spring_57 : decode cX10_spring 57 = .ok (.aload_n 0, 1) := by decide +kernel
theorem dX10_spring_58 : decode cX10_spring 58 = .ok (.iconst 3, 1) := by decide +kernel
theorem dX10_spring_59 : decode cX10_spring 59 = .ok (.invokevirtual 36, 3) := by decide +kernel
theorem dX10_spring_62 : decode cX10_spring 62 = .ok (.ireturn, 1) := by decide +kernel
theorem dX10_spring_63 : decode cX10_spring 63 = .ok (.aload_n 0, 1) := by decide +kernel
theorem dX10_spring_64 : decode cX10_spring 64 = .ok (.getfield 10, 3) := by decide +kernel
theorem dX10_spring_67 : decode cX10_spring 67 = .ok (.getfield 58, 3) := by decide +kernel
theorem dX10_spring_70 : decode cX10_spring 70 = .ok (.aload_n 0, 1) := by decide +kernel
theorem dX10_spring_71 : decode cX10_spring 71 = .ok (.getfield 10, 3) := by decide +kernel
theorem dX10_spring_74 : decode cX10_spring 74 = .ok (.getfield 33, 3) := by decide +kernel
theorem dX10_spring_77 : decode cX10_spring 77 = .ok (.aaload, 1) := by decide +kernel
theorem dX10_spring_78 : decode cX10_spring 78 = .ok (.astore 4, 2) := by decide +kernel
theorem dX10_spring_80 : decode cX10_spring 80 = .ok (.aload 4, 2) := by decide +kernel
theorem dX10_spring_82 : decode cX10_spring 82 = .ok (.iconst 4, 1) := by decide +kernel
theorem dX10_spring_83 : decode cX10_spring 83 = .ok (.iload_n 1, 1) := by decide +kernel
theorem dX10_spring_84 : decode cX10_spring 84 = .ok (.iastore, 1) := by decide +kernel
theorem dX10_spring_85 : decode cX10_spring 85 = .ok (.aload 4, 2) := by decide +kernel
theorem dX10_spring_87 : decode cX10_spring 87 = .ok (.iconst 5, 1) := by decide +kernel
theorem dX10_spring_88 : decode cX10_spring 88 = .ok (.iload_n 2, 1) := by decide +kernel
theorem dX10_spring_89 : decode cX10_spring 89 = .ok (.iastore, 1) := by decide +kernel
theorem dX10_spring_90 : decode cX10_spring 90 = .ok (.aload 4, 2) := by decide +kernel
theorem dX10_spring_92 : decode cX10_spring 92 = .ok (.bipush 6, 2) := by decide +kernel
theorem dX10_spring_94 : decode cX10_spring 94 = .ok (.iload_n 3, 1) := by decide +kernel
theorem dX10_spring_95 : decode cX10_spring 95 = .ok (.iastore, 1) := by decide +kernel
theorem dX10_spring_96 : decode cX10_spring 96 = .ok (.aload_n 0, 1) := by decide +kernel
theorem dX10_spring_97 : decode cX10_spring 97 = .ok (.getfield 10, 3) := by decide +kernel
theorem dX10_spring_100 : decode cX10_spring 100 = .ok (.dup, 1) := by decide +kernel
theorem dX10_spring_101 : decode cX10_spring 101 = .ok (.getfield 33, 3) := by decide +kernel
theorem dX10_spring_104 : decode cX10_spring 104 = .ok (.iconst 1, 1) := by decide +kernel
theorem dX10_spring_105 : decode cX10_spring 105 = .ok (.iadd, 1) := by decide +kernel
theorem dX10_spring_106 : decode cX10_spring 106 = .ok (.putfield 33, 3) := by decide +kernel
theorem dX10_spring_109 : decode cX10_spring 109 = .ok (.aload_n 0, 1) := by decide +kernel
theorem dX10_spring_110 : decode cX10_spring 110 = .ok (.getfield 10, 3) := by decide +kernel
theorem dX10_spring_113 : decode cX10_spring 113 = .ok (.getfield 33, 3) := by decide +kernel
theorem dX10_spring_116 : decode cX10_spring 116 = .ok (.iconst 1, 1) := by decide +kernel
theorem dX10_spring_117 : decode cX10_spring 117 = .ok (.isub, 1) := by decide +kernel
theorem dX10_spring_118 : decode cX10_spring 118 = .ok (.ireturn, 1) := by decide +kernel
theorem dX10_valve_0 : decode cX10_valve 0 = .ok (.aload_n 0, 1) := by decide +kernel
theorem dX10_valve_1 : decode cX10_valve 1 = .ok (.iconst 0, 1) := by decide +kernel
theorem dX10_valve_2 : decode cX10_valve 2 = .ok (.putfield 16, 3) := by decide +kernel
theorem dX10_valve_5 : decode cX10_valve 5 = .ok (.aload_n 0, 1) := by decide +kernel
theorem dX10_valve_6 : decode cX10_valve 6 = .ok (.iload_n 1, 1) := by decide +kernel
theorem dX10_valve_7 : decode cX10_valve 7 = .ok (.invokevirtual 61, 3) := by decide +kernel
theorem dX10_valve_10 : decode cX10_valve 10 = .ok (.ifCond .ne 9, 3) := by decide +kernel
theorem dX10_valve_13 : decode cX10_valve 13 = .ok (.aload_n 0, 1) := by decide +kernel
theorem dX10_valve_14 : decode cX10_valve 14 = .ok (.iconst 1, 1) := by decide +kernel
theorem dX10_valve_15 : decode cX10_valve 15 = .ok (.invokevirtual 36, 3) := by decide +kernel
theorem dX10_valve_18 : decode cX10_valve 18 = .ok (.ireturn, 1) := by decide +kernel
theorem dX10_valve_19 : decode cX10_valve 19 = .ok (.iload_n 2, 1) := by decide +kernel
theorem dX10_valve_20 : decode cX10_valve 20 = .ok (.iconst 0, 1) := by decide +kernel
theorem dX10_valve_21 : decode cX10_valve 21 = .ok (.bipush 9, 2) := by decide +kernel
theorem dX10_valve_23 : decode cX10_valve 23 = .ok (.invokestatic 23, 3) := by decide +kernel
theorem dX10_valve_26 : decode cX10_valve 26 = .ok (.ifCond .ne 9, 3) := by decide +kernel
theorem dX10_valve_29 : decode cX10_valve 29 = .ok (.aload_n 0, 1) := by decide +kernel
theorem dX10_valve_30 : decode cX10_valve 30 = .ok (.iconst 2, 1) := by decide +kernel
theorem dX10_valve_31 : decode cX10_valve 31 = .ok (.invokevirtual 36, 3) := by decide +kernel
theorem dX10_valve_34 : decode cX10_valve 34 = .ok (.ireturn, 1) := by decide +kernel
theorem dX10_valve_35 : decode cX10_valve 35 = .ok (.aload_n 0, 1) := by decide +kernel
theorem dX10_valve_36 : decode cX10_valve 36 = .ok (.getfield 10, 3) := by decide +kernel
theorem dX10_valve_39 : decode cX10_valve 39 = .ok (.getfield 55, 3) := by decide +kernel
theorem dX10_valve_42 : decode cX10_valve 42 = .ok (.iload_n 1, 1) := by decide +kernel
theorem dX10_valve_43 : decode cX10_valve 43 = .ok (.aaload, 1) := by decide +kernel
theorem dX10_valve_44 : decode cX10_valve 44 = .ok (.iconst 2, 1) := by decide +kernel
theorem dX10_valve_45 : decode cX10_valve 45 = .ok (.iaload, 1) := by decide +kernel
theorem dX10_valve_46 : decode cX10_valve 46 = .ok (.istore_n 3, 1) := by decide +kernel
theorem dX10_valve_47 : decode cX10_valve 47 = .ok (.aload_n 0, 1) := by decide +kernel
theorem dX10_valve_48 : decode cX10_valve 48 = .ok (.getfield 10, 3) := by decide +kernel
theorem dX10_valve_51 : decode cX10_valve 51 = .ok (.getfield 55, 3) := by decide +kernel
theorem dX10_valve_54 : decode cX10_valve 54 = .ok (.iload_n 1, 1) := by decide +kernel
theorem dX10_valve_55 : decode cX10_valve 55 = .ok (.aaload, 1) := by decide +kernel
theorem dX10_valve_56 : decode cX10_valve 56 = .ok (.iconst 2, 1) := by decide +kernel
theorem dX10_valve_57 : decode cX10_valve 57 = .ok (.iload_n 2, 1) := by decide +kernel
theorem dX10_valve_58 : decode cX10_valve 58 = .ok (.iastore, 1) := by decide +kernel
theorem dX10_valve_59 : decode cX10_valve 59 = .ok (.iload_n 3, 1) := by decide +kernel
theorem dX10_valve_60 : decode cX10_valve 60 = .ok (.ireturn, 1) := by decide +kernel
theorem dX10_trace_0 : decode cX10_trace 0 = .ok (.aload_n 0, 1) := by decide +kernel
theorem dX10_trace_1 : decode cX10_trace 1 = .ok (.iconst 0, 1) := by decide +kernel
theorem dX10_trace_2 : decode cX10_trace 2 = .ok (.putfield 16, 3) := by decide +kernel
theorem dX10_trace_5 : decode cX10_trace 5 = .ok (.aload_n 0, 1) := by decide +kernel
theorem dX10_trace_6 : decode cX10_trace 6 = .ok (.iload_n 1, 1) := by decide +kernel
theorem dX10_trace_7 : decode cX10_trace 7 = .ok (.invokevirtual 61, 3) := by decide +kernel
theorem dX10_trace_10 : decode cX10_trace 10 = .ok (.ifCond .ne 9, 3) := by decide +kernel
theorem dX10_trace_13 : decode cX10_trace 13 = .ok (.aload_n 0, 1) := by decide +kernel
theorem dX10_trace_14 : decode cX10_trace 14 = .ok (.iconst 1, 1) := by decide +kernel
theorem dX10_trace_15 : decode cX10_trace 15 = .ok (.invokevirtual 36, 3) := by decide +kernel
theorem dX10_trace_18 : decode cX10_trace 18 = .ok (.ireturn, 1) := by decide +kernel
theorem dX10_trace_19 : decode cX10_trace 19 = .ok (.iload_n 2, 1) := by decide +kernel
theorem dX10_trace_20 : decode cX10_trace 20 = .ok (.iconst 1, 1) := by decide +kernel
theorem dX10_trace_21 : decode cX10_trace 21 = .ok (.sipush 999, 3) := by decide +kernel
theorem dX10_trace_24 : decode cX10_trace 24 = .ok (.invokestatic 23, 3) := by decide +kernel
theorem dX10_trace_27 : decode cX10_trace 27 = .ok (.ifCond .ne 9, 3) := by decide +kernel
theorem dX10_trace_30 : decode cX10_trace 30 = .ok (.aload_n 0, 1) := by decide +kernel
theorem dX10_trace_31 : decode cX10_trace 31 = .ok (.iconst 2, 1) := by decide +kernel
theorem dX10_trace_32 : decode cX10_trace 32 = .ok (.invokevirtual 36, 3) := by decide +kernel
theorem dX10_trace_35 : decode cX10_trace 35 = .ok (.ireturn, 1) := by decide +kernel
theorem dX10_trace_36 : decode cX10_trace 36 = .ok (.aload_n 0, 1) := by decide +kernel
theorem dX10_trace_37 : decode cX10_trace 37 = .ok (.getfield 10, 3) := by decide +kernel
theorem dX10_trace_40 : decode cX10_trace 40 = .ok (.getfield 40, 3) := by decide +kernel
theorem dX10_trace_43 : decode cX10_trace 43 = .ok (.aload_n 0, 1) := by decide +kernel
theorem dX10_trace_44 : decode cX10_trace 44 = .ok (.getfield 10, 3) := by decide +kernel
theorem dX10_trace_47 : decode cX10_trace 47 = .ok (.getfield 55, 3) := by decide +kernel
theorem dX10_trace_50 : decode cX10_trace 50 = .ok (.iload_n 1, 1) := by decide +kernel
theorem dX10_trace_51 : decode cX10_trace 51 = .ok (.aaload, 1) := by decide +kernel
theorem dX10_trace_52 : decode cX10_trace 52 = .ok (.iconst 0, 1) := by decide +kernel
theorem dX10_trace_53 : decode cX10_trace 53 = .ok (.iaload, 1) := by decide +kernel
theorem dX10_trace_54 : decode cX10_trace 54 = .ok (.aaload, 1) := by decide +kernel
theorem dX10_trace_55 : decode cX10_trace 55 = .ok (.astore_n 3, 1) := by decide +kernel
theorem dX10_trace_56 : decode cX10_trace 56 = .ok (.aload_n 3, 1) := by decide +kernel
theorem dX10_trace_57 : decode cX10_trace 57 = .ok (.iconst 0, 1) := by decide +kernel
theorem dX10_trace_58 : decode cX10_trace 58 = .ok (.iaload, 1) := by decide +kernel
theorem dX10_trace_59 : decode cX10_trace 59 = .ok (.ifCond .ne 9, 3) := by decide +kernel
theorem dX10_trace_62 : decode cX10_trace 62 = .ok (.aload_n 0, 1) := by decide +kernel
theorem dX10_trace_63 : decode cX10_trace 63 = .ok (.iconst 3, 1) := by decide +kernel
theorem dX10_trace_64 : decode cX10_trace 64 = .ok (.invokevirtual 36, 3) := by decide +kernel
theorem dX10_trace_67 : decode cX10_trace 67 = .ok (.ireturn, 1) := by decide +kernel
theorem dX10_trace_68 : decode cX10_trace 68 = .ok (.aload_n 3, 1) := by decide +kernel
theorem dX10_trace_69 : decode cX10_trace 69 = .ok (.iconst 3, 1) := by decide +kernel
theorem dX10_trace_70 : decode cX10_trace 70 = .ok (.dup2, 1) := by decide +kernel
theorem dX10_trace_71 : decode cX10_trace 71 = .ok (.iaload, 1) := by decide +kernel
theorem dX10_trace_72 : decode cX10_trace 72 = .ok (.iload_n 2, 1) := by decide +kernel
theorem dX10_trace_73 : decode cX10_trace 73 = .ok (.iadd, 1) := by decide +kernel
theorem dX10_trace_74 : decode cX10_trace 74 = .ok (.iastore, 1) := by decide +kernel
theorem dX10_trace_75 : decode cX10_trace 75 = .ok (.aload_n 0, 1) := by decide +kernel
theorem dX10_trace_76 : decode cX10_trace 76 = .ok (.getfield 10, 3) := by decide +kernel
theorem dX10_trace_79 : decode cX10_trace 79 = .ok (.getfield 44, 3) := by decide +kernel
theorem dX10_trace_82 : decode cX10_trace 82 = .ok (.iconst 3, 1) := by decide +kernel
theorem dX10_trace_83 : decode cX10_trace 83 = .ok (.dup2, 1) := by decide +kernel
theorem dX10_trace_84 : decode cX10_trace 84 = .ok (.iaload, 1) := by decide +kernel
theorem dX10_trace_85 : decode cX10_trace 85 = .ok (.iload_n 2, 1) := by decide +kernel
theorem dX10_trace_86 : decode cX10_trace 86 = .ok (.iadd, 1) := by decide +kernel
theorem dX10_trace_87 : decode cX10_trace 87 = .ok (.iastore, 1) := by decide +kernel
theorem dX10_trace_88 : decode cX10_trace 88 = .ok (.aload_n 3, 1) := by decide +kernel
theorem dX10_trace_89 : decode cX10_trace 89 = .ok (.iconst 3, 1) := by decide +kernel
theorem dX10_trace_90 : decode cX10_trace 90 = .ok (.iaload, 1) := by decide +kernel
theorem dX10_trace_91 : decode cX10_trace 91 = .ok (.ireturn, 1) := by decide +kernel
theorem dX10_clean_0 : decode cX10_clean 0 = .ok (.aload_n 0, 1) := by decide +kernel
theorem dX10_clean_1 : decode cX10_clean 1 = .ok (.iconst 0, 1) := by decide +kernel
theorem dX10_clean_2 : decode cX10_clean 2 = .ok (.putfield 16, 3) := by decide +kernel
theorem dX10_clean_5 : decode cX10_clean 5 = .ok (.aload_n 0, 1) := by decide +kernel
theorem dX10_clean_6 : decode cX10_clean 6 = .ok (.iload_n 1, 1) := by decide +kernel
theorem dX10_clean_7 : decode cX10_clean 7 = .ok (.invokevirtual 61, 3) := by decide +kernel
theorem dX10_clean_10 : decode cX10_clean 10 = .ok (.ifCond .ne 9, 3) := by decide +kernel
theorem dX10_clean_13 : decode cX10_clean 13 = .ok (.aload_n 0, 1) := by decide +kernel
theorem dX10_clean_14 : decode cX10_clean 14 = .ok (.iconst 1, 1) := by decide +kernel
theorem dX10_clean_15 : decode cX10_clean 15 = .ok (.invokevirtual 36, 3) := by decide +kernel
theorem dX10_clean_18 : decode cX10_clean 18 = .ok (.ireturn, 1) := by decide +kernel
theorem dX10_clean_19 : decode cX10_clean 19 = .ok (.aload_n 0, 1) := by decide +kernel
theorem dX10_clean_20 : decode cX10_clean 20 = .ok (.getfield 10, 3) := by decide +kernel
theorem dX10_clean_23 : decode cX10_clean 23 = .ok (.getfield 55, 3) := by decide +kernel
theorem dX10_clean_26 : decode cX10_clean 26 = .ok (.iload_n 1, 1) := by decide +kernel
theorem dX10_clean_27 : decode cX10_clean 27 = .ok (.aaload, 1) := by decide +kernel
theorem dX10_clean_28 : decode cX10_clean 28 = .ok (.astore_n 2, 1) := by decide +kernel
theorem dX10_clean_29 : decode cX10_clean 29 = .ok (.aload_n 0, 1) := by decide +kernel
theorem dX10_clean_30 : decode cX10_clean 30 = .ok (.getfield 10, 3) := by decide +kernel
theorem dX10_clean_33 : decode cX10_clean 33 = .ok (.getfield 40, 3) := by decide +kernel
theorem dX10_clean_36 : decode cX10_clean 36 = .ok (.aload_n 2, 1) := by decide +kernel
theorem dX10_clean_37 : decode cX10_clean 37 = .ok (.iconst 0, 1) := by decide +kernel
theorem dX10_clean_38 : decode cX10_clean 38 = .ok (.iaload, 1) := by decide +kernel
theorem dX10_clean_39 : decode cX10_clean 39 = .ok (.aaload, 1) := by decide +kernel
theorem dX10_clean_40 : decode cX10_clean 40 = .ok (.iconst 5, 1) := by decide +kernel
theorem dX10_clean_41 : decode cX10_clean 41 = .ok (.iaload, 1) := by decide +kernel
theorem dX10_clean_42 : decode cX10_clean 42 = .ok (.istore_n 3, 1) := by decide +kernel
theorem dX10_clean_43 : decode cX10_clean 43 = .ok (.aload_n 0, 1) := by decide +kernel
theorem dX10_clean_44 : decode cX10_clean 44 = .ok (.getfield 10, 3) := by decide +kernel
theorem dX10_clean_47 : decode cX10_clean 47 = .ok (.getfield 64, 3) := by decide +kernel
theorem dX10_clean_50 : decode cX10_clean 50 = .ok (.iload_n 3, 1) := by decide +kernel
theorem dX10_clean_51 : decode cX10_clean 51 = .ok (.iaload, 1) := by decide +kernel
theorem dX10_clean_52 : decode cX10_clean 52 = .ok (.iconst 5, 1) := by decide +kernel
theorem dX10_clean_53 : decode cX10_clean 53 = .ok (.aload_n 2, 1) := by decide +kernel
theorem dX10_clean_54 : decode cX10_clean 54 = .ok (.iconst 3, 1) := by decide +kernel
theorem dX10_clean_55 : decode cX10_clean 55 = .ok (.iaload, 1) := by decide +kernel
theorem dX10_clean_56 : decode cX10_clean 56 = .ok (.imul, 1) := by decide +kernel
theorem dX10_clean_57 : decode cX10_clean 57 = .ok (.if_icmp .ge 9, 3) := by decide +kernel
theorem dX10_clean_60 : decode cX10_clean 60 = .ok (.aload_n 0, 1) := by decide +kernel
theorem dX10_clean_61 : decode cX10_clean 61 = .ok (.iconst 2, 1) := by decide +kernel
theorem dX10_clean_62 : decode cX10_clean 62 = .ok (.invokevirtual 36, 3) := by decide +kernel
theorem dX10_clean_65 : decode cX10_clean 65 = .ok (.ireturn, 1) := by decide +kernel
theorem dX10_clean_66 : decode cX10_clean 66 = .ok (.aload_n 2, 1) := by decide +kernel
theorem dX10_clean_67 : decode cX10_clean 67 = .ok (.iconst 3, 1) := by decide +kernel
theorem dX10_clean_68 : decode cX10_clean 68 = .ok (.iaload, 1) := by decide +kernel
theorem dX10_clean_69 : decode cX10_clean 69 = .ok (.istore 4, 2) := by decide +kernel
theorem dX10_clean_71 : decode cX10_clean 71 = .ok (.aload_n 0, 1) := by decide +kernel
theorem dX10_clean_72 : decode cX10_clean 72 = .ok (.getfield 10, 3) := by decide +kernel
theorem dX10_clean_75 : decode cX10_clean 75 = .ok (.getfield 64, 3) := by decide +kernel
theorem dX10_clean_78 : decode cX10_clean 78 = .ok (.iload_n 3, 1) := by decide +kernel
theorem dX10_clean_79 : decode cX10_clean 79 = .ok (.dup2, 1) := by decide +kernel
theorem dX10_clean_80 : decode cX10_clean 80 = .ok (.iaload, 1) := by decide +kernel
theorem dX10_clean_81 : decode cX10_clean 81 = .ok (.iconst 5, 1) := by decide +kernel
theorem dX10_clean_82 : decode cX10_clean 82 = .ok (.iload 4, 2) := by decide +kernel
theorem dX10_clean_84 : decode cX10_clean 84 = .ok (.imul, 1) := by decide +kernel
theorem dX10_clean_85 : decode cX10_clean 85 = .ok (.isub, 1) := by decide +kernel
theorem dX10_clean_86 : decode cX10_clean 86 = .ok (.iastore, 1) := by decide +kernel
theorem dX10_clean_87 : decode cX10_clean 87 = .ok (.aload_n 2, 1) := by decide +kernel
theorem dX10_clean_88 : decode cX10_clean 88 = .ok (.iconst 3, 1) := by decide +kernel
theorem dX10_clean_89 : decode cX10_clean 89 = .ok (.iconst 0, 1) := by decide +kernel
theorem dX10_clean_90 : decode cX10_clean 90 = .ok (.iastore, 1) := by decide +kernel
theorem dX10_clean_91 : decode cX10_clean 91 = .ok (.aload_n 2, 1) := by decide +kernel
theorem dX10_clean_92 : decode cX10_clean 92 = .ok (.iconst 4, 1) := by decide +kernel
theorem dX10_clean_93 : decode cX10_clean 93 = .ok (.iconst 0, 1) := by decide +kernel
theorem dX10_clean_94 : decode cX10_clean 94 = .ok (.iastore, 1) := by decide +kernel
theorem dX10_clean_95 : decode cX10_clean 95 = .ok (.iload 4, 2) := by decide +kernel
theorem dX10_clean_97 : decode cX10_clean 97 = .ok (.ireturn, 1) := by decide +kernel
theorem dX10_turbine_0 : decode cX10_turbine 0 = .ok (.aload_n 0, 1) := by decide +kernel
theorem dX10_turbine_1 : decode cX10_turbine 1 = .ok (.iconst 0, 1) := by decide +kernel
theorem dX10_turbine_2 : decode cX10_turbine 2 = .ok (.putfield 16, 3) := by decide +kernel
theorem dX10_turbine_5 : decode cX10_turbine 5 = .ok (.iload_n 1, 1) := by decide +kernel
theorem dX10_turbine_6 : decode cX10_turbine 6 = .ok (.iconst 0, 1) := by decide +kernel
theorem dX10_turbine_7 : decode cX10_turbine 7 = .ok (.bipush 99, 2) := by decide +kernel
theorem dX10_turbine_9 : decode cX10_turbine 9 = .ok (.invokestatic 23, 3) := by decide +kernel
theorem dX10_turbine_12 : decode cX10_turbine 12 = .ok (.ifCond .ne 9, 3) := by decide +kernel
theorem dX10_turbine_15 : decode cX10_turbine 15 = .ok (.aload_n 0, 1) := by decide +kernel
theorem dX10_turbine_16 : decode cX10_turbine 16 = .ok (.iconst 1, 1) := by decide +kernel
theorem dX10_turbine_17 : decode cX10_turbine 17 = .ok (.invokevirtual 36, 3) := by decide +kernel
theorem dX10_turbine_20 : decode cX10_turbine 20 = .ok (.ireturn, 1) := by decide +kernel
theorem dX10_turbine_21 : decode cX10_turbine 21 = .ok (.aload_n 0, 1) := by decide +kernel
theorem dX10_turbine_22 : decode cX10_turbine 22 = .ok (.getfield 10, 3) := by decide +kernel
theorem dX10_turbine_25 : decode cX10_turbine 25 = .ok (.getfield 67, 3) := by decide +kernel
theorem dX10_turbine_28 : decode cX10_turbine 28 = .ok (.istore_n 2, 1) := by decide +kernel
theorem dX10_turbine_29 : decode cX10_turbine 29 = .ok (.aload_n 0, 1) := by decide +kernel
theorem dX10_turbine_30 : decode cX10_turbine 30 = .ok (.getfield 10, 3) := by decide +kernel
theorem dX10_turbine_33 : decode cX10_turbine 33 = .ok (.iload_n 1, 1) := by decide +kernel
theorem dX10_turbine_34 : decode cX10_turbine 34 = .ok (.putfield 67, 3) := by decide +kernel
theorem dX10_turbine_37 : decode cX10_turbine 37 = .ok (.aload_n 0, 1) := by decide +kernel
theorem dX10_turbine_38 : decode cX10_turbine 38 = .ok (.getfield 10, 3) := by decide +kernel
theorem dX10_turbine_41 : decode cX10_turbine 41 = .ok (.iconst 1, 1) := by decide +kernel
theorem dX10_turbine_42 : decode cX10_turbine 42 = .ok (.putfield 70, 3) := by decide +kernel
theorem dX10_turbine_45 : decode cX10_turbine 45 = .ok (.iload_n 2, 1) := by decide +kernel
theorem dX10_turbine_46 : decode cX10_turbine 46 = .ok (.ireturn, 1) := by decide +kernel
theorem dX10_town_0 : decode cX10_town 0 = .ok (.aload_n 0, 1) := by decide +kernel
theorem dX10_town_1 : decode cX10_town 1 = .ok (.iconst 0, 1) := by decide +kernel
theorem dX10_town_2 : decode cX10_town 2 = .ok (.putfield 16, 3) := by decide +kernel
theorem dX10_town_5 : decode cX10_town 5 = .ok (.iload_n 1, 1) := by decide +kernel
theorem dX10_town_6 : decode cX10_town 6 = .ok (.iconst 0, 1) := by decide +kernel
theorem dX10_town_7 : decode cX10_town 7 = .ok (.sipush 999, 3) := by decide +kernel
theorem dX10_town_10 : decode cX10_town 10 = .ok (.invokestatic 23, 3) := by decide +kernel
theorem dX10_town_13 : decode cX10_town 13 = .ok (.ifCond .ne 9, 3) := by decide +kernel
theorem dX10_town_16 : decode cX10_town 16 = .ok (.aload_n 0, 1) := by decide +kernel
theorem dX10_town_17 : decode cX10_town 17 = .ok (.iconst 1, 1) := by decide +kernel
theorem dX10_town_18 : decode cX10_town 18 = .ok (.invokevirtual 36, 3) := by decide +kernel
theorem dX10_town_21 : decode cX10_town 21 = .ok (.ireturn, 1) := by decide +kernel
theorem dX10_town_22 : decode cX10_town 22 = .ok (.aload_n 0, 1) := by decide +kernel
theorem dX10_town_23 : decode cX10_town 23 = .ok (.getfield 10, 3) := by decide +kernel
theorem dX10_town_26 : decode cX10_town 26 = .ok (.getfield 74, 3) := by decide +kernel
theorem dX10_town_29 : decode cX10_town 29 = .ok (.istore_n 2, 1) := by decide +kernel
theorem dX10_town_30 : decode cX10_town 30 = .ok (.aload_n 0, 1) := by decide +kernel
theorem dX10_town_31 : decode cX10_town 31 = .ok (.getfield 10, 3) := by decide +kernel
theorem dX10_town_34 : decode cX10_town 34 = .ok (.iload_n 1, 1) := by decide +kernel
theorem dX10_town_35 : decode cX10_town 35 = .ok (.putfield 74, 3) := by decide +kernel
theorem dX10_town_38 : decode cX10_town 38 = .ok (.iload_n 2, 1) := by decide +kernel
theorem dX10_town_39 : decode cX10_town 39 = .ok (.ireturn, 1) := by decide +kernel
theorem dX10_areSteps_0 : decode cX10_areSteps 0 = .ok (.iload_n 0, 1) := by decide +kernel
theorem dX10_areSteps_1 : decode cX10_areSteps 1 = .ok (.iconst 1, 1) := by decide +kernel
theorem dX10_areSteps_2 : decode cX10_areSteps 2 = .ok (.bipush 30, 2) := by decide +kernel
theorem dX10_areSteps_4 : decode cX10_areSteps 4 = .ok (.invokestatic 23, 3) := by decide +kernel
theorem dX10_areSteps_7 : decode cX10_areSteps 7 = .ok (.ireturn, 1) := by decide +kernel
theorem dX10_run_0 : decode cX10_run 0 = .ok (.aload_n 0, 1) := by decide +kernel
theorem dX10_run_1 : decode cX10_run 1 = .ok (.iconst 0, 1) := by decide +kernel
theorem dX10_run_2 : decode cX10_run 2 = .ok (.putfield 16, 3) := by decide +kernel
theorem dX10_run_5 : decode cX10_run 5 = .ok (.iload_n 1, 1) := by decide +kernel
theorem dX10_run_6 : decode cX10_run 6 = .ok (.invokestatic 77, 3) := by decide +kernel
theorem dX10_run_9 : decode cX10_run 9 = .ok (.ifCond .eq 14, 3) := by decide +kernel
theorem dX10_run_12 : decode cX10_run 12 = .ok (.aload_n 0, 1) := by decide +kernel
theorem dX10_run_13 : decode cX10_run 13 = .ok (.getfield 10, 3) := by decide +kernel
theorem dX10_run_16 : decode cX10_run 16 = .ok (.iload_n 1, 1) := by decide +kernel
theorem dX10_run_17 : decode cX10_run 17 = .ok (.invokevirtual 80, 3) := by decide +kernel
theorem dX10_run_20 : decode cX10_run 20 = .ok (.goto 8, 3) := by decide +kernel
theorem dX10_run_23 : decode cX10_run 23 = .ok (.aload_n 0, 1) := by decide +kernel
theorem dX10_run_24 : decode cX10_run 24 = .ok (.iconst 1, 1) := by decide +kernel
theorem dX10_run_25 : decode cX10_run 25 = .ok (.invokevirtual 36, 3) := by decide +kernel
theorem dX10_run_28 : decode cX10_run 28 = .ok (.ireturn, 1) := by decide +kernel
theorem dX10_ofBlockNow_0 : decode cX10_ofBlockNow 0 = .ok (.aload_n 0, 1) := by decide +kernel
theorem dX10_ofBlockNow_1 : decode cX10_ofBlockNow 1 = .ok (.getfield 10, 3) := by decide +kernel
theorem dX10_ofBlockNow_4 : decode cX10_ofBlockNow 4 = .ok (.getfield 40, 3) := by decide +kernel
theorem dX10_ofBlockNow_7 : decode cX10_ofBlockNow 7 = .ok (.iload_n 1, 1) := by decide +kernel
theorem dX10_ofBlockNow_8 : decode cX10_ofBlockNow 8 = .ok (.aaload, 1) := by decide +kernel
theorem dX10_ofBlockNow_9 : decode cX10_ofBlockNow 9 = .ok (.astore_n 3, 1) := by decide +kernel
theorem dX10_ofBlockNow_10 : decode cX10_ofBlockNow 10 = .ok (.iload_n 2, 1) := by decide +kernel
theorem dX10_ofBlockNow_11 : decode cX10_ofBlockNow 11 = .ok (.iconst 4, 1) := by decide +kernel
theorem dX10_ofBlockNow_12 : decode cX10_ofBlockNow 12 = .ok (.if_icmp .ge 9, 3) := by decide +kernel
theorem dX10_ofBlockNow_15 : decode cX10_ofBlockNow 15 = .ok (.aload_n 3, 1) := by decide +kernel
theorem dX10_ofBlockNow_16 : decode cX10_ofBlockNow 16 = .ok (.iload_n 2, 1) := by decide +kernel
theorem dX10_ofBlockNow_17 : decode cX10_ofBlockNow 17 = .ok (.iaload, 1) := by decide +kernel
theorem dX10_ofBlockNow_18 : decode cX10_ofBlockNow 18 = .ok (.goto 19, 3) := by decide +kernel
theorem dX10_ofBlockNow_21 : decode cX10_ofBlockNow 21 = .ok (.iload_n 2, 1) := by decide +kernel
theorem dX10_ofBlockNow_22 : decode cX10_ofBlockNow 22 = .ok (.iconst 4, 1) := by decide +kernel
theorem dX10_ofBlockNow_23 : decode cX10_ofBlockNow 23 = .ok (.if_icmp .ne 10, 3) := by decide +kernel
theorem dX10_ofBlockNow_26 : decode cX10_ofBlockNow 26 = .ok (.aload_n 3, 1) := by decide +kernel
theorem dX10_ofBlockNow_27 : decode cX10_ofBlockNow 27 = .ok (.invokestatic 83, 3) := by decide +kernel
theorem dX10_ofBlockNow_30 : decode cX10_ofBlockNow 30 = .ok (.goto 7, 3) := by decide +kernel
theorem dX10_ofBlockNow_33 : decode cX10_ofBlockNow 33 = .ok (.aload_n 3, 1) := by decide +kernel
theorem dX10_ofBlockNow_34 : decode cX10_ofBlockNow 34 = .ok (.invokestatic 87, 3) := by decide +kernel
theorem dX10_ofBlockNow_37 : decode cX10_ofBlockNow 37 = .ok (.ireturn, 1) := by decide +kernel
theorem dX10_ofBlock_0 : decode cX10_ofBlock 0 = .ok (.aload_n 0, 1) := by decide +kernel
theorem dX10_ofBlock_1 : decode cX10_ofBlock 1 = .ok (.iconst 0, 1) := by decide +kernel
theorem dX10_ofBlock_2 : decode cX10_ofBlock 2 = .ok (.putfield 16, 3) := by decide +kernel
theorem dX10_ofBlock_5 : decode cX10_ofBlock 5 = .ok (.aload_n 0, 1) := by decide +kernel
theorem dX10_ofBlock_6 : decode cX10_ofBlock 6 = .ok (.iload_n 1, 1) := by decide +kernel
theorem dX10_ofBlock_7 : decode cX10_ofBlock 7 = .ok (.invokevirtual 48, 3) := by decide +kernel
theorem dX10_ofBlock_10 : decode cX10_ofBlock 10 = .ok (.ifCond .ne 9, 3) := by decide +kernel
theorem dX10_ofBlock_13 : decode cX10_ofBlock 13 = .ok (.aload_n 0, 1) := by decide +kernel
theorem dX10_ofBlock_14 : decode cX10_ofBlock 14 = .ok (.iconst 1, 1) := by decide +kernel
theorem dX10_ofBlock_15 : decode cX10_ofBlock 15 = .ok (.invokevirtual 36, 3) := by decide +kernel
theorem dX10_ofBlock_18 : decode cX10_ofBlock 18 = .ok (.ireturn, 1) := by decide +kernel
theorem dX10_ofBlock_19 : decode cX10_ofBlock 19 = .ok (.iload_n 2, 1) := by decide +kernel
theorem dX10_ofBlock_20 : decode cX10_ofBlock 20 = .ok (.iconst 0, 1) := by decide +kernel
theorem dX10_ofBlock_21 : decode cX10_ofBlock 21 = .ok (.iconst 5, 1) := by decide +kernel
theorem dX10_ofBlock_22 : decode cX10_ofBlock 22 = .ok (.invokestatic 23, 3) := by decide +kernel
theorem dX10_ofBlock_25 : decode cX10_ofBlock 25 = .ok (.ifCond .eq 12, 3) := by decide +kernel
theorem dX10_ofBlock_28 : decode cX10_ofBlock 28 = .ok (.aload_n 0, 1) := by decide +kernel
theorem dX10_ofBlock_29 : decode cX10_ofBlock 29 = .ok (.iload_n 1, 1) := by decide +kernel
theorem dX10_ofBlock_30 : decode cX10_ofBlock 30 = .ok (.iload_n 2, 1) := by decide +kernel
theorem dX10_ofBlock_31 : decode cX10_ofBlock 31 = .ok (.invokevirtual 90, 3) := by decide +kernel
theorem dX10_ofBlock_34 : decode cX10_ofBlock 34 = .ok (.goto 8, 3) := by decide +kernel
theorem dX10_ofBlock_37 : decode cX10_ofBlock 37 = .ok (.aload_n 0, 1) := by decide +kernel
theorem dX10_ofBlock_38 : decode cX10_ofBlock 38 = .ok (.iconst 2, 1) := by decide +kernel
theorem dX10_ofBlock_39 : decode cX10_ofBlock 39 = .ok (.invokevirtual 36, 3) := by decide +kernel
theorem dX10_ofBlock_42 : decode cX10_ofBlock 42 = .ok (.ireturn, 1) := by decide +kernel
theorem dX10_ofWell_0 : decode cX10_ofWell 0 = .ok (.aload_n 0, 1) := by decide +kernel
theorem dX10_ofWell_1 : decode cX10_ofWell 1 = .ok (.iconst 0, 1) := by decide +kernel
theorem dX10_ofWell_2 : decode cX10_ofWell 2 = .ok (.putfield 16, 3) := by decide +kernel
theorem dX10_ofWell_5 : decode cX10_ofWell 5 = .ok (.aload_n 0, 1) := by decide +kernel
theorem dX10_ofWell_6 : decode cX10_ofWell 6 = .ok (.iload_n 1, 1) := by decide +kernel
theorem dX10_ofWell_7 : decode cX10_ofWell 7 = .ok (.invokevirtual 61, 3) := by decide +kernel
theorem dX10_ofWell_10 : decode cX10_ofWell 10 = .ok (.ifCond .ne 9, 3) := by decide +kernel
theorem dX10_ofWell_13 : decode cX10_ofWell 13 = .ok (.aload_n 0, 1) := by decide +kernel
theorem dX10_ofWell_14 : decode cX10_ofWell 14 = .ok (.iconst 1, 1) := by decide +kernel
theorem dX10_ofWell_15 : decode cX10_ofWell 15 = .ok (.invokevirtual 36, 3) := by decide +kernel
theorem dX10_ofWell_18 : decode cX10_ofWell 18 = .ok (.ireturn, 1) := by decide +kernel
theorem dX10_ofWell_19 : decode cX10_ofWell 19 = .ok (.iload_n 2, 1) := by decide +kernel
theorem dX10_ofWell_20 : decode cX10_ofWell 20 = .ok (.iconst 0, 1) := by decide +kernel
theorem dX10_ofWell_21 : decode cX10_ofWell 21 = .ok (.bipush 8, 2) := by decide +kernel
theorem dX10_ofWell_23 : decode cX10_ofWell 23 = .ok (.invokestatic 23, 3) := by decide +kernel
theorem dX10_ofWell_26 : decode cX10_ofWell 26 = .ok (.ifCond .eq 17, 3) := by decide +kernel
theorem dX10_ofWell_29 : decode cX10_ofWell 29 = .ok (.aload_n 0, 1) := by decide +kernel
theorem dX10_ofWell_30 : decode cX10_ofWell 30 = .ok (.getfield 10, 3) := by decide +kernel
theorem dX10_ofWell_33 : decode cX10_ofWell 33 = .ok (.getfield 55, 3) := by decide +kernel
theorem dX10_ofWell_36 : decode cX10_ofWell 36 = .ok (.iload_n 1, 1) := by decide +kernel
theorem dX10_ofWell_37 : decode cX10_ofWell 37 = .ok (.aaload, 1) := by decide +kernel
theorem dX10_ofWell_38 : decode cX10_ofWell 38 = .ok (.iload_n 2, 1) := by decide +kernel
theorem dX10_ofWell_39 : decode cX10_ofWell 39 = .ok (.iaload, 1) := by decide +kernel
theorem dX10_ofWell_40 : decode cX10_ofWell 40 = .ok (.goto 8, 3) := by decide +kernel
theorem dX10_ofWell_43 : decode cX10_ofWell 43 = .ok (.aload_n 0, 1) := by decide +kernel
theorem dX10_ofWell_44 : decode cX10_ofWell 44 = .ok (.iconst 2, 1) := by decide +kernel
theorem dX10_ofWell_45 : decode cX10_ofWell 45 = .ok (.invokevirtual 36, 3) := by decide +kernel
theorem dX10_ofWell_48 : decode cX10_ofWell 48 = .ok (.ireturn, 1) := by decide +kernel
theorem dX10_ofSpring_0 : decode cX10_ofSpring 0 = .ok (.aload_n 0, 1) := by decide +kernel
theorem dX10_ofSpring_1 : decode cX10_ofSpring 1 = .ok (.iconst 0, 1) := by decide +kernel
theorem dX10_ofSpring_2 : decode cX10_ofSpring 2 = .ok (.putfield 16, 3) := by decide +kernel
theorem dX10_ofSpring_5 : decode cX10_ofSpring 5 = .ok (.aload_n 0, 1) := by decide +kernel
theorem dX10_ofSpring_6 : decode cX10_ofSpring 6 = .ok (.iload_n 1, 1) := by decide +kernel
theorem dX10_ofSpring_7 : decode cX10_ofSpring 7 = .ok (.invokevirtual 94, 3) := by decide +kernel
theorem dX10_ofSpring_10 : decode cX10_ofSpring 10 = .ok (.ifCond .ne 9, 3) := by decide +kernel
theorem dX10_ofSpring_13 : decode cX10_ofSpring 13 = .ok (.aload_n 0, 1) := by decide +kernel
theorem dX10_ofSpring_14 : decode cX10_ofSpring 14 = .ok (.iconst 1, 1) := by decide +kernel
theorem dX10_ofSpring_15 : decode cX10_ofSpring 15 = .ok (.invokevirtual 36, 3) := by decide +kernel
theorem dX10_ofSpring_18 : decode cX10_ofSpring 18 = .ok (.ireturn, 1) := by decide +kernel
theorem dX10_ofSpring_19 : decode cX10_ofSpring 19 = .ok (.iload_n 2, 1) := by decide +kernel
theorem dX10_ofSpring_20 : decode cX10_ofSpring 20 = .ok (.iconst 0, 1) := by decide +kernel
theorem dX10_ofSpring_21 : decode cX10_ofSpring 21 = .ok (.iconst 3, 1) := by decide +kernel
theorem dX10_ofSpring_22 : decode cX10_ofSpring 22 = .ok (.invokestatic 23, 3) := by decide +kernel
theorem dX10_ofSpring_25 : decode cX10_ofSpring 25 = .ok (.ifCond .eq 17, 3) := by decide +kernel
theorem dX10_ofSpring_28 : decode cX10_ofSpring 28 = .ok (.aload_n 0, 1) := by decide +kernel
theorem dX10_ofSpring_29 : decode cX10_ofSpring 29 = .ok (.getfield 10, 3) := by decide +kernel
theorem dX10_ofSpring_32 : decode cX10_ofSpring 32 = .ok (.getfield 58, 3) := by decide +kernel
theorem dX10_ofSpring_35 : decode cX10_ofSpring 35 = .ok (.iload_n 1, 1) := by decide +kernel
theorem dX10_ofSpring_36 : decode cX10_ofSpring 36 = .ok (.aaload, 1) := by decide +kernel
theorem dX10_ofSpring_37 : decode cX10_ofSpring 37 = .ok (.iload_n 2, 1) := by decide +kernel
theorem dX10_ofSpring_38 : decode cX10_ofSpring 38 = .ok (.iaload, 1) := by decide +kernel
theorem dX10_ofSpring_39 : decode cX10_ofSpring 39 = .ok (.goto 8, 3) := by decide +kernel
theorem dX10_ofSpring_42 : decode cX10_ofSpring 42 = .ok (.aload_n 0, 1) := by decide +kernel
theorem dX10_ofSpring_43 : decode cX10_ofSpring 43 = .ok (.iconst 2, 1) := by decide +kernel
theorem dX10_ofSpring_44 : decode cX10_ofSpring 44 = .ok (.invokevirtual 36, 3) := by decide +kernel
theorem dX10_ofSpring_47 : decode cX10_ofSpring 47 = .ok (.ireturn, 1) := by decide +kernel
theorem dX10_ofFace_0 : decode cX10_ofFace 0 = .ok (.aload_n 0, 1) := by decide +kernel
theorem dX10_ofFace_1 : decode cX10_ofFace 1 = .ok (.iconst 0, 1) := by decide +kernel
theorem dX10_ofFace_2 : decode cX10_ofFace 2 = .ok (.putfield 16, 3) := by decide +kernel
theorem dX10_ofFace_5 : decode cX10_ofFace 5 = .ok (.aload_n 0, 1) := by decide +kernel
theorem dX10_ofFace_6 : decode cX10_ofFace 6 = .ok (.iload_n 1, 1) := by decide +kernel
theorem dX10_ofFace_7 : decode cX10_ofFace 7 = .ok (.invokevirtual 97, 3) := by decide +kernel
theorem dX10_ofFace_10 : decode cX10_ofFace 10 = .ok (.ifCond .eq 25, 3) := by decide +kernel
theorem dX10_ofFace_13 : decode cX10_ofFace 13 = .ok (.aload_n 0, 1) := by decide +kernel
theorem dX10_ofFace_14 : decode cX10_ofFace 14 = .ok (.getfield 10, 3) := by decide +kernel
theorem dX10_ofFace_17 : decode cX10_ofFace 17 = .ok (.getfield 52, 3) := by decide +kernel
theorem dX10_ofFace_20 : decode cX10_ofFace 20 = .ok (.iload_n 1, 1) := by decide +kernel
theorem dX10_ofFace_21 : decode cX10_ofFace 21 = .ok (.aaload, 1) := by decide +kernel
theorem dX10_ofFace_22 : decode cX10_ofFace 22 = .ok (.iload_n 2, 1) := by decide +kernel
theorem dX10_ofFace_23 : decode cX10_ofFace 23 = .ok (.ifCond .eq 7, 3) := by decide +kernel
theorem dX10_ofFace_26 : decode cX10_ofFace 26 = .ok (.iconst 3, 1) := by decide +kernel
theorem dX10_ofFace_27 : decode cX10_ofFace 27 = .ok (.goto 4, 3) := by decide +kernel
theorem dX10_ofFace_30 : decode cX10_ofFace 30 = .ok (.iconst 2, 1) := by decide +kernel
theorem dX10_ofFace_31 : decode cX10_ofFace 31 = .ok (.iaload, 1) := by decide +kernel
theorem dX10_ofFace_32 : decode cX10_ofFace 32 = .ok (.goto 8, 3) := by decide +kernel
theorem dX10_ofFace_35 : decode cX10_ofFace 35 = .ok (.aload_n 0, 1) := by decide +kernel
theorem dX10_ofFace_36 : decode cX10_ofFace 36 = .ok (.iconst 1, 1) := by decide +kernel
theorem dX10_ofFace_37 : decode cX10_ofFace 37 = .ok (.invokevirtual 36, 3) := by decide +kernel
theorem dX10_ofFace_40 : decode cX10_ofFace 40 = .ok (.ireturn, 1) := by decide +kernel
theorem dX10_pond_0 : decode cX10_pond 0 = .ok (.aload_n 0, 1) := by decide +kernel
theorem dX10_pond_1 : decode cX10_pond 1 = .ok (.iconst 0, 1) := by decide +kernel
theorem dX10_pond_2 : decode cX10_pond 2 = .ok (.putfield 16, 3) := by decide +kernel
theorem dX10_pond_5 : decode cX10_pond 5 = .ok (.iload_n 1, 1) := by decide +kernel
theorem dX10_pond_6 : decode cX10_pond 6 = .ok (.iconst 0, 1) := by decide +kernel
theorem dX10_pond_7 : decode cX10_pond 7 = .ok (.iconst 3, 1) := by decide +kernel
theorem dX10_pond_8 : decode cX10_pond 8 = .ok (.invokestatic 23, 3) := by decide +kernel
theorem dX10_pond_11 : decode cX10_pond 11 = .ok (.ifCond .eq 15, 3) := by decide +kernel
theorem dX10_pond_14 : decode cX10_pond 14 = .ok (.aload_n 0, 1) := by decide +kernel
theorem dX10_pond_15 : decode cX10_pond 15 = .ok (.getfield 10, 3) := by decide +kernel
theorem dX10_pond_18 : decode cX10_pond 18 = .ok (.getfield 100, 3) := by decide +kernel
theorem dX10_pond_21 : decode cX10_pond 21 = .ok (.iload_n 1, 1) := by decide +kernel
theorem dX10_pond_22 : decode cX10_pond 22 = .ok (.iaload, 1) := by decide +kernel
theorem dX10_pond_23 : decode cX10_pond 23 = .ok (.goto 8, 3) := by decide +kernel
theorem dX10_pond_26 : decode cX10_pond 26 = .ok (.aload_n 0, 1) := by decide +kernel
theorem dX10_pond_27 : decode cX10_pond 27 = .ok (.iconst 1, 1) := by decide +kernel
theorem dX10_pond_28 : decode cX10_pond 28 = .ok (.invokevirtual 36, 3) := by decide +kernel
theorem dX10_pond_31 : decode cX10_pond 31 = .ok (.ireturn, 1) := by decide +kernel
theorem dX10_ofOwner_0 : decode cX10_ofOwner 0 = .ok (.aload_n 0, 1) := by decide +kernel
theorem dX10_ofOwner_1 : decode cX10_ofOwner 1 = .ok (.iconst 0, 1) := by decide +kernel
theorem dX10_ofOwner_2 : decode cX10_ofOwner 2 = .ok (.putfield 16, 3) := by decide +kernel
theorem dX10_ofOwner_5 : decode cX10_ofOwner 5 = .ok (.iload_n 1, 1) := by decide +kernel
theorem dX10_ofOwner_6 : decode cX10_ofOwner 6 = .ok (.iconst 0, 1) := by decide +kernel
theorem dX10_ofOwner_7 : decode cX10_ofOwner 7 = .ok (.iconst 1, 1) := by decide +kernel
theorem dX10_ofOwner_8 : decode cX10_ofOwner 8 = .ok (.invokestatic 23, 3) := by decide +kernel
theorem dX10_ofOwner_11 : decode cX10_ofOwner 11 = .ok (.ifCond .ne 9, 3) := by decide +kernel
theorem dX10_ofOwner_14 : decode cX10_ofOwner 14 = .ok (.aload_n 0, 1) := by decide +kernel
theorem dX10_ofOwner_15 : decode cX10_ofOwner 15 = .ok (.iconst 1, 1) := by decide +kernel
theorem dX10_ofOwner_16 : decode cX10_ofOwner 16 = .ok (.invokevirtual 36, 3) := by decide +kernel
theorem dX10_ofOwner_19 : decode cX10_ofOwner 19 = .ok (.ireturn, 1) := by decide +kernel
theorem dX10_ofOwner_20 : decode cX10_ofOwner 20 = .ok (.iload_n 2, 1) := by decide +kernel
theorem dX10_ofOwner_21 : decode cX10_ofOwner 21 = .ok (.iconst 0, 1) := by decide +kernel
theorem dX10_ofOwner_22 : decode cX10_ofOwner 22 = .ok (.iconst 1, 1) := by decide +kernel
theorem dX10_ofOwner_23 : decode cX10_ofOwner 23 = .ok (.invokestatic 23, 3) := by decide +kernel
theorem dX10_ofOwner_26 : decode cX10_ofOwner 26 = .ok (.ifCond .eq 30, 3) := by decide +kernel
theorem dX10_ofOwner_29 : decode cX10_ofOwner 29 = .ok (.iload_n 2, 1) := by decide +kernel
theorem dX10_ofOwner_30 : decode cX10_ofOwner 30 = .ok (.ifCond .ne 15, 3) := by decide +kernel
theorem dX10_ofOwner_33 : decode cX10_ofOwner 33 = .ok (.aload_n 0, 1) := by decide +kernel
theorem dX10_ofOwner_34 : decode cX10_ofOwner 34 = .ok (.getfield 10, 3) := by decide +kernel
theorem dX10_ofOwner_37 : decode cX10_ofOwner 37 = .ok (.getfield 64, 3) := by decide +kernel
theorem dX10_ofOwner_40 : decode cX10_ofOwner 40 = .ok (.iload_n 1, 1) := by decide +kernel
theorem dX10_ofOwner_41 : decode cX10_ofOwner 41 = .ok (.iaload, 1) := by decide +kernel
theorem dX10_ofOwner_42 : decode cX10_ofOwner 42 = .ok (.goto 19, 3) := by decide +kernel
theorem dX10_ofOwner_45 : decode cX10_ofOwner 45 = .ok (.aload_n 0, 1) := by decide +kernel
theorem dX10_ofOwner_46 : decode cX10_ofOwner 46 = .ok (.getfield 10, 3) := by decide +kernel
theorem dX10_ofOwner_49 : decode cX10_ofOwner 49 = .ok (.iload_n 1, 1) := by decide +kernel
theorem dX10_ofOwner_50 : decode cX10_ofOwner 50 = .ok (.invokevirtual 103, 3) := by decide +kernel
theorem dX10_ofOwner_53 : decode cX10_ofOwner 53 = .ok (.goto 8, 3) := by decide +kernel
theorem dX10_ofOwner_56 : decode cX10_ofOwner 56 = .ok (.aload_n 0, 1) := by decide +kernel
theorem dX10_ofOwner_57 : decode cX10_ofOwner 57 = .ok (.iconst 2, 1) := by decide +kernel
theorem dX10_ofOwner_58 : decode cX10_ofOwner 58 = .ok (.invokevirtual 36, 3) := by decide +kernel
theorem dX10_ofOwner_61 : decode cX10_ofOwner 61 = .ok (.ireturn, 1) := by decide +kernel
theorem dX10_massNow_0 : decode cX10_massNow 0 = .ok (.bipush 7, 2) := by decide +kernel
theorem dX10_massNow_2 : decode cX10_massNow 2 = .ok (.newarray .int, 2) := by decide +kernel
theorem dX10_massNow_4 : decode cX10_massNow 4 = .ok (.dup, 1) := by decide +kernel
theorem dX10_massNow_5 : decode cX10_massNow 5 = .ok (.iconst 0, 1) := by decide +kernel
theorem dX10_massNow_6 : decode cX10_massNow 6 = .ok (.aload_n 0, 1) := by decide +kernel
theorem dX10_massNow_7 : decode cX10_massNow 7 = .ok (.getfield 10, 3) := by decide +kernel
theorem dX10_massNow_10 : decode cX10_massNow 10 = .ok (.getfield 44, 3) := by decide +kernel
theorem dX10_massNow_13 : decode cX10_massNow 13 = .ok (.iconst 0, 1) := by decide +kernel
theorem dX10_massNow_14 : decode cX10_massNow 14 = .ok (.iaload, 1) := by decide +kernel
theorem dX10_massNow_15 : decode cX10_massNow 15 = .ok (.iastore, 1) := by decide +kernel
theorem dX10_massNow_16 : decode cX10_massNow 16 = .ok (.dup, 1) := by decide +kernel
theorem dX10_massNow_17 : decode cX10_massNow 17 = .ok (.iconst 1, 1) := by decide +kernel
theorem dX10_massNow_18 : decode cX10_massNow 18 = .ok (.aload_n 0, 1) := by decide +kernel
theorem dX10_massNow_19 : decode cX10_massNow 19 = .ok (.getfield 10, 3) := by decide +kernel
theorem dX10_massNow_22 : decode cX10_massNow 22 = .ok (.iconst 0, 1) := by decide +kernel
theorem dX10_massNow_23 : decode cX10_massNow 23 = .ok (.invokevirtual 106, 3) := by decide +kernel
theorem dX10_massNow_26 : decode cX10_massNow 26 = .ok (.iastore, 1) := by decide +kernel
theorem dX10_massNow_27 : decode cX10_massNow 27 = .ok (.dup, 1) := by decide +kernel
theorem dX10_massNow_28 : decode cX10_massNow 28 = .ok (.iconst 2, 1) := by decide +kernel
theorem dX10_massNow_29 : decode cX10_massNow 29 = .ok (.aload_n 0, 1) := by decide +kernel
theorem dX10_massNow_30 : decode cX10_massNow 30 = .ok (.getfield 10, 3) := by decide +kernel
theorem dX10_massNow_33 : decode cX10_massNow 33 = .ok (.getfield 100, 3) := by decide +kernel
theorem dX10_massNow_36 : decode cX10_massNow 36 = .ok (.iconst 0, 1) := by decide +kernel
theorem dX10_massNow_37 : decode cX10_massNow 37 = .ok (.iaload, 1) := by decide +kernel
theorem dX10_massNow_38 : decode cX10_massNow 38 = .ok (.iastore, 1) := by decide +kernel
theorem dX10_massNow_39 : decode cX10_massNow 39 = .ok (.dup, 1) := by decide +kernel
theorem dX10_massNow_40 : decode cX10_massNow 40 = .ok (.iconst 3, 1) := by decide +kernel
theorem dX10_massNow_41 : decode cX10_massNow 41 = .ok (.aload_n 0, 1) := by decide +kernel
theorem dX10_massNow_42 : decode cX10_massNow 42 = .ok (.getfield 10, 3) := by decide +kernel
theorem dX10_massNow_45 : decode cX10_massNow 45 = .ok (.getfield 109, 3) := by decide +kernel
theorem dX10_massNow_48 : decode cX10_massNow 48 = .ok (.iastore, 1) := by decide +kernel
theorem dX10_massNow_49 : decode cX10_massNow 49 = .ok (.dup, 1) := by decide +kernel
theorem dX10_massNow_50 : decode cX10_massNow 50 = .ok (.iconst 4, 1) := by decide +kernel
theorem dX10_massNow_51 : decode cX10_massNow 51 = .ok (.aload_n 0, 1) := by decide +kernel
theorem dX10_massNow_52 : decode cX10_massNow 52 = .ok (.getfield 10, 3) := by decide +kernel
theorem dX10_massNow_55 : decode cX10_massNow 55 = .ok (.getfield 112, 3) := by decide +kernel
theorem dX10_massNow_58 : decode cX10_massNow 58 = .ok (.iastore, 1) := by decide +kernel
theorem dX10_massNow_59 : decode cX10_massNow 59 = .ok (.dup, 1) := by decide +kernel
theorem dX10_massNow_60 : decode cX10_massNow 60 = .ok (.iconst 5, 1) := by decide +kernel
theorem dX10_massNow_61 : decode cX10_massNow 61 = .ok (.aload_n 0, 1) := by decide +kernel
theorem dX10_massNow_62 : decode cX10_massNow 62 = .ok (.getfield 10, 3) := by decide +kernel
theorem dX10_massNow_65 : decode cX10_massNow 65 = .ok (.getfield 115, 3) := by decide +kernel
theorem dX10_massNow_68 : decode cX10_massNow 68 = .ok (.iconst 0, 1) := by decide +kernel
theorem dX10_massNow_69 : decode cX10_massNow 69 = .ok (.iaload, 1) := by decide +kernel
theorem dX10_massNow_70 : decode cX10_massNow 70 = .ok (.iastore, 1) := by decide +kernel
theorem dX10_massNow_71 : decode cX10_massNow 71 = .ok (.dup, 1) := by decide +kernel
theorem dX10_massNow_72 : decode cX10_massNow 72 = .ok (.bipush 6, 2) := by decide +kernel
theorem dX10_massNow_74 : decode cX10_massNow 74 = .ok (.aload_n 0, 1) := by decide +kernel
theorem dX10_massNow_75 : decode cX10_massNow 75 = .ok (.getfield 10, 3) := by decide +kernel
theorem dX10_massNow_78 : decode cX10_massNow 78 = .ok (.getfield 118, 3) := by decide +kernel
theorem dX10_massNow_81 : decode cX10_massNow 81 = .ok (.iconst 0, 1) := by decide +kernel
theorem dX10_massNow_82 : decode cX10_massNow 82 = .ok (.iaload, 1) := by decide +kernel
theorem dX10_massNow_83 : decode cX10_massNow 83 = .ok (.iastore, 1) := by decide +kernel
theorem dX10_massNow_84 : decode cX10_massNow 84 = .ok (.astore_n 2, 1) := by decide +kernel
theorem dX10_massNow_85 : decode cX10_massNow 85 = .ok (.aload_n 2, 1) := by decide +kernel
theorem dX10_massNow_86 : decode cX10_massNow 86 = .ok (.iload_n 1, 1) := by decide +kernel
theorem dX10_massNow_87 : decode cX10_massNow 87 = .ok (.iaload, 1) := by decide +kernel
theorem dX10_massNow_88 : decode cX10_massNow 88 = .ok (.ireturn, 1) := by decide +kernel
theorem dX10_mass_0 : decode cX10_mass 0 = .ok (.aload_n 0, 1) := by decide +kernel
theorem dX10_mass_1 : decode cX10_mass 1 = .ok (.iconst 0, 1) := by decide +kernel
theorem dX10_mass_2 : decode cX10_mass 2 = .ok (.putfield 16, 3) := by decide +kernel
theorem dX10_mass_5 : decode cX10_mass 5 = .ok (.iload_n 1, 1) := by decide +kernel
theorem dX10_mass_6 : decode cX10_mass 6 = .ok (.iconst 0, 1) := by decide +kernel
theorem dX10_mass_7 : decode cX10_mass 7 = .ok (.bipush 6, 2) := by decide +kernel
theorem dX10_mass_9 : decode cX10_mass 9 = .ok (.invokestatic 23, 3) := by decide +kernel
theorem dX10_mass_12 : decode cX10_mass 12 = .ok (.ifCond .eq 11, 3) := by decide +kernel
theorem dX10_mass_15 : decode cX10_mass 15 = .ok (.aload_n 0, 1) := by decide +kernel
theorem dX10_mass_16 : decode cX10_mass 16 = .ok (.iload_n 1, 1) := by decide +kernel
theorem dX10_mass_17 : decode cX10_mass 17 = .ok (.invokevirtual 121, 3) := by decide +kernel
theorem dX10_mass_20 : decode cX10_mass 20 = .ok (.goto 8, 3) := by decide +kernel
theorem dX10_mass_23 : decode cX10_mass 23 = .ok (.aload_n 0, 1) := by decide +kernel
theorem dX10_mass_24 : decode cX10_mass 24 = .ok (.iconst 1, 1) := by decide +kernel
theorem dX10_mass_25 : decode cX10_mass 25 = .ok (.invokevirtual 36, 3) := by decide +kernel
theorem dX10_mass_28 : decode cX10_mass 28 = .ok (.ireturn, 1) := by decide +kernel
theorem dX10_isClosedNow_0 : decode cX10_isClosedNow 0 = .ok (.iconst 0, 1) := by decide +kernel
theorem dX10_isClosedNow_1 : decode cX10_isClosedNow 1 = .ok (.istore_n 1, 1) := by decide +kernel
theorem dX10_isClosedNow_2 : decode cX10_isClosedNow 2 = .ok (.iconst 1, 1) := by decide +kernel
theorem dX10_isClosedNow_3 : decode cX10_isClosedNow 3 = .ok (.istore_n 2, 1) := by decide +kernel
theorem dX10_isClosedNow_4 : decode cX10_isClosedNow 4 = .ok (.iload_n 2, 1) := by decide +kernel
theorem dX10_isClosedNow_5 : decode cX10_isClosedNow 5 = .ok (.bipush 7, 2) := by decide +kernel
theorem dX10_isClosedNow_7 : decode cX10_isClosedNow 7 = .ok (.if_icmp .ge 17, 3) := by decide +kernel
theorem dX10_isClosedNow_10 : decode cX10_isClosedNow 10 = .ok (.iload_n 1, 1) := by decide +kernel
theorem dX10_isClosedNow_11 : decode cX10_isClosedNow 11 = .ok (.aload_n 0, 1) := by decide +kernel
theorem dX10_isClosedNow_12 : decode cX10_isClosedNow 12 = .ok (.iload_n 2, 1) := by decide +kernel
theorem dX10_isClosedNow_13 : decode cX10_isClosedNow 13 = .ok (.invokevirtual 121, 3) := by decide +kernel
theorem dX10_isClosedNow_16 : decode cX10_isClosedNow 16 = .ok (.iadd, 1) := by decide +kernel
theorem dX10_isClosedNow_17 : decode cX10_isClosedNow 17 = .ok (.istore_n 1, 1) := by decide +kernel
theorem dX10_isClosedNow_18 : decode cX10_isClosedNow 18 = .ok (.iinc 2 1, 3) := by decide +kernel
theorem dX10_isClosedNow_21 : decode cX10_isClosedNow 21 = .ok (.goto (-17), 3) := by decide +kernel
theorem dX10_isClosedNow_24 : decode cX10_isClosedNow 24 = .ok (.iload_n 1, 1) := by decide +kernel
theorem dX10_isClosedNow_25 : decode cX10_isClosedNow 25 = .ok (.aload_n 0, 1) := by decide +kernel
theorem dX10_isClosedNow_26 : decode cX10_isClosedNow 26 = .ok (.iconst 0, 1) := by decide +kernel
theorem dX10_isClosedNow_27 : decode cX10_isClosedNow 27 = .ok (.invokevirtual 121, 3) := by decide +kernel
theorem dX10_isClosedNow_30 : decode cX10_isClosedNow 30 = .ok (.if_icmp .ne 7, 3) := by decide +kernel
theorem dX10_isClosedNow_33 : decode cX10_isClosedNow 33 = .ok (.iconst 1, 1) := by decide +kernel
theorem dX10_isClosedNow_34 : decode cX10_isClosedNow 34 = .ok (.goto 4, 3) := by decide +kernel
theorem dX10_isClosedNow_37 : decode cX10_isClosedNow 37 = .ok (.iconst 0, 1) := by decide +kernel
theorem dX10_isClosedNow_38 : decode cX10_isClosedNow 38 = .ok (.istore_n 2, 1) := by decide +kernel
theorem dX10_isClosedNow_39 : decode cX10_isClosedNow 39 = .ok (.iconst 2, 1) := by decide +kernel
theorem dX10_isClosedNow_40 : decode cX10_isClosedNow 40 = .ok (.istore_n 3, 1) := by decide +kernel
theorem dX10_isClosedNow_41 : decode cX10_isClosedNow 41 = .ok (.iload_n 3, 1) := by decide +kernel
theorem dX10_isClosedNow_42 : decode cX10_isClosedNow 42 = .ok (.iconst 3, 1) := by decide +kernel
theorem dX10_isClosedNow_43 : decode cX10_isClosedNow 43 = .ok (.if_icmp .gt 67, 3) := by decide +kernel
theorem dX10_isClosedNow_46 : decode cX10_isClosedNow 46 = .ok (.iload_n 2, 1) := by decide +kernel
theorem dX10_isClosedNow_47 : decode cX10_isClosedNow 47 = .ok (.aload_n 0, 1) := by decide +kernel
theorem dX10_isClosedNow_48 : decode cX10_isClosedNow 48 = .ok (.getfield 10, 3) := by decide +kernel
theorem dX10_isClosedNow_51 : decode cX10_isClosedNow 51 = .ok (.getfield 44, 3) := by decide +kernel
theorem dX10_isClosedNow_54 : decode cX10_isClosedNow 54 = .ok (.iload_n 3, 1) := by decide +kernel
theorem dX10_isClosedNow_55 : decode cX10_isClosedNow 55 = .ok (.iaload, 1) := by decide +kernel
theorem dX10_isClosedNow_56 : decode cX10_isClosedNow 56 = .ok (.aload_n 0, 1) := by decide +kernel
theorem dX10_isClosedNow_57 : decode cX10_isClosedNow 57 = .ok (.getfield 10, 3) := by decide +kernel
theorem dX10_isClosedNow_60 : decode cX10_isClosedNow 60 = .ok (.iload_n 3, 1) := by decide +kernel
theorem dX10_isClosedNow_61 : decode cX10_isClosedNow 61 = .ok (.invokevirtual 106, 3) := by decide +kernel
theorem dX10_isClosedNow_64 : decode cX10_isClosedNow 64 = .ok (.aload_n 0, 1) := by decide +kernel
theorem dX10_isClosedNow_65 : decode cX10_isClosedNow 65 = .ok (.getfield 10, 3) := by decide +kernel
theorem dX10_isClosedNow_68 : decode cX10_isClosedNow 68 = .ok (.getfield 100, 3) := by decide +kernel
theorem dX10_isClosedNow_71 : decode cX10_isClosedNow 71 = .ok (.iload_n 3, 1) := by decide +kernel
theorem dX10_isClosedNow_72 : decode cX10_isClosedNow 72 = .ok (.iaload, 1) := by decide +kernel
theorem dX10_isClosedNow_73 : decode cX10_isClosedNow 73 = .ok (.iadd, 1) := by decide +kernel
theorem dX10_isClosedNow_74 : decode cX10_isClosedNow 74 = .ok (.aload_n 0, 1) := by decide +kernel
theorem dX10_isClosedNow_75 : decode cX10_isClosedNow 75 = .ok (.getfield 10, 3) := by decide +kernel
theorem dX10_isClosedNow_78 : decode cX10_isClosedNow 78 = .ok (.getfield 115, 3) := by decide +kernel
theorem dX10_isClosedNow_81 : decode cX10_isClosedNow 81 = .ok (.iload_n 3, 1) := by decide +kernel
theorem dX10_isClosedNow_82 : decode cX10_isClosedNow 82 = .ok (.iaload, 1) := by decide +kernel
theorem dX10_isClosedNow_83 : decode cX10_isClosedNow 83 = .ok (.iadd, 1) := by decide +kernel
theorem dX10_isClosedNow_84 : decode cX10_isClosedNow 84 = .ok (.aload_n 0, 1) := by decide +kernel
theorem dX10_isClosedNow_85 : decode cX10_isClosedNow 85 = .ok (.getfield 10, 3) := by decide +kernel
theorem dX10_isClosedNow_88 : decode cX10_isClosedNow 88 = .ok (.getfield 118, 3) := by decide +kernel
theorem dX10_isClosedNow_91 : decode cX10_isClosedNow 91 = .ok (.iload_n 3, 1) := by decide +kernel
theorem dX10_isClosedNow_92 : decode cX10_isClosedNow 92 = .ok (.iaload, 1) := by decide +kernel
theorem dX10_isClosedNow_93 : decode cX10_isClosedNow 93 = .ok (.iadd, 1) := by decide +kernel
theorem dX10_isClosedNow_94 : decode cX10_isClosedNow 94 = .ok (.if_icmp .ne 7, 3) := by decide +kernel
theorem dX10_isClosedNow_97 : decode cX10_isClosedNow 97 = .ok (.iconst 1, 1) := by decide +kernel
theorem dX10_isClosedNow_98 : decode cX10_isClosedNow 98 = .ok (.goto 4, 3) := by decide +kernel
theorem dX10_isClosedNow_101 : decode cX10_isClosedNow 101 = .ok (.iconst 0, 1) := by decide +kernel
theorem dX10_isClosedNow_102 : decode cX10_isClosedNow 102 = .ok (.iand, 1) := by decide +kernel
theorem dX10_isClosedNow_103 : decode cX10_isClosedNow 103 = .ok (.istore_n 2, 1) := by decide +kernel
theorem dX10_isClosedNow_104 : decode cX10_isClosedNow 104 = .ok (.iinc 3 1, 3) := by decide +kernel
theorem dX10_isClosedNow_107 : decode cX10_isClosedNow 107 = .ok (.goto (-66), 3) := by decide +kernel
theorem dX10_isClosedNow_110 : decode cX10_isClosedNow 110 = .ok (.iload_n 2, 1) := by decide +kernel
theorem dX10_isClosedNow_111 : decode cX10_isClosedNow 111 = .ok (.ireturn, 1) := by decide +kernel
theorem dX10_isClosed_0 : decode cX10_isClosed 0 = .ok (.aload_n 0, 1) := by decide +kernel
theorem dX10_isClosed_1 : decode cX10_isClosed 1 = .ok (.iconst 0, 1) := by decide +kernel
theorem dX10_isClosed_2 : decode cX10_isClosed 2 = .ok (.putfield 16, 3) := by decide +kernel
theorem dX10_isClosed_5 : decode cX10_isClosed 5 = .ok (.aload_n 0, 1) := by decide +kernel
theorem dX10_isClosed_6 : decode cX10_isClosed 6 = .ok (.invokevirtual 124, 3) := by decide +kernel
theorem dX10_isClosed_9 : decode cX10_isClosed 9 = .ok (.ireturn, 1) := by decide +kernel
theorem dX10_manyNow_0 : decode cX10_manyNow 0 = .ok (.bipush 13, 2) := by decide +kernel
theorem dX10_manyNow_2 : decode cX10_manyNow 2 = .ok (.newarray .int, 2) := by decide +kernel
theorem dX10_manyNow_4 : decode cX10_manyNow 4 = .ok (.dup, 1) := by decide +kernel
theorem dX10_manyNow_5 : decode cX10_manyNow 5 = .ok (.iconst 0, 1) := by decide +kernel
theorem dX10_manyNow_6 : decode cX10_manyNow 6 = .ok (.aload_n 0, 1) := by decide +kernel
theorem dX10_manyNow_7 : decode cX10_manyNow 7 = .ok (.getfield 10, 3) := by decide +kernel
theorem dX10_manyNow_10 : decode cX10_manyNow 10 = .ok (.getfield 20, 3) := by decide +kernel
theorem dX10_manyNow_13 : decode cX10_manyNow 13 = .ok (.iastore, 1) := by decide +kernel
theorem dX10_manyNow_14 : decode cX10_manyNow 14 = .ok (.dup, 1) := by decide +kernel
theorem dX10_manyNow_15 : decode cX10_manyNow 15 = .ok (.iconst 1, 1) := by decide +kernel
theorem dX10_manyNow_16 : decode cX10_manyNow 16 = .ok (.aload_n 0, 1) := by decide +kernel
theorem dX10_manyNow_17 : decode cX10_manyNow 17 = .ok (.getfield 10, 3) := by decide +kernel
theorem dX10_manyNow_20 : decode cX10_manyNow 20 = .ok (.getfield 27, 3) := by decide +kernel
theorem dX10_manyNow_23 : decode cX10_manyNow 23 = .ok (.iastore, 1) := by decide +kernel
theorem dX10_manyNow_24 : decode cX10_manyNow 24 = .ok (.dup, 1) := by decide +kernel
theorem dX10_manyNow_25 : decode cX10_manyNow 25 = .ok (.iconst 2, 1) := by decide +kernel
theorem dX10_manyNow_26 : decode cX10_manyNow 26 = .ok (.aload_n 0, 1) := by decide +kernel
theorem dX10_manyNow_27 : decode cX10_manyNow 27 = .ok (.getfield 10, 3) := by decide +kernel
theorem dX10_manyNow_30 : decode cX10_manyNow 30 = .ok (.getfield 30, 3) := by decide +kernel
theorem dX10_manyNow_33 : decode cX10_manyNow 33 = .ok (.iastore, 1) := by decide +kernel
theorem dX10_manyNow_34 : decode cX10_manyNow 34 = .ok (.dup, 1) := by decide +kernel
theorem dX10_manyNow_35 : decode cX10_manyNow 35 = .ok (.iconst 3, 1) := by decide +kernel
theorem dX10_manyNow_36 : decode cX10_manyNow 36 = .ok (.aload_n 0, 1) := by decide +kernel
theorem dX10_manyNow_37 : decode cX10_manyNow 37 = .ok (.getfield 10, 3) := by decide +kernel
theorem dX10_manyNow_40 : decode cX10_manyNow 40 = .ok (.getfield 33, 3) := by decide +kernel
theorem dX10_manyNow_43 : decode cX10_manyNow 43 = .ok (.iastore, 1) := by decide +kernel
theorem dX10_manyNow_44 : decode cX10_manyNow 44 = .ok (.dup, 1) := by decide +kernel
theorem dX10_manyNow_45 : decode cX10_manyNow 45 = .ok (.iconst 4, 1) := by decide +kernel
theorem dX10_manyNow_46 : decode cX10_manyNow 46 = .ok (.aload_n 0, 1) := by decide +kernel
theorem dX10_manyNow_47 : decode cX10_manyNow 47 = .ok (.getfield 10, 3) := by decide +kernel
theorem dX10_manyNow_50 : decode cX10_manyNow 50 = .ok (.getfield 128, 3) := by decide +kernel
theorem dX10_manyNow_53 : decode cX10_manyNow 53 = .ok (.iastore, 1) := by decide +kernel
theorem dX10_manyNow_54 : decode cX10_manyNow 54 = .ok (.dup, 1) := by decide +kernel
theorem dX10_manyNow_55 : decode cX10_manyNow 55 = .ok (.iconst 5, 1) := by decide +kernel
theorem dX10_manyNow_56 : decode cX10_manyNow 56 = .ok (.aload_n 0, 1) := by decide +kernel
theorem dX10_manyNow_57 : decode cX10_manyNow 57 = .ok (.getfield 10, 3) := by decide +kernel
theorem dX10_manyNow_60 : decode cX10_manyNow 60 = .ok (.invokevirtual 131, 3) := by decide +kernel
theorem dX10_manyNow_63 : decode cX10_manyNow 63 = .ok (.iastore, 1) := by decide +kernel
theorem dX10_manyNow_64 : decode cX10_manyNow 64 = .ok (.dup, 1) := by decide +kernel
theorem dX10_manyNow_65 : decode cX10_manyNow 65 = .ok (.bipush 6, 2) := by decide +kernel
theorem dX10_manyNow_67 : decode cX10_manyNow 67 = .ok (.aload_n 0, 1) := by decide +kernel
theorem dX10_manyNow_68 : decode cX10_manyNow 68 = .ok (.getfield 10, 3) := by decide +kernel
theorem dX10_manyNow_71 : decode cX10_manyNow 71 = .ok (.getfield 135, 3) := by decide +kernel
theorem dX10_manyNow_74 : decode cX10_manyNow 74 = .ok (.aload_n 0, 1) := by decide +kernel
theorem dX10_manyNow_75 : decode cX10_manyNow 75 = .ok (.getfield 10, 3) := by decide +kernel
theorem dX10_manyNow_78 : decode cX10_manyNow 78 = .ok (.getfield 128, 3) := by decide +kernel
theorem dX10_manyNow_81 : decode cX10_manyNow 81 = .ok (.iconst 4, 1) := by decide +kernel
theorem dX10_manyNow_82 : decode cX10_manyNow 82 = .ok (.irem, 1) := by decide +kernel
theorem dX10_manyNow_83 : decode cX10_manyNow 83 = .ok (.iaload, 1) := by decide +kernel
theorem dX10_manyNow_84 : decode cX10_manyNow 84 = .ok (.iastore, 1) := by decide +kernel
theorem dX10_manyNow_85 : decode cX10_manyNow 85 = .ok (.dup, 1) := by decide +kernel
theorem dX10_manyNow_86 : decode cX10_manyNow 86 = .ok (.bipush 7, 2) := by decide +kernel
theorem dX10_manyNow_88 : decode cX10_manyNow 88 = .ok (.aload_n 0, 1) := by decide +kernel
theorem dX10_manyNow_89 : decode cX10_manyNow 89 = .ok (.getfield 10, 3) := by decide +kernel
theorem dX10_manyNow_92 : decode cX10_manyNow 92 = .ok (.getfield 70, 3) := by decide +kernel
theorem dX10_manyNow_95 : decode cX10_manyNow 95 = .ok (.ifCond .eq 7, 3) := by decide +kernel
theorem dX10_manyNow_98 : decode cX10_manyNow 98 = .ok (.iconst 1, 1) := by decide +kernel
theorem dX10_manyNow_99 : decode cX10_manyNow 99 = .ok (.goto 4, 3) := by decide +kernel
theorem dX10_manyNow_102 : decode cX10_manyNow 102 = .ok (.iconst 0, 1) := by decide +kernel
theorem dX10_manyNow_103 : decode cX10_manyNow 103 = .ok (.iastore, 1) := by decide +kernel
theorem dX10_manyNow_104 : decode cX10_manyNow 104 = .ok (.dup, 1) := by decide +kernel
theorem dX10_manyNow_105 : decode cX10_manyNow 105 = .ok (.bipush 8, 2) := by decide +kernel
theorem dX10_manyNow_107 : decode cX10_manyNow 107 = .ok (.aload_n 0, 1) := by decide +kernel
theorem dX10_manyNow_108 : decode cX10_manyNow 108 = .ok (.getfield 10, 3) := by decide +kernel
theorem dX10_manyNow_111 : decode cX10_manyNow 111 = .ok (.getfield 67, 3) := by decide +kernel
theorem dX10_manyNow_114 : decode cX10_manyNow 114 = .ok (.iastore, 1) := by decide +kernel
theorem dX10_manyNow_115 : decode cX10_manyNow 115 = .ok (.dup, 1) := by decide +kernel
theorem dX10_manyNow_116 : decode cX10_manyNow 116 = .ok (.bipush 9, 2) := by decide +kernel
theorem dX10_manyNow_118 : decode cX10_manyNow 118 = .ok (.aload_n 0, 1) := by decide +kernel
theorem dX10_manyNow_119 : decode cX10_manyNow 119 = .ok (.getfield 10, 3) := by decide +kernel
theorem dX10_manyNow_122 : decode cX10_manyNow 122 = .ok (.getfield 138, 3) := by decide +kernel
theorem dX10_manyNow_125 : decode cX10_manyNow 125 = .ok (.iastore, 1) := by decide +kernel
theorem dX10_manyNow_126 : decode cX10_manyNow 126 = .ok (.dup, 1) := by decide +kernel
theorem dX10_manyNow_127 : decode cX10_manyNow 127 = .ok (.bipush 10, 2) := by decide +kernel
theorem dX10_manyNow_129 : decode cX10_manyNow 129 = .ok (.aload_n 0, 1) := by decide +kernel
theorem dX10_manyNow_130 : decode cX10_manyNow 130 = .ok (.getfield 10, 3) := by decide +kernel
theorem dX10_manyNow_133 : decode cX10_manyNow 133 = .ok (.getfield 141, 3) := by decide +kernel
theorem dX10_manyNow_136 : decode cX10_manyNow 136 = .ok (.iastore, 1) := by decide +kernel
theorem dX10_manyNow_137 : decode cX10_manyNow 137 = .ok (.dup, 1) := by decide +kernel
theorem dX10_manyNow_138 : decode cX10_manyNow 138 = .ok (.bipush 11, 2) := by decide +kernel
theorem dX10_manyNow_140 : decode cX10_manyNow 140 = .ok (.aload_n 0, 1) := by decide +kernel
theorem dX10_manyNow_141 : decode cX10_manyNow 141 = .ok (.getfield 10, 3) := by decide +kernel
theorem dX10_manyNow_144 : decode cX10_manyNow 144 = .ok (.getfield 144, 3) := by decide +kernel
theorem dX10_manyNow_147 : decode cX10_manyNow 147 = .ok (.iastore, 1) := by decide +kernel
theorem dX10_manyNow_148 : decode cX10_manyNow 148 = .ok (.dup, 1) := by decide +kernel
theorem dX10_manyNow_149 : decode cX10_manyNow 149 = .ok (.bipush 12, 2) := by decide +kernel
theorem dX10_manyNow_151 : decode cX10_manyNow 151 = .ok (.aload_n 0, 1) := by decide +kernel
theorem dX10_manyNow_152 : decode cX10_manyNow 152 = .ok (.getfield 10, 3) := by decide +kernel
theorem dX10_manyNow_155 : decode cX10_manyNow 155 = .ok (.invokevirtual 147, 3) := by decide +kernel
theorem dX10_manyNow_158 : decode cX10_manyNow 158 = .ok (.iastore, 1) := by decide +kernel
theorem dX10_manyNow_159 : decode cX10_manyNow 159 = .ok (.astore_n 2, 1) := by decide +kernel
theorem dX10_manyNow_160 : decode cX10_manyNow 160 = .ok (.aload_n 2, 1) := by decide +kernel
theorem dX10_manyNow_161 : decode cX10_manyNow 161 = .ok (.iload_n 1, 1) := by decide +kernel
theorem dX10_manyNow_162 : decode cX10_manyNow 162 = .ok (.iaload, 1) := by decide +kernel
theorem dX10_manyNow_163 : decode cX10_manyNow 163 = .ok (.ireturn, 1) := by decide +kernel
theorem dX10_many_0 : decode cX10_many 0 = .ok (.aload_n 0, 1) := by decide +kernel
theorem dX10_many_1 : decode cX10_many 1 = .ok (.iconst 0, 1) := by decide +kernel
theorem dX10_many_2 : decode cX10_many 2 = .ok (.putfield 16, 3) := by decide +kernel
theorem dX10_many_5 : decode cX10_many 5 = .ok (.iload_n 1, 1) := by decide +kernel
theorem dX10_many_6 : decode cX10_many 6 = .ok (.iconst 0, 1) := by decide +kernel
theorem dX10_many_7 : decode cX10_many 7 = .ok (.bipush 12, 2) := by decide +kernel
theorem dX10_many_9 : decode cX10_many 9 = .ok (.invokestatic 23, 3) := by decide +kernel
theorem dX10_many_12 : decode cX10_many 12 = .ok (.ifCond .eq 11, 3) := by decide +kernel
theorem dX10_many_15 : decode cX10_many 15 = .ok (.aload_n 0, 1) := by decide +kernel
theorem dX10_many_16 : decode cX10_many 16 = .ok (.iload_n 1, 1) := by decide +kernel
theorem dX10_many_17 : decode cX10_many 17 = .ok (.invokevirtual 150, 3) := by decide +kernel
theorem dX10_many_20 : decode cX10_many 20 = .ok (.goto 8, 3) := by decide +kernel
theorem dX10_many_23 : decode cX10_many 23 = .ok (.aload_n 0, 1) := by decide +kernel
theorem dX10_many_24 : decode cX10_many 24 = .ok (.iconst 1, 1) := by decide +kernel
theorem dX10_many_25 : decode cX10_many 25 = .ok (.invokevirtual 36, 3) := by decide +kernel
theorem dX10_many_28 : decode cX10_many 28 = .ok (.ireturn, 1) := by decide +kernel
theorem dX10_meanWarmth_0 : decode cX10_meanWarmth 0 = .ok (.aload_n 0, 1) := by decide +kernel
theorem dX10_meanWarmth_1 : decode cX10_meanWarmth 1 = .ok (.iconst 0, 1) := by decide +kernel
theorem dX10_meanWarmth_2 : decode cX10_meanWarmth 2 = .ok (.putfield 16, 3) := by decide +kernel
theorem dX10_meanWarmth_5 : decode cX10_meanWarmth 5 = .ok (.iconst 0, 1) := by decide +kernel
theorem dX10_meanWarmth_6 : decode cX10_meanWarmth 6 = .ok (.istore_n 1, 1) := by decide +kernel
theorem dX10_meanWarmth_7 : decode cX10_meanWarmth 7 = .ok (.iconst 0, 1) := by decide +kernel
theorem dX10_meanWarmth_8 : decode cX10_meanWarmth 8 = .ok (.istore_n 2, 1) := by decide +kernel
theorem dX10_meanWarmth_9 : decode cX10_meanWarmth 9 = .ok (.iconst 0, 1) := by decide +kernel
theorem dX10_meanWarmth_10 : decode cX10_meanWarmth 10 = .ok (.istore_n 3, 1) := by decide +kernel
theorem dX10_meanWarmth_11 : decode cX10_meanWarmth 11 = .ok (.iload_n 3, 1) := by decide +kernel
theorem dX10_meanWarmth_12 : decode cX10_meanWarmth 12 = .ok (.aload_n 0, 1) := by decide +kernel
theorem dX10_meanWarmth_13 : decode cX10_meanWarmth 13 = .ok (.getfield 10, 3) := by decide +kernel
theorem dX10_meanWarmth_16 : decode cX10_meanWarmth 16 = .ok (.getfield 20, 3) := by decide +kernel
theorem dX10_meanWarmth_19 : decode cX10_meanWarmth 19 = .ok (.if_icmp .ge 44, 3) := by decide +kernel
theorem dX10_meanWarmth_22 : decode cX10_meanWarmth 22 = .ok (.iload_n 1, 1) := by decide +kernel
theorem dX10_meanWarmth_23 : decode cX10_meanWarmth 23 = .ok (.aload_n 0, 1) := by decide +kernel
theorem dX10_meanWarmth_24 : decode cX10_meanWarmth 24 = .ok (.iload_n 3, 1) := by decide +kernel
theorem dX10_meanWarmth_25 : decode cX10_meanWarmth 25 = .ok (.iconst 5, 1) := by decide +kernel
theorem dX10_meanWarmth_26 : decode cX10_meanWarmth 26 = .ok (.invokevirtual 90, 3) := by decide +kernel
theorem dX10_meanWarmth_29 : decode cX10_meanWarmth 29 = .ok (.aload_n 0, 1) := by decide +kernel
theorem dX10_meanWarmth_30 : decode cX10_meanWarmth 30 = .ok (.getfield 10, 3) := by decide +kernel
theorem dX10_meanWarmth_33 : decode cX10_meanWarmth 33 = .ok (.getfield 40, 3) := by decide +kernel
theorem dX10_meanWarmth_36 : decode cX10_meanWarmth 36 = .ok (.iload_n 3, 1) := by decide +kernel
theorem dX10_meanWarmth_37 : decode cX10_meanWarmth 37 = .ok (.aaload, 1) := by decide +kernel
theorem dX10_meanWarmth_38 : decode cX10_meanWarmth 38 = .ok (.iconst 4, 1) := by decide +kernel
theorem dX10_meanWarmth_39 : decode cX10_meanWarmth 39 = .ok (.iaload, 1) := by decide +kernel
theorem dX10_meanWarmth_40 : decode cX10_meanWarmth 40 = .ok (.imul, 1) := by decide +kernel
theorem dX10_meanWarmth_41 : decode cX10_meanWarmth 41 = .ok (.iadd, 1) := by decide +kernel
theorem dX10_meanWarmth_42 : decode cX10_meanWarmth 42 = .ok (.istore_n 1, 1) := by decide +kernel
theorem dX10_meanWarmth_43 : decode cX10_meanWarmth 43 = .ok (.iload_n 2, 1) := by decide +kernel
theorem dX10_meanWarmth_44 : decode cX10_meanWarmth 44 = .ok (.aload_n 0, 1) := by decide +kernel
theorem dX10_meanWarmth_45 : decode cX10_meanWarmth 45 = .ok (.getfield 10, 3) := by decide +kernel
theorem dX10_meanWarmth_48 : decode cX10_meanWarmth 48 = .ok (.getfield 40, 3) := by decide +kernel
theorem dX10_meanWarmth_51 : decode cX10_meanWarmth 51 = .ok (.iload_n 3, 1) := by decide +kernel
theorem dX10_meanWarmth_52 : decode cX10_meanWarmth 52 = .ok (.aaload, 1) := by decide +kernel
theorem dX10_meanWarmth_53 : decode cX10_meanWarmth 53 = .ok (.iconst 4, 1) := by decide +kernel
theorem dX10_meanWarmth_54 : decode cX10_meanWarmth 54 = .ok (.iaload, 1) := by decide +kernel
theorem dX10_meanWarmth_55 : decode cX10_meanWarmth 55 = .ok (.iadd, 1) := by decide +kernel
theorem dX10_meanWarmth_56 : decode cX10_meanWarmth 56 = .ok (.istore_n 2, 1) := by decide +kernel
theorem dX10_meanWarmth_57 : decode cX10_meanWarmth 57 = .ok (.iinc 3 1, 3) := by decide +kernel
theorem dX10_meanWarmth_60 : decode cX10_meanWarmth 60 = .ok (.goto (-49), 3) := by decide +kernel
theorem dX10_meanWarmth_63 : decode cX10_meanWarmth 63 = .ok (.iload_n 2, 1) := by decide +kernel
theorem dX10_meanWarmth_64 : decode cX10_meanWarmth 64 = .ok (.ifCond .ne 7, 3) := by decide +kernel
theorem dX10_meanWarmth_67 : decode cX10_meanWarmth 67 = .ok (.dconst 0, 1) := by decide +kernel
theorem dX10_meanWarmth_68 : decode cX10_meanWarmth 68 = .ok (.goto 8, 3) := by decide +kernel
theorem dX10_meanWarmth_71 : decode cX10_meanWarmth 71 = .ok (.iload_n 1, 1) := by decide +kernel
theorem dX10_meanWarmth_72 : decode cX10_meanWarmth 72 = .ok (.i2d, 1) := by decide +kernel
theorem dX10_meanWarmth_73 : decode cX10_meanWarmth 73 = .ok (.iload_n 2, 1) := by decide +kernel
theorem dX10_meanWarmth_74 : decode cX10_meanWarmth 74 = .ok (.i2d, 1) := by decide +kernel
theorem dX10_meanWarmth_75 : decode cX10_meanWarmth 75 = .ok (.ddiv, 1) := by decide +kernel
theorem dX10_meanWarmth_76 : decode cX10_meanWarmth 76 = .ok (.dreturn, 1) := by decide +kernel
theorem dX10_wouldGive_0 : decode cX10_wouldGive 0 = .ok (.aload_n 0, 1) := by decide +kernel
theorem dX10_wouldGive_1 : decode cX10_wouldGive 1 = .ok (.iconst 0, 1) := by decide +kernel
theorem dX10_wouldGive_2 : decode cX10_wouldGive 2 = .ok (.putfield 16, 3) := by decide +kernel
theorem dX10_wouldGive_5 : decode cX10_wouldGive 5 = .ok (.iload_n 1, 1) := by decide +kernel
theorem dX10_wouldGive_6 : decode cX10_wouldGive 6 = .ok (.invokestatic 77, 3) := by decide +kernel
theorem dX10_wouldGive_9 : decode cX10_wouldGive 9 = .ok (.ifCond .eq 17, 3) := by decide +kernel
theorem dX10_wouldGive_12 : decode cX10_wouldGive 12 = .ok (.aload_n 0, 1) := by decide +kernel
theorem dX10_wouldGive_13 : decode cX10_wouldGive 13 = .ok (.getfield 10, 3) := by decide +kernel
theorem dX10_wouldGive_16 : decode cX10_wouldGive 16 = .ok (.invokevirtual 153, 3) := by decide +kernel
theorem dX10_wouldGive_19 : decode cX10_wouldGive 19 = .ok (.iload_n 1, 1) := by decide +kernel
theorem dX10_wouldGive_20 : decode cX10_wouldGive 20 = .ok (.invokevirtual 80, 3) := by decide +kernel
theorem dX10_wouldGive_23 : decode cX10_wouldGive 23 = .ok (.goto 8, 3) := by decide +kernel
theorem dX10_wouldGive_26 : decode cX10_wouldGive 26 = .ok (.aload_n 0, 1) := by decide +kernel
theorem dX10_wouldGive_27 : decode cX10_wouldGive 27 = .ok (.iconst 1, 1) := by decide +kernel
theorem dX10_wouldGive_28 : decode cX10_wouldGive 28 = .ok (.invokevirtual 36, 3) := by decide +kernel
theorem dX10_wouldGive_31 : decode cX10_wouldGive 31 = .ok (.ireturn, 1) := by decide +kernel
theorem dX10_coldNow_0 : decode cX10_coldNow 0 = .ok (.aload_n 0, 1) := by decide +kernel
theorem dX10_coldNow_1 : decode cX10_coldNow 1 = .ok (.getfield 10, 3) := by decide +kernel
theorem dX10_coldNow_4 : decode cX10_coldNow 4 = .ok (.invokevirtual 153, 3) := by decide +kernel
theorem dX10_coldNow_7 : decode cX10_coldNow 7 = .ok (.astore_n 3, 1) := by decide +kernel
theorem dX10_coldNow_8 : decode cX10_coldNow 8 = .ok (.aload_n 3, 1) := by decide +kernel
theorem dX10_coldNow_9 : decode cX10_coldNow 9 = .ok (.getfield 40, 3) := by decide +kernel
theorem dX10_coldNow_12 : decode cX10_coldNow 12 = .ok (.aload_n 3, 1) := by decide +kernel
theorem dX10_coldNow_13 : decode cX10_coldNow 13 = .ok (.getfield 55, 3) := by decide +kernel
theorem dX10_coldNow_16 : decode cX10_coldNow 16 = .ok (.iload_n 1, 1) := by decide +kernel
theorem dX10_coldNow_17 : decode cX10_coldNow 17 = .ok (.aaload, 1) := by decide +kernel
theorem dX10_coldNow_18 : decode cX10_coldNow 18 = .ok (.iconst 0, 1) := by decide +kernel
theorem dX10_coldNow_19 : decode cX10_coldNow 19 = .ok (.iaload, 1) := by decide +kernel
theorem dX10_coldNow_20 : decode cX10_coldNow 20 = .ok (.aaload, 1) := by decide +kernel
theorem dX10_coldNow_21 : decode cX10_coldNow 21 = .ok (.astore 4, 2) := by decide +kernel
theorem dX10_coldNow_23 : decode cX10_coldNow 23 = .ok (.iconst 0, 1) := by decide +kernel
theorem dX10_coldNow_24 : decode cX10_coldNow 24 = .ok (.istore 5, 2) := by decide +kernel
theorem dX10_coldNow_26 : decode cX10_coldNow 26 = .ok (.iload 5, 2) := by decide +kernel
theorem dX10_coldNow_28 : decode cX10_coldNow 28 = .ok (.bipush 30, 2) := by decide +kernel
theorem dX10_coldNow_30 : decode cX10_coldNow 30 = .ok (.if_icmp .gt 25, 3) := by decide +kernel
theorem dX10_coldNow_33 : decode cX10_coldNow 33 = .ok (.aload 4, 2) := by decide +kernel
theorem dX10_coldNow_35 : decode cX10_coldNow 35 = .ok (.invokestatic 87, 3) := by decide +kernel
theorem dX10_coldNow_38 : decode cX10_coldNow 38 = .ok (.iload_n 2, 1) := by decide +kernel
theorem dX10_coldNow_39 : decode cX10_coldNow 39 = .ok (.if_icmp .gt 6, 3) := by decide +kernel
theorem dX10_coldNow_42 : decode cX10_coldNow 42 = .ok (.iload 5, 2) := by decide +kernel
theorem dX10_coldNow_44 : decode cX10_coldNow 44 = .ok (.ireturn, 1) := by decide +kernel
theorem dX10_coldNow_45 : decode cX10_coldNow 45 = .ok (.aload_n 3, 1) := by decide +kernel
theorem dX10_coldNow_46 : decode cX10_coldNow 46 = .ok (.invokevirtual 157, 3) := by decide +kernel
theorem dX10_coldNow_49 : decode cX10_coldNow 49 = .ok (.iinc 5 1, 3) := by decide +kernel
theorem dX10_coldNow_52 : decode cX10_coldNow 52 = .ok (.goto (-26), 3) := by decide +kernel
theorem dX10_coldNow_55 : decode cX10_coldNow 55 = .ok (.iconst (-1), 1) := by decide +kernel
theorem dX10_coldNow_56 : decode cX10_coldNow 56 = .ok (.ireturn, 1) := by decide +kernel
theorem dX10_coldIn_0 : decode cX10_coldIn 0 = .ok (.aload_n 0, 1) := by decide +kernel
theorem dX10_coldIn_1 : decode cX10_coldIn 1 = .ok (.iconst 0, 1) := by decide +kernel
theorem dX10_coldIn_2 : decode cX10_coldIn 2 = .ok (.putfield 16, 3) := by decide +kernel
theorem dX10_coldIn_5 : decode cX10_coldIn 5 = .ok (.aload_n 0, 1) := by decide +kernel
theorem dX10_coldIn_6 : decode cX10_coldIn 6 = .ok (.iload_n 1, 1) := by decide +kernel
theorem dX10_coldIn_7 : decode cX10_coldIn 7 = .ok (.invokevirtual 61, 3) := by decide +kernel
theorem dX10_coldIn_10 : decode cX10_coldIn 10 = .ok (.ifCond .ne 9, 3) := by decide +kernel
theorem dX10_coldIn_13 : decode cX10_coldIn 13 = .ok (.aload_n 0, 1) := by decide +kernel
theorem dX10_coldIn_14 : decode cX10_coldIn 14 = .ok (.iconst 1, 1) := by decide +kernel
theorem dX10_coldIn_15 : decode cX10_coldIn 15 = .ok (.invokevirtual 36, 3) := by decide +kernel
theorem dX10_coldIn_18 : decode cX10_coldIn 18 = .ok (.ireturn, 1) := by decide +kernel
theorem dX10_coldIn_19 : decode cX10_coldIn 19 = .ok (.iload_n 2, 1) := by decide +kernel
theorem dX10_coldIn_20 : decode cX10_coldIn 20 = .ok (.iconst 0, 1) := by decide +kernel
theorem dX10_coldIn_21 : decode cX10_coldIn 21 = .ok (.sipush 400, 3) := by decide +kernel
theorem dX10_coldIn_24 : decode cX10_coldIn 24 = .ok (.invokestatic 23, 3) := by decide +kernel
theorem dX10_coldIn_27 : decode cX10_coldIn 27 = .ok (.ifCond .eq 12, 3) := by decide +kernel
theorem dX10_coldIn_30 : decode cX10_coldIn 30 = .ok (.aload_n 0, 1) := by decide +kernel
theorem dX10_coldIn_31 : decode cX10_coldIn 31 = .ok (.iload_n 1, 1) := by decide +kernel
theorem dX10_coldIn_32 : decode cX10_coldIn 32 = .ok (.iload_n 2, 1) := by decide +kernel
theorem dX10_coldIn_33 : decode cX10_coldIn 33 = .ok (.invokevirtual 160, 3) := by decide +kernel
theorem dX10_coldIn_36 : decode cX10_coldIn 36 = .ok (.goto 8, 3) := by decide +kernel
theorem dX10_coldIn_39 : decode cX10_coldIn 39 = .ok (.aload_n 0, 1) := by decide +kernel
theorem dX10_coldIn_40 : decode cX10_coldIn 40 = .ok (.iconst 2, 1) := by decide +kernel
theorem dX10_coldIn_41 : decode cX10_coldIn 41 = .ok (.invokevirtual 36, 3) := by decide +kernel
theorem dX10_coldIn_44 : decode cX10_coldIn 44 = .ok (.ireturn, 1) := by decide +kernel
theorem dX10_causedNow_0 : decode cX10_causedNow 0 = .ok (.aload_n 0, 1) := by decide +kernel
theorem dX10_causedNow_1 : decode cX10_causedNow 1 = .ok (.getfield 10, 3) := by decide +kernel
theorem dX10_causedNow_4 : decode cX10_causedNow 4 = .ok (.invokevirtual 153, 3) := by decide +kernel
theorem dX10_causedNow_7 : decode cX10_causedNow 7 = .ok (.astore 4, 2) := by decide +kernel
theorem dX10_causedNow_9 : decode cX10_causedNow 9 = .ok (.aload_n 0, 1) := by decide +kernel
theorem dX10_causedNow_10 : decode cX10_causedNow 10 = .ok (.getfield 10, 3) := by decide +kernel
theorem dX10_causedNow_13 : decode cX10_causedNow 13 = .ok (.invokevirtual 153, 3) := by decide +kernel
theorem dX10_causedNow_16 : decode cX10_causedNow 16 = .ok (.astore 5, 2) := by decide +kernel
theorem dX10_causedNow_18 : decode cX10_causedNow 18 = .ok (.aload 5, 2) := by decide +kernel
theorem dX10_causedNow_20 : decode cX10_causedNow 20 = .ok (.getfield 55, 3) := by decide +kernel
theorem dX10_causedNow_23 : decode cX10_causedNow 23 = .ok (.iload_n 2, 1) := by decide +kernel
theorem dX10_causedNow_24 : decode cX10_causedNow 24 = .ok (.aaload, 1) := by decide +kernel
theorem dX10_causedNow_25 : decode cX10_causedNow 25 = .ok (.iconst 2, 1) := by decide +kernel
theorem dX10_causedNow_26 : decode cX10_causedNow 26 = .ok (.iconst 0, 1) := by decide +kernel
theorem dX10_causedNow_27 : decode cX10_causedNow 27 = .ok (.iastore, 1) := by decide +kernel
theorem dX10_causedNow_28 : decode cX10_causedNow 28 = .ok (.aload 4, 2) := by decide +kernel
theorem dX10_causedNow_30 : decode cX10_causedNow 30 = .ok (.iload_n 3, 1) := by decide +kernel
theorem dX10_causedNow_31 : decode cX10_causedNow 31 = .ok (.invokevirtual 80, 3) := by decide +kernel
theorem dX10_causedNow_34 : decode cX10_causedNow 34 = .ok (.pop, 1) := by decide +kernel
theorem dX10_causedNow_35 : decode cX10_causedNow 35 = .ok (.aload 5, 2) := by decide +kernel
theorem dX10_causedNow_37 : decode cX10_causedNow 37 = .ok (.iload_n 3, 1) := by decide +kernel
theorem dX10_causedNow_38 : decode cX10_causedNow 38 = .ok (.invokevirtual 80, 3) := by decide +kernel
theorem dX10_causedNow_41 : decode cX10_causedNow 41 = .ok (.pop, 1) := by decide +kernel
theorem dX10_causedNow_42 : decode cX10_causedNow 42 = .ok (.aload 5, 2) := by decide +kernel
theorem dX10_causedNow_44 : decode cX10_causedNow 44 = .ok (.getfield 58, 3) := by decide +kernel
theorem dX10_causedNow_47 : decode cX10_causedNow 47 = .ok (.iload_n 1, 1) := by decide +kernel
theorem dX10_causedNow_48 : decode cX10_causedNow 48 = .ok (.aaload, 1) := by decide +kernel
theorem dX10_causedNow_49 : decode cX10_causedNow 49 = .ok (.iconst 2, 1) := by decide +kernel
theorem dX10_causedNow_50 : decode cX10_causedNow 50 = .ok (.iaload, 1) := by decide +kernel
theorem dX10_causedNow_51 : decode cX10_causedNow 51 = .ok (.aload 4, 2) := by decide +kernel
theorem dX10_causedNow_53 : decode cX10_causedNow 53 = .ok (.getfield 58, 3) := by decide +kernel
theorem dX10_causedNow_56 : decode cX10_causedNow 56 = .ok (.iload_n 1, 1) := by decide +kernel
theorem dX10_causedNow_57 : decode cX10_causedNow 57 = .ok (.aaload, 1) := by decide +kernel
theorem dX10_causedNow_58 : decode cX10_causedNow 58 = .ok (.iconst 2, 1) := by decide +kernel
theorem dX10_causedNow_59 : decode cX10_causedNow 59 = .ok (.iaload, 1) := by decide +kernel
theorem dX10_causedNow_60 : decode cX10_causedNow 60 = .ok (.isub, 1) := by decide +kernel
theorem dX10_causedNow_61 : decode cX10_causedNow 61 = .ok (.ireturn, 1) := by decide +kernel
theorem dX10_causedBy_0 : decode cX10_causedBy 0 = .ok (.aload_n 0, 1) := by decide +kernel
theorem dX10_causedBy_1 : decode cX10_causedBy 1 = .ok (.iconst 0, 1) := by decide +kernel
theorem dX10_causedBy_2 : decode cX10_causedBy 2 = .ok (.putfield 16, 3) := by decide +kernel
theorem dX10_causedBy_5 : decode cX10_causedBy 5 = .ok (.aload_n 0, 1) := by decide +kernel
theorem dX10_causedBy_6 : decode cX10_causedBy 6 = .ok (.iload_n 1, 1) := by decide +kernel
theorem dX10_causedBy_7 : decode cX10_causedBy 7 = .ok (.invokevirtual 94, 3) := by decide +kernel
theorem dX10_causedBy_10 : decode cX10_causedBy 10 = .ok (.ifCond .eq 11, 3) := by decide +kernel
theorem dX10_causedBy_13 : decode cX10_causedBy 13 = .ok (.aload_n 0, 1) := by decide +kernel
theorem dX10_causedBy_14 : decode cX10_causedBy 14 = .ok (.iload_n 2, 1) := by decide +kernel
theorem dX10_causedBy_15 : decode cX10_causedBy 15 = .ok (.invokevirtual 61, 3) := by decide +kernel
theorem dX10_causedBy_18 : decode cX10_causedBy 18 = .ok (.ifCond .ne 9, 3) := by decide +kernel
theorem dX10_causedBy_21 : decode cX10_causedBy 21 = .ok (.aload_n 0, 1) := by decide +kernel
theorem dX10_causedBy_22 : decode cX10_causedBy 22 = .ok (.iconst 1, 1) := by decide +kernel
theorem dX10_causedBy_23 : decode cX10_causedBy 23 = .ok (.invokevirtual 36, 3) := by decide +kernel
theorem dX10_causedBy_26 : decode cX10_causedBy 26 = .ok (.ireturn, 1) := by decide +kernel
theorem dX10_causedBy_27 : decode cX10_causedBy 27 = .ok (.iload_n 3, 1) := by decide +kernel
theorem dX10_causedBy_28 : decode cX10_causedBy 28 = .ok (.invokestatic 77, 3) := by decide +kernel
theorem dX10_causedBy_31 : decode cX10_causedBy 31 = .ok (.ifCond .eq 13, 3) := by decide +kernel
theorem dX10_causedBy_34 : decode cX10_causedBy 34 = .ok (.aload_n 0, 1) := by decide +kernel
theorem dX10_causedBy_35 : decode cX10_causedBy 35 = .ok (.iload_n 1, 1) := by decide +kernel
theorem dX10_causedBy_36 : decode cX10_causedBy 36 = .ok (.iload_n 2, 1) := by decide +kernel
theorem dX10_causedBy_37 : decode cX10_causedBy 37 = .ok (.iload_n 3, 1) := by decide +kernel
theorem dX10_causedBy_38 : decode cX10_causedBy 38 = .ok (.invokevirtual 163, 3) := by decide +kernel
theorem dX10_causedBy_41 : decode cX10_causedBy 41 = .ok (.goto 8, 3) := by decide +kernel
theorem dX10_causedBy_44 : decode cX10_causedBy 44 = .ok (.aload_n 0, 1) := by decide +kernel
theorem dX10_causedBy_45 : decode cX10_causedBy 45 = .ok (.iconst 2, 1) := by decide +kernel
theorem dX10_causedBy_46 : decode cX10_causedBy 46 = .ok (.invokevirtual 36, 3) := by decide +kernel
theorem dX10_causedBy_49 : decode cX10_causedBy 49 = .ok (.ireturn, 1) := by decide +kernel
theorem dX10_valuesOf_0 : decode cX10_valuesOf 0 = .ok (.aload_n 0, 1) := by decide +kernel
theorem dX10_valuesOf_1 : decode cX10_valuesOf 1 = .ok (.getfield 10, 3) := by decide +kernel
theorem dX10_valuesOf_4 : decode cX10_valuesOf 4 = .ok (.invokevirtual 153, 3) := by decide +kernel
theorem dX10_valuesOf_7 : decode cX10_valuesOf 7 = .ok (.astore_n 3, 1) := by decide +kernel
theorem dX10_valuesOf_8 : decode cX10_valuesOf 8 = .ok (.iconst 0, 1) := by decide +kernel
theorem dX10_valuesOf_9 : decode cX10_valuesOf 9 = .ok (.istore 4, 2) := by decide +kernel
theorem dX10_valuesOf_11 : decode cX10_valuesOf 11 = .ok (.iload 4, 2) := by decide +kernel
theorem dX10_valuesOf_13 : decode cX10_valuesOf 13 = .ok (.aload_n 3, 1) := by decide +kernel
theorem dX10_valuesOf_14 : decode cX10_valuesOf 14 = .ok (.getfield 30, 3) := by decide +kernel
theorem dX10_valuesOf_17 : decode cX10_valuesOf 17 = .ok (.if_icmp .ge 42, 3) := by decide +kernel
theorem dX10_valuesOf_20 : decode cX10_valuesOf 20 = .ok (.aload_n 3, 1) := by decide +kernel
theorem dX10_valuesOf_21 : decode cX10_valuesOf 21 = .ok (.getfield 55, 3) := by decide +kernel
theorem dX10_valuesOf_24 : decode cX10_valuesOf 24 = .ok (.iload 4, 2) := by decide +kernel
theorem dX10_valuesOf_26 : decode cX10_valuesOf 26 = .ok (.aaload, 1) := by decide +kernel
theorem dX10_valuesOf_27 : decode cX10_valuesOf 27 = .ok (.iconst 2, 1) := by decide +kernel
theorem dX10_valuesOf_28 : decode cX10_valuesOf 28 = .ok (.aload_n 3, 1) := by decide +kernel
theorem dX10_valuesOf_29 : decode cX10_valuesOf 29 = .ok (.getfield 55, 3) := by decide +kernel
theorem dX10_valuesOf_32 : decode cX10_valuesOf 32 = .ok (.iload 4, 2) := by decide +kernel
theorem dX10_valuesOf_34 : decode cX10_valuesOf 34 = .ok (.aaload, 1) := by decide +kernel
theorem dX10_valuesOf_35 : decode cX10_valuesOf 35 = .ok (.iconst 1, 1) := by decide +kernel
theorem dX10_valuesOf_36 : decode cX10_valuesOf 36 = .ok (.iaload, 1) := by decide +kernel
theorem dX10_valuesOf_37 : decode cX10_valuesOf 37 = .ok (.iconst 1, 1) := by decide +kernel
theorem dX10_valuesOf_38 : decode cX10_valuesOf 38 = .ok (.if_icmp .ne 10, 3) := by decide +kernel
theorem dX10_valuesOf_41 : decode cX10_valuesOf 41 = .ok (.iload_n 1, 1) := by decide +kernel
theorem dX10_valuesOf_42 : decode cX10_valuesOf 42 = .ok (.bipush 10, 2) := by decide +kernel
theorem dX10_valuesOf_44 : decode cX10_valuesOf 44 = .ok (.irem, 1) := by decide +kernel
theorem dX10_valuesOf_45 : decode cX10_valuesOf 45 = .ok (.goto 7, 3) := by decide +kernel
theorem dX10_valuesOf_48 : decode cX10_valuesOf 48 = .ok (.iload_n 1, 1) := by decide +kernel
theorem dX10_valuesOf_49 : decode cX10_valuesOf 49 = .ok (.bipush 10, 2) := by decide +kernel
theorem dX10_valuesOf_51 : decode cX10_valuesOf 51 = .ok (.idiv, 1) := by decide +kernel
theorem dX10_valuesOf_52 : decode cX10_valuesOf 52 = .ok (.iastore, 1) := by decide +kernel
theorem dX10_valuesOf_53 : decode cX10_valuesOf 53 = .ok (.iinc 4 1, 3) := by decide +kernel
theorem dX10_valuesOf_56 : decode cX10_valuesOf 56 = .ok (.goto (-45), 3) := by decide +kernel
theorem dX10_valuesOf_59 : decode cX10_valuesOf 59 = .ok (.aload_n 3, 1) := by decide +kernel
theorem dX10_valuesOf_60 : decode cX10_valuesOf 60 = .ok (.invokevirtual 147, 3) := by decide +kernel
theorem dX10_valuesOf_63 : decode cX10_valuesOf 63 = .ok (.istore 4, 2) := by decide +kernel
theorem dX10_valuesOf_65 : decode cX10_valuesOf 65 = .ok (.aload_n 3, 1) := by decide +kernel
theorem dX10_valuesOf_66 : decode cX10_valuesOf 66 = .ok (.iload_n 2, 1) := by decide +kernel
theorem dX10_valuesOf_67 : decode cX10_valuesOf 67 = .ok (.invokevirtual 80, 3) := by decide +kernel
theorem dX10_valuesOf_70 : decode cX10_valuesOf 70 = .ok (.iconst 3, 1) := by decide +kernel
theorem dX10_valuesOf_71 : decode cX10_valuesOf 71 = .ok (.aload_n 3, 1) := by decide +kernel
theorem dX10_valuesOf_72 : decode cX10_valuesOf 72 = .ok (.invokevirtual 147, 3) := by decide +kernel
theorem dX10_valuesOf_75 : decode cX10_valuesOf 75 = .ok (.iload 4, 2) := by decide +kernel
theorem dX10_valuesOf_77 : decode cX10_valuesOf 77 = .ok (.isub, 1) := by decide +kernel
theorem dX10_valuesOf_78 : decode cX10_valuesOf 78 = .ok (.imul, 1) := by decide +kernel
theorem dX10_valuesOf_79 : decode cX10_valuesOf 79 = .ok (.isub, 1) := by decide +kernel
theorem dX10_valuesOf_80 : decode cX10_valuesOf 80 = .ok (.ireturn, 1) := by decide +kernel
theorem dX10_bestNow_0 : decode cX10_bestNow 0 = .ok (.iconst 0, 1) := by decide +kernel
theorem dX10_bestNow_1 : decode cX10_bestNow 1 = .ok (.istore_n 2, 1) := by decide +kernel
theorem dX10_bestNow_2 : decode cX10_bestNow 2 = .ok (.aload_n 0, 1) := by decide +kernel
theorem dX10_bestNow_3 : decode cX10_bestNow 3 = .ok (.iconst 0, 1) := by decide +kernel
theorem dX10_bestNow_4 : decode cX10_bestNow 4 = .ok (.iload_n 1, 1) := by decide +kernel
theorem dX10_bestNow_5 : decode cX10_bestNow 5 = .ok (.invokevirtual 167, 3) := by decide +kernel
theorem dX10_bestNow_8 : decode cX10_bestNow 8 = .ok (.istore_n 3, 1) := by decide +kernel
theorem dX10_bestNow_9 : decode cX10_bestNow 9 = .ok (.iconst 1, 1) := by decide +kernel
theorem dX10_bestNow_10 : decode cX10_bestNow 10 = .ok (.istore 4, 2) := by decide +kernel
theorem dX10_bestNow_12 : decode cX10_bestNow 12 = .ok (.iload 4, 2) := by decide +kernel
theorem dX10_bestNow_14 : decode cX10_bestNow 14 = .ok (.bipush 16, 2) := by decide +kernel
theorem dX10_bestNow_16 : decode cX10_bestNow 16 = .ok (.if_icmp .ge 49, 3) := by decide +kernel
theorem dX10_bestNow_19 : decode cX10_bestNow 19 = .ok (.bipush 30, 2) := by decide +kernel
theorem dX10_bestNow_21 : decode cX10_bestNow 21 = .ok (.iload 4, 2) := by decide +kernel
theorem dX10_bestNow_23 : decode cX10_bestNow 23 = .ok (.iconst 4, 1) := by decide +kernel
theorem dX10_bestNow_24 : decode cX10_bestNow 24 = .ok (.idiv, 1) := by decide +kernel
theorem dX10_bestNow_25 : decode cX10_bestNow 25 = .ok (.imul, 1) := by decide +kernel
theorem dX10_bestNow_26 : decode cX10_bestNow 26 = .ok (.iconst 3, 1) := by decide +kernel
theorem dX10_bestNow_27 : decode cX10_bestNow 27 = .ok (.iload 4, 2) := by decide +kernel
theorem dX10_bestNow_29 : decode cX10_bestNow 29 = .ok (.iconst 4, 1) := by decide +kernel
theorem dX10_bestNow_30 : decode cX10_bestNow 30 = .ok (.irem, 1) := by decide +kernel
theorem dX10_bestNow_31 : decode cX10_bestNow 31 = .ok (.imul, 1) := by decide +kernel
theorem dX10_bestNow_32 : decode cX10_bestNow 32 = .ok (.iadd, 1) := by decide +kernel
theorem dX10_bestNow_33 : decode cX10_bestNow 33 = .ok (.istore 5, 2) := by decide +kernel
theorem dX10_bestNow_35 : decode cX10_bestNow 35 = .ok (.aload_n 0, 1) := by decide +kernel
theorem dX10_bestNow_36 : decode cX10_bestNow 36 = .ok (.iload 5, 2) := by decide +kernel
theorem dX10_bestNow_38 : decode cX10_bestNow 38 = .ok (.iload_n 1, 1) := by decide +kernel
theorem dX10_bestNow_39 : decode cX10_bestNow 39 = .ok (.invokevirtual 167, 3) := by decide +kernel
theorem dX10_bestNow_42 : decode cX10_bestNow 42 = .ok (.istore 6, 2) := by decide +kernel
theorem dX10_bestNow_44 : decode cX10_bestNow 44 = .ok (.iload 6, 2) := by decide +kernel
theorem dX10_bestNow_46 : decode cX10_bestNow 46 = .ok (.iload_n 3, 1) := by decide +kernel
theorem dX10_bestNow_47 : decode cX10_bestNow 47 = .ok (.if_icmp .gt 6, 3) := by decide +kernel
theorem dX10_bestNow_50 : decode cX10_bestNow 50 = .ok (.goto 9, 3) := by decide +kernel
theorem dX10_bestNow_53 : decode cX10_bestNow 53 = .ok (.iload 5, 2) := by decide +kernel
theorem dX10_bestNow_55 : decode cX10_bestNow 55 = .ok (.istore_n 2, 1) := by decide +kernel
theorem dX10_bestNow_56 : decode cX10_bestNow 56 = .ok (.iload 6, 2) := by decide +kernel
theorem dX10_bestNow_58 : decode cX10_bestNow 58 = .ok (.istore_n 3, 1) := by decide +kernel
theorem dX10_bestNow_59 : decode cX10_bestNow 59 = .ok (.iinc 4 1, 3) := by decide +kernel
theorem dX10_bestNow_62 : decode cX10_bestNow 62 = .ok (.goto (-50), 3) := by decide +kernel
theorem dX10_bestNow_65 : decode cX10_bestNow 65 = .ok (.iload_n 2, 1) := by decide +kernel
theorem dX10_bestNow_66 : decode cX10_bestNow 66 = .ok (.ireturn, 1) := by decide +kernel
theorem dX10_bestValves_0 : decode cX10_bestValves 0 = .ok (.aload_n 0, 1) := by decide +kernel
theorem dX10_bestValves_1 : decode cX10_bestValves 1 = .ok (.iconst 0, 1) := by decide +kernel
theorem dX10_bestValves_2 : decode cX10_bestValves 2 = .ok (.putfield 16, 3) := by decide +kernel
theorem dX10_bestValves_5 : decode cX10_bestValves 5 = .ok (.iload_n 1, 1) := by decide +kernel
theorem dX10_bestValves_6 : decode cX10_bestValves 6 = .ok (.iconst 1, 1) := by decide +kernel
theorem dX10_bestValves_7 : decode cX10_bestValves 7 = .ok (.bipush 12, 2) := by decide +kernel
theorem dX10_bestValves_9 : decode cX10_bestValves 9 = .ok (.invokestatic 23, 3) := by decide +kernel
theorem dX10_bestValves_12 : decode cX10_bestValves 12 = .ok (.ifCond .eq 11, 3) := by decide +kernel
theorem dX10_bestValves_15 : decode cX10_bestValves 15 = .ok (.aload_n 0, 1) := by decide +kernel
theorem dX10_bestValves_16 : decode cX10_bestValves 16 = .ok (.iload_n 1, 1) := by decide +kernel
theorem dX10_bestValves_17 : decode cX10_bestValves 17 = .ok (.invokevirtual 170, 3) := by decide +kernel
theorem dX10_bestValves_20 : decode cX10_bestValves 20 = .ok (.goto 8, 3) := by decide +kernel
theorem dX10_bestValves_23 : decode cX10_bestValves 23 = .ok (.aload_n 0, 1) := by decide +kernel
theorem dX10_bestValves_24 : decode cX10_bestValves 24 = .ok (.iconst 1, 1) := by decide +kernel
theorem dX10_bestValves_25 : decode cX10_bestValves 25 = .ok (.invokevirtual 36, 3) := by decide +kernel
theorem dX10_bestValves_28 : decode cX10_bestValves 28 = .ok (.ireturn, 1) := by decide +kernel
theorem dX10_add_0 : decode cX10_add 0 = .ok (.aload_n 0, 1) := by decide +kernel
theorem dX10_add_1 : decode cX10_add 1 = .ok (.aload_n 0, 1) := by decide +kernel
theorem dX10_add_2 : decode cX10_add 2 = .ok (.getfield 173, 3) := by decide +kernel
theorem dX10_add_5 : decode cX10_add 5 = .ok (.ldc2_w 176, 3) := by decide +kernel
theorem dX10_add_8 : decode cX10_add 8 = .ok (.lmul, 1) := by decide +kernel
theorem dX10_add_9 : decode cX10_add 9 = .ok (.iload_n 1, 1) := by decide +kernel
theorem dX10_add_10 : decode cX10_add 10 = .ok (.i2l, 1) := by decide +kernel
theorem dX10_add_11 : decode cX10_add 11 = .ok (.ladd, 1) := by decide +kernel
theorem dX10_add_12 : decode cX10_add 12 = .ok (.putfield 173, 3) := by decide +kernel
theorem dX10_add_15 : decode cX10_add 15 = .ok (.return_, 1) := by decide +kernel
theorem dX10_digest_0 : decode cX10_digest 0 = .ok (.aload_n 0, 1) := by decide +kernel
theorem dX10_digest_1 : decode cX10_digest 1 = .ok (.iconst 0, 1) := by decide +kernel
theorem dX10_digest_2 : decode cX10_digest 2 = .ok (.putfield 16, 3) := by decide +kernel
theorem dX10_digest_5 : decode cX10_digest 5 = .ok (.aload_n 0, 1) := by decide +kernel
theorem dX10_digest_6 : decode cX10_digest 6 = .ok (.ldc2_w 178, 3) := by decide +kernel
theorem dX10_digest_9 : decode cX10_digest 9 = .ok (.putfield 173, 3) := by decide +kernel
theorem dX10_digest_12 : decode cX10_digest 12 = .ok (.iconst 0, 1) := by decide +kernel
theorem dX10_digest_13 : decode cX10_digest 13 = .ok (.istore_n 1, 1) := by decide +kernel
theorem dX10_digest_14 : decode cX10_digest 14 = .ok (.iload_n 1, 1) := by decide +kernel
theorem dX10_digest_15 : decode cX10_digest 15 = .ok (.bipush 13, 2) := by decide +kernel
theorem dX10_digest_17 : decode cX10_digest 17 = .ok (.if_icmp .ge 18, 3) := by decide +kernel
theorem dX10_digest_20 : decode cX10_digest 20 = .ok (.aload_n 0, 1) := by decide +kernel
theorem dX10_digest_21 : decode cX10_digest 21 = .ok (.aload_n 0, 1) := by decide +kernel
theorem dX10_digest_22 : decode cX10_digest 22 = .ok (.iload_n 1, 1) := by decide +kernel
theorem dX10_digest_23 : decode cX10_digest 23 = .ok (.invokevirtual 150, 3) := by decide +kernel
theorem dX10_digest_26 : decode cX10_digest 26 = .ok (.invokevirtual 180, 3) := by decide +kernel
theorem dX10_digest_29 : decode cX10_digest 29 = .ok (.iinc 1 1, 3) := by decide +kernel
theorem dX10_digest_32 : decode cX10_digest 32 = .ok (.goto (-18), 3) := by decide +kernel
theorem dX10_digest_35 : decode cX10_digest 35 = .ok (.iconst 0, 1) := by decide +kernel
theorem dX10_digest_36 : decode cX10_digest 36 = .ok (.istore_n 1, 1) := by decide +kernel
theorem dX10_digest_37 : decode cX10_digest 37 = .ok (.iload_n 1, 1) := by decide +kernel
theorem dX10_digest_38 : decode cX10_digest 38 = .ok (.aload_n 0, 1) := by decide +kernel
theorem dX10_digest_39 : decode cX10_digest 39 = .ok (.getfield 10, 3) := by decide +kernel
theorem dX10_digest_42 : decode cX10_digest 42 = .ok (.getfield 20, 3) := by decide +kernel
theorem dX10_digest_45 : decode cX10_digest 45 = .ok (.if_icmp .ge 33, 3) := by decide +kernel
theorem dX10_digest_48 : decode cX10_digest 48 = .ok (.iconst 0, 1) := by decide +kernel
theorem dX10_digest_49 : decode cX10_digest 49 = .ok (.istore_n 2, 1) := by decide +kernel
theorem dX10_digest_50 : decode cX10_digest 50 = .ok (.iload_n 2, 1) := by decide +kernel
theorem dX10_digest_51 : decode cX10_digest 51 = .ok (.bipush 6, 2) := by decide +kernel
theorem dX10_digest_53 : decode cX10_digest 53 = .ok (.if_icmp .ge 19, 3) := by decide +kernel
theorem dX10_digest_56 : decode cX10_digest 56 = .ok (.aload_n 0, 1) := by decide +kernel
theorem dX10_digest_57 : decode cX10_digest 57 = .ok (.aload_n 0, 1) := by decide +kernel
theorem dX10_digest_58 : decode cX10_digest 58 = .ok (.iload_n 1, 1) := by decide +kernel
theorem dX10_digest_59 : decode cX10_digest 59 = .ok (.iload_n 2, 1) := by decide +kernel
theorem dX10_digest_60 : decode cX10_digest 60 = .ok (.invokevirtual 90, 3) := by decide +kernel
theorem dX10_digest_63 : decode cX10_digest 63 = .ok (.invokevirtual 180, 3) := by decide +kernel
theorem dX10_digest_66 : decode cX10_digest 66 = .ok (.iinc 2 1, 3) := by decide +kernel
theorem dX10_digest_69 : decode cX10_digest 69 = .ok (.goto (-19), 3) := by decide +kernel
theorem dX10_digest_72 : decode cX10_digest 72 = .ok (.iinc 1 1, 3) := by decide +kernel
theorem dX10_digest_75 : decode cX10_digest 75 = .ok (.goto (-38), 3) := by decide +kernel
theorem dX10_digest_78 : decode cX10_digest 78 = .ok (.iconst 0, 1) := by decide +kernel
theorem dX10_digest_79 : decode cX10_digest 79 = .ok (.istore_n 1, 1) := by decide +kernel
theorem dX10_digest_80 : decode cX10_digest 80 = .ok (.iload_n 1, 1) := by decide +kernel
theorem dX10_digest_81 : decode cX10_digest 81 = .ok (.aload_n 0, 1) := by decide +kernel
theorem dX10_digest_82 : decode cX10_digest 82 = .ok (.getfield 10, 3) := by decide +kernel
theorem dX10_digest_85 : decode cX10_digest 85 = .ok (.getfield 30, 3) := by decide +kernel
theorem dX10_digest_88 : decode cX10_digest 88 = .ok (.if_icmp .ge 49, 3) := by decide +kernel
theorem dX10_digest_91 : decode cX10_digest 91 = .ok (.iconst 0, 1) := by decide +kernel
theorem dX10_digest_92 : decode cX10_digest 92 = .ok (.istore_n 2, 1) := by decide +kernel
theorem dX10_digest_93 : decode cX10_digest 93 = .ok (.iload_n 2, 1) := by decide +kernel
theorem dX10_digest_94 : decode cX10_digest 94 = .ok (.bipush 9, 2) := by decide +kernel
theorem dX10_digest_96 : decode cX10_digest 96 = .ok (.if_icmp .ge 24, 3) := by decide +kernel
theorem dX10_digest_99 : decode cX10_digest 99 = .ok (.aload_n 0, 1) := by decide +kernel
theorem dX10_digest_100 : decode cX10_digest 100 = .ok (.aload_n 0, 1) := by decide +kernel
theorem dX10_digest_101 : decode cX10_digest 101 = .ok (.getfield 10, 3) := by decide +kernel
theorem dX10_digest_104 : decode cX10_digest 104 = .ok (.getfield 55, 3) := by decide +kernel
theorem dX10_digest_107 : decode cX10_digest 107 = .ok (.iload_n 1, 1) := by decide +kernel
theorem dX10_digest_108 : decode cX10_digest 108 = .ok (.aaload, 1) := by decide +kernel
theorem dX10_digest_109 : decode cX10_digest 109 = .ok (.iload_n 2, 1) := by decide +kernel
theorem dX10_digest_110 : decode cX10_digest 110 = .ok (.iaload, 1) := by decide +kernel
theorem dX10_digest_111 : decode cX10_digest 111 = .ok (.invokevirtual 180, 3) := by decide +kernel
theorem dX10_digest_114 : decode cX10_digest 114 = .ok (.iinc 2 1, 3) := by decide +kernel
theorem dX10_digest_117 : decode cX10_digest 117 = .ok (.goto (-24), 3) := by decide +kernel
theorem dX10_digest_120 : decode cX10_digest 120 = .ok (.aload_n 0, 1) := by decide +kernel
theorem dX10_digest_121 : decode cX10_digest 121 = .ok (.aload_n 0, 1) := by decide +kernel
theorem dX10_digest_122 : decode cX10_digest 122 = .ok (.iload_n 1, 1) := by decide +kernel
theorem dX10_digest_123 : decode cX10_digest 123 = .ok (.bipush 100, 2) := by decide +kernel
theorem dX10_digest_125 : decode cX10_digest 125 = .ok (.invokevirtual 160, 3) := by decide +kernel
theorem dX10_digest_128 : decode cX10_digest 128 = .ok (.invokevirtual 180, 3) := by decide +kernel
theorem dX10_digest_131 : decode cX10_digest 131 = .ok (.iinc 1 1, 3) := by decide +kernel
theorem dX10_digest_134 : decode cX10_digest 134 = .ok (.goto (-54), 3) := by decide +kernel
theorem dX10_digest_137 : decode cX10_digest 137 = .ok (.iconst 0, 1) := by decide +kernel
theorem dX10_digest_138 : decode cX10_digest 138 = .ok (.istore_n 1, 1) := by decide +kernel
theorem dX10_digest_139 : decode cX10_digest 139 = .ok (.iload_n 1, 1) := by decide +kernel
theorem dX10_digest_140 : decode cX10_digest 140 = .ok (.aload_n 0, 1) := by decide +kernel
theorem dX10_digest_141 : decode cX10_digest 141 = .ok (.getfield 10, 3) := by decide +kernel
theorem dX10_digest_144 : decode cX10_digest 144 = .ok (.getfield 27, 3) := by decide +kernel
theorem dX10_digest_147 : decode cX10_digest 147 = .ok (.if_icmp .ge 39, 3) := by decide +kernel
theorem dX10_digest_150 : decode cX10_digest 150 = .ok (.aload_n 0, 1) := by decide +kernel
theorem dX10_digest_151 : decode cX10_digest 151 = .ok (.aload_n 0, 1) := by decide +kernel
theorem dX10_digest_152 : decode cX10_digest 152 = .ok (.getfield 10, 3) := by decide +kernel
theorem dX10_digest_155 : decode cX10_digest 155 = .ok (.getfield 52, 3) := by decide +kernel
theorem dX10_digest_158 : decode cX10_digest 158 = .ok (.iload_n 1, 1) := by decide +kernel
theorem dX10_digest_159 : decode cX10_digest 159 = .ok (.aaload, 1) := by decide +kernel
theorem dX10_digest_160 : decode cX10_digest 160 = .ok (.iconst 3, 1) := by decide +kernel
theorem dX10_digest_161 : decode cX10_digest 161 = .ok (.iaload, 1) := by decide +kernel
theorem dX10_digest_162 : decode cX10_digest 162 = .ok (.invokevirtual 180, 3) := by decide +kernel
theorem dX10_digest_165 : decode cX10_digest 165 = .ok (.aload_n 0, 1) := by decide +kernel
theorem dX10_digest_166 : decode cX10_digest 166 = .ok (.aload_n 0, 1) := by decide +kernel
theorem dX10_digest_167 : decode cX10_digest 167 = .ok (.getfield 10, 3) := by decide +kernel
theorem dX10_digest_170 : decode cX10_digest 170 = .ok (.getfield 52, 3) := by decide +kernel
theorem dX10_digest_173 : decode cX10_digest 173 = .ok (.iload_n 1, 1) := by decide +kernel
theorem dX10_digest_174 : decode cX10_digest 174 = .ok (.aaload, 1) := by decide +kernel
theorem dX10_digest_175 : decode cX10_digest 175 = .ok (.iconst 2, 1) := by decide +kernel
theorem dX10_digest_176 : decode cX10_digest 176 = .ok (.iaload, 1) := by decide +kernel
theorem dX10_digest_177 : decode cX10_digest 177 = .ok (.invokevirtual 180, 3) := by decide +kernel
theorem dX10_digest_180 : decode cX10_digest 180 = .ok (.iinc 1 1, 3) := by decide +kernel
theorem dX10_digest_183 : decode cX10_digest 183 = .ok (.goto (-44), 3) := by decide +kernel
theorem dX10_digest_186 : decode cX10_digest 186 = .ok (.iconst 0, 1) := by decide +kernel
theorem dX10_digest_187 : decode cX10_digest 187 = .ok (.istore_n 1, 1) := by decide +kernel
theorem dX10_digest_188 : decode cX10_digest 188 = .ok (.iload_n 1, 1) := by decide +kernel
theorem dX10_digest_189 : decode cX10_digest 189 = .ok (.aload_n 0, 1) := by decide +kernel
theorem dX10_digest_190 : decode cX10_digest 190 = .ok (.getfield 10, 3) := by decide +kernel
theorem dX10_digest_193 : decode cX10_digest 193 = .ok (.getfield 33, 3) := by decide +kernel
theorem dX10_digest_196 : decode cX10_digest 196 = .ok (.if_icmp .ge 67, 3) := by decide +kernel
theorem dX10_digest_199 : decode cX10_digest 199 = .ok (.iconst 0, 1) := by decide +kernel
theorem dX10_digest_200 : decode cX10_digest 200 = .ok (.istore_n 2, 1) := by decide +kernel
theorem dX10_digest_201 : decode cX10_digest 201 = .ok (.iload_n 2, 1) := by decide +kernel
theorem dX10_digest_202 : decode cX10_digest 202 = .ok (.iconst 4, 1) := by decide +kernel
theorem dX10_digest_203 : decode cX10_digest 203 = .ok (.if_icmp .ge 24, 3) := by decide +kernel
theorem dX10_digest_206 : decode cX10_digest 206 = .ok (.aload_n 0, 1) := by decide +kernel
theorem dX10_digest_207 : decode cX10_digest 207 = .ok (.aload_n 0, 1) := by decide +kernel
theorem dX10_digest_208 : decode cX10_digest 208 = .ok (.getfield 10, 3) := by decide +kernel
theorem dX10_digest_211 : decode cX10_digest 211 = .ok (.getfield 58, 3) := by decide +kernel
theorem dX10_digest_214 : decode cX10_digest 214 = .ok (.iload_n 1, 1) := by decide +kernel
theorem dX10_digest_215 : decode cX10_digest 215 = .ok (.aaload, 1) := by decide +kernel
theorem dX10_digest_216 : decode cX10_digest 216 = .ok (.iload_n 2, 1) := by decide +kernel
theorem dX10_digest_217 : decode cX10_digest 217 = .ok (.iaload, 1) := by decide +kernel
theorem dX10_digest_218 : decode cX10_digest 218 = .ok (.invokevirtual 180, 3) := by decide +kernel
theorem dX10_digest_221 : decode cX10_digest 221 = .ok (.iinc 2 1, 3) := by decide +kernel
theorem dX10_digest_224 : decode cX10_digest 224 = .ok (.goto (-23), 3) := by decide +kernel
theorem dX10_digest_227 : decode cX10_digest 227 = .ok (.iconst 0, 1) := by decide +kernel
theorem dX10_digest_228 : decode cX10_digest 228 = .ok (.istore_n 2, 1) := by decide +kernel
theorem dX10_digest_229 : decode cX10_digest 229 = .ok (.iload_n 2, 1) := by decide +kernel
theorem dX10_digest_230 : decode cX10_digest 230 = .ok (.aload_n 0, 1) := by decide +kernel
theorem dX10_digest_231 : decode cX10_digest 231 = .ok (.getfield 10, 3) := by decide +kernel
theorem dX10_digest_234 : decode cX10_digest 234 = .ok (.getfield 30, 3) := by decide +kernel
theorem dX10_digest_237 : decode cX10_digest 237 = .ok (.if_icmp .ge 20, 3) := by decide +kernel
theorem dX10_digest_240 : decode cX10_digest 240 = .ok (.aload_n 0, 1) := by decide +kernel
theorem dX10_digest_241 : decode cX10_digest 241 = .ok (.aload_n 0, 1) := by decide +kernel
theorem dX10_digest_242 : decode cX10_digest 242 = .ok (.iload_n 1, 1) := by decide +kernel
theorem dX10_digest_243 : decode cX10_digest 243 = .ok (.iload_n 2, 1) := by decide +kernel
theorem dX10_digest_244 : decode cX10_digest 244 = .ok (.iconst 3, 1) := by decide +kernel
theorem dX10_digest_245 : decode cX10_digest 245 = .ok (.invokevirtual 163, 3) := by decide +kernel
theorem dX10_digest_248 : decode cX10_digest 248 = .ok (.invokevirtual 180, 3) := by decide +kernel
theorem dX10_digest_251 : decode cX10_digest 251 = .ok (.iinc 2 1, 3) := by decide +kernel
theorem dX10_digest_254 : decode cX10_digest 254 = .ok (.goto (-25), 3) := by decide +kernel
theorem dX10_digest_257 : decode cX10_digest 257 = .ok (.iinc 1 1, 3) := by decide +kernel
theorem dX10_digest_260 : decode cX10_digest 260 = .ok (.goto (-72), 3) := by decide +kernel
theorem dX10_digest_263 : decode cX10_digest 263 = .ok (.iconst 0, 1) := by decide +kernel
theorem dX10_digest_264 : decode cX10_digest 264 = .ok (.istore_n 1, 1) := by decide +kernel
theorem dX10_digest_265 : decode cX10_digest 265 = .ok (.iload_n 1, 1) := by decide +kernel
theorem dX10_digest_266 : decode cX10_digest 266 = .ok (.iconst 4, 1) := by decide +kernel
theorem dX10_digest_267 : decode cX10_digest 267 = .ok (.if_icmp .ge 22, 3) := by decide +kernel
theorem dX10_digest_270 : decode cX10_digest 270 = .ok (.aload_n 0, 1) := by decide +kernel
theorem dX10_digest_271 : decode cX10_digest 271 = .ok (.aload_n 0, 1) := by decide +kernel
theorem dX10_digest_272 : decode cX10_digest 272 = .ok (.getfield 10, 3) := by decide +kernel
theorem dX10_digest_275 : decode cX10_digest 275 = .ok (.getfield 100, 3) := by decide +kernel
theorem dX10_digest_278 : decode cX10_digest 278 = .ok (.iload_n 1, 1) := by decide +kernel
theorem dX10_digest_279 : decode cX10_digest 279 = .ok (.iaload, 1) := by decide +kernel
theorem dX10_digest_280 : decode cX10_digest 280 = .ok (.invokevirtual 180, 3) := by decide +kernel
theorem dX10_digest_283 : decode cX10_digest 283 = .ok (.iinc 1 1, 3) := by decide +kernel
theorem dX10_digest_286 : decode cX10_digest 286 = .ok (.goto (-21), 3) := by decide +kernel
theorem dX10_digest_289 : decode cX10_digest 289 = .ok (.iconst 0, 1) := by decide +kernel
theorem dX10_digest_290 : decode cX10_digest 290 = .ok (.istore_n 1, 1) := by decide +kernel
theorem dX10_digest_291 : decode cX10_digest 291 = .ok (.iload_n 1, 1) := by decide +kernel
theorem dX10_digest_292 : decode cX10_digest 292 = .ok (.iconst 2, 1) := by decide +kernel
theorem dX10_digest_293 : decode cX10_digest 293 = .ok (.if_icmp .ge 34, 3) := by decide +kernel
theorem dX10_digest_296 : decode cX10_digest 296 = .ok (.aload_n 0, 1) := by decide +kernel
theorem dX10_digest_297 : decode cX10_digest 297 = .ok (.aload_n 0, 1) := by decide +kernel
theorem dX10_digest_298 : decode cX10_digest 298 = .ok (.getfield 10, 3) := by decide +kernel
theorem dX10_digest_301 : decode cX10_digest 301 = .ok (.getfield 64, 3) := by decide +kernel
theorem dX10_digest_304 : decode cX10_digest 304 = .ok (.iload_n 1, 1) := by decide +kernel
theorem dX10_digest_305 : decode cX10_digest 305 = .ok (.iaload, 1) := by decide +kernel
theorem dX10_digest_306 : decode cX10_digest 306 = .ok (.invokevirtual 180, 3) := by decide +kernel
theorem dX10_digest_309 : decode cX10_digest 309 = .ok (.aload_n 0, 1) := by decide +kernel
theorem dX10_digest_310 : decode cX10_digest 310 = .ok (.aload_n 0, 1) := by decide +kernel
theorem dX10_digest_311 : decode cX10_digest 311 = .ok (.getfield 10, 3) := by decide +kernel
theorem dX10_digest_314 : decode cX10_digest 314 = .ok (.iload_n 1, 1) := by decide +kernel
theorem dX10_digest_315 : decode cX10_digest 315 = .ok (.invokevirtual 103, 3) := by decide +kernel
theorem dX10_digest_318 : decode cX10_digest 318 = .ok (.invokevirtual 180, 3) := by decide +kernel
theorem dX10_digest_321 : decode cX10_digest 321 = .ok (.iinc 1 1, 3) := by decide +kernel
theorem dX10_digest_324 : decode cX10_digest 324 = .ok (.goto (-33), 3) := by decide +kernel
theorem dX10_digest_327 : decode cX10_digest 327 = .ok (.iconst 0, 1) := by decide +kernel
theorem dX10_digest_328 : decode cX10_digest 328 = .ok (.istore_n 1, 1) := by decide +kernel
theorem dX10_digest_329 : decode cX10_digest 329 = .ok (.iload_n 1, 1) := by decide +kernel
theorem dX10_digest_330 : decode cX10_digest 330 = .ok (.bipush 7, 2) := by decide +kernel
theorem dX10_digest_332 : decode cX10_digest 332 = .ok (.if_icmp .ge 18, 3) := by decide +kernel
theorem dX10_digest_335 : decode cX10_digest 335 = .ok (.aload_n 0, 1) := by decide +kernel
theorem dX10_digest_336 : decode cX10_digest 336 = .ok (.aload_n 0, 1) := by decide +kernel
theorem dX10_digest_337 : decode cX10_digest 337 = .ok (.iload_n 1, 1) := by decide +kernel
theorem dX10_digest_338 : decode cX10_digest 338 = .ok (.invokevirtual 121, 3) := by decide +kernel
theorem dX10_digest_341 : decode cX10_digest 341 = .ok (.invokevirtual 180, 3) := by decide +kernel
theorem dX10_digest_344 : decode cX10_digest 344 = .ok (.iinc 1 1, 3) := by decide +kernel
theorem dX10_digest_347 : decode cX10_digest 347 = .ok (.goto (-18), 3) := by decide +kernel
theorem dX10_digest_350 : decode cX10_digest 350 = .ok (.aload_n 0, 1) := by decide +kernel
theorem dX10_digest_351 : decode cX10_digest 351 = .ok (.aload_n 0, 1) := by decide +kernel
theorem dX10_digest_352 : decode cX10_digest 352 = .ok (.invokevirtual 124, 3) := by decide +kernel
theorem dX10_digest_355 : decode cX10_digest 355 = .ok (.ifCond .eq 7, 3) := by decide +kernel
theorem dX10_digest_358 : decode cX10_digest 358 = .ok (.iconst 1, 1) := by decide +kernel
theorem dX10_digest_359 : decode cX10_digest 359 = .ok (.goto 4, 3) := by decide +kernel
theorem dX10_digest_362 : decode cX10_digest 362 = .ok (.iconst 0, 1) := by decide +kernel
theorem dX10_digest_363 : decode cX10_digest 363 = .ok (.invokevirtual 180, 3) := by decide +kernel
theorem dX10_digest_366 : decode cX10_digest 366 = .ok (.aload_n 0, 1) := by decide +kernel
theorem dX10_digest_367 : decode cX10_digest 367 = .ok (.aload_n 0, 1) := by decide +kernel
theorem dX10_digest_368 : decode cX10_digest 368 = .ok (.getfield 10, 3) := by decide +kernel
theorem dX10_digest_371 : decode cX10_digest 371 = .ok (.invokevirtual 153, 3) := by decide +kernel
theorem dX10_digest_374 : decode cX10_digest 374 = .ok (.iconst 4, 1) := by decide +kernel
theorem dX10_digest_375 : decode cX10_digest 375 = .ok (.invokevirtual 80, 3) := by decide +kernel
theorem dX10_digest_378 : decode cX10_digest 378 = .ok (.invokevirtual 180, 3) := by decide +kernel
theorem dX10_digest_381 : decode cX10_digest 381 = .ok (.aload_n 0, 1) := by decide +kernel
theorem dX10_digest_382 : decode cX10_digest 382 = .ok (.aload_n 0, 1) := by decide +kernel
theorem dX10_digest_383 : decode cX10_digest 383 = .ok (.iconst 3, 1) := by decide +kernel
theorem dX10_digest_384 : decode cX10_digest 384 = .ok (.invokevirtual 170, 3) := by decide +kernel
theorem dX10_digest_387 : decode cX10_digest 387 = .ok (.invokevirtual 180, 3) := by decide +kernel
theorem dX10_digest_390 : decode cX10_digest 390 = .ok (.aload_n 0, 1) := by decide +kernel
theorem dX10_digest_391 : decode cX10_digest 391 = .ok (.getfield 173, 3) := by decide +kernel
theorem dX10_digest_394 : decode cX10_digest 394 = .ok (.lreturn, 1) := by decide +kernel
