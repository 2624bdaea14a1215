theorem dX8_init_0 : decode cX8_init 0 = .ok (.aload_n 0, 1) := by decide +kernel
theorem dX8_init_1 : decode cX8_init 1 = .ok (.invokespecial 1, 3) := by decide +kernel
theorem dX8_init_4 : decode cX8_init 4 = .ok (.aload_n 0, 1) := by decide +kernel
theorem dX8_init_5 : decode cX8_init 5 = .ok (.new 7, 3) := by decide +kernel
theorem dX8_init_8 : decode cX8_init 8 = .ok (.dup, 1) := by decide +kernel
theorem dX8_init_9 : decode cX8_init 9 = .ok (.invokespecial 9, 3) := by decide +kernel
theorem dX8_init_12 : decode cX8_init 12 = .ok (.putfield 10, 3) := by decide +kernel
theorem dX8_init_15 : decode cX8_init 15 = .ok (.aload_n 0, 1) := by decide +kernel
theorem dX8_init_16 : decode cX8_init 16 = .ok (.new 7, 3) := by decide +kernel
theorem dX8_init_19 : decode cX8_init 19 = .ok (.dup, 1) := by decide +kernel
theorem dX8_init_20 : decode cX8_init 20 = .ok (.invokespecial 9, 3) := by decide +kernel
theorem dX8_init_23 : decode cX8_init 23 = .ok (.putfield 16, 3) := by decide +kernel
theorem dX8_init_26 : decode cX8_init 26 = .ok (.return_, 1) := by decide +kernel
theorem dX8_block_0 : decode cX8_block 0 = .ok (.iload_n 1, 1) := by decide +kernel
theorem dX8_block_1 : decode cX8_block 1 = .ok (.bipush 10, 2) := by decide +kernel
theorem dX8_block_3 : decode cX8_block 3 = .ok (.bipush 99, 2) := by decide +kernel
theorem dX8_block_5 : decode cX8_block 5 = .ok (.invokestatic 19, 3) := by decide +kernel
theorem dX8_block_8 : decode cX8_block 8 = .ok (.iload_n 2, 1) := by decide +kernel
theorem dX8_block_9 : decode cX8_block 9 = .ok (.iconst 0, 1) := by decide +kernel
theorem dX8_block_10 : decode cX8_block 10 = .ok (.iconst 1, 1) := by decide +kernel
theorem dX8_block_11 : decode cX8_block 11 = .ok (.invokestatic 19, 3) := by decide +kernel
theorem dX8_block_14 : decode cX8_block 14 = .ok (.iload_n 3, 1) := by decide +kernel
theorem dX8_block_15 : decode cX8_block 15 = .ok (.iconst 0, 1) := by decide +kernel
theorem dX8_block_16 : decode cX8_block 16 = .ok (.sipush 2000, 3) := by decide +kernel
theorem dX8_block_19 : decode cX8_block 19 = .ok (.invokestatic 19, 3) := by decide +kernel
theorem dX8_block_22 : decode cX8_block 22 = .ok (.iload 4, 2) := by decide +kernel
theorem dX8_block_24 : decode cX8_block 24 = .ok (.iconst 0, 1) := by decide +kernel
theorem dX8_block_25 : decode cX8_block 25 = .ok (.sipush 400, 3) := by decide +kernel
theorem dX8_block_28 : decode cX8_block 28 = .ok (.invokestatic 19, 3) := by decide +kernel
theorem dX8_block_31 : decode cX8_block 31 = .ok (.iload 5, 2) := by decide +kernel
theorem dX8_block_33 : decode cX8_block 33 = .ok (.iconst 0, 1) := by decide +kernel
theorem dX8_block_34 : decode cX8_block 34 = .ok (.sipush 9999, 3) := by decide +kernel
theorem dX8_block_37 : decode cX8_block 37 = .ok (.invokestatic 19, 3) := by decide +kernel
theorem dX8_block_40 : decode cX8_block 40 = .ok (.aload_n 0, 1) := by decide +kernel
theorem dX8_block_41 : decode cX8_block 41 = .ok (.getfield 10, 3) := by decide +kernel
theorem dX8_block_44 : decode cX8_block 44 = .ok (.getfield 23, 3) := by decide +kernel
theorem dX8_block_47 : decode cX8_block 47 = .ok (.bipush 8, 2) := by decide +kernel
theorem dX8_block_49 : decode cX8_block 49 = .ok (.invokestatic 27, 3) := by decide +kernel
theorem dX8_block_52 : decode cX8_block 52 = .ok (.aload_n 0, 1) := by decide +kernel
theorem dX8_block_53 : decode cX8_block 53 = .ok (.getfield 10, 3) := by decide +kernel
theorem dX8_block_56 : decode cX8_block 56 = .ok (.getfield 23, 3) := by decide +kernel
theorem dX8_block_59 : decode cX8_block 59 = .ok (.istore 6, 2) := by decide +kernel
theorem dX8_block_61 : decode cX8_block 61 = .ok (.aload_n 0, 1) := by decide +kernel
theorem dX8_block_62 : decode cX8_block 62 = .ok (.getfield 10, 3) := by decide +kernel
theorem dX8_block_65 : decode cX8_block 65 = .ok (.getfield 31, 3) := by decide +kernel
theorem dX8_block_68 : decode cX8_block 68 = .ok (.iload 6, 2) := by decide +kernel
theorem dX8_block_70 : decode cX8_block 70 = .ok (.aaload, 1) := by decide +kernel
theorem dX8_block_71 : decode cX8_block 71 = .ok (.astore 7, 2) := by decide +kernel
theorem dX8_block_73 : decode cX8_block 73 = .ok (.aload 7, 2) := by decide +kernel
theorem dX8_block_75 : decode cX8_block 75 = .ok (.iload_n 1, 1) := by decide +kernel
theorem dX8_block_76 : decode cX8_block 76 = .ok (.putfield 35, 3) := by decide +kernel
theorem dX8_block_79 : decode cX8_block 79 = .ok (.aload 7, 2) := by decide +kernel
theorem dX8_block_81 : decode cX8_block 81 = .ok (.iload_n 2, 1) := by decide +kernel
theorem dX8_block_82 : decode cX8_block 82 = .ok (.putfield 40, 3) := by decide +kernel
theorem dX8_block_85 : decode cX8_block 85 = .ok (.aload 7, 2) := by decide +kernel
theorem dX8_block_87 : decode cX8_block 87 = .ok (.getfield 43, 3) := by decide +kernel
theorem dX8_block_90 : decode cX8_block 90 = .ok (.iload_n 3, 1) := by decide +kernel
theorem dX8_block_91 : decode cX8_block 91 = .ok (.putfield 47, 3) := by decide +kernel
theorem dX8_block_94 : decode cX8_block 94 = .ok (.aload 7, 2) := by decide +kernel
theorem dX8_block_96 : decode cX8_block 96 = .ok (.getfield 43, 3) := by decide +kernel
theorem dX8_block_99 : decode cX8_block 99 = .ok (.iload 4, 2) := by decide +kernel
theorem dX8_block_101 : decode cX8_block 101 = .ok (.iload_n 1, 1) := by decide +kernel
theorem dX8_block_102 : decode cX8_block 102 = .ok (.iload_n 3, 1) := by decide +kernel
theorem dX8_block_103 : decode cX8_block 103 = .ok (.iadd, 1) := by decide +kernel
theorem dX8_block_104 : decode cX8_block 104 = .ok (.imul, 1) := by decide +kernel
theorem dX8_block_105 : decode cX8_block 105 = .ok (.putfield 52, 3) := by decide +kernel
theorem dX8_block_108 : decode cX8_block 108 = .ok (.aload 7, 2) := by decide +kernel
theorem dX8_block_110 : decode cX8_block 110 = .ok (.getfield 43, 3) := by decide +kernel
theorem dX8_block_113 : decode cX8_block 113 = .ok (.iload 5, 2) := by decide +kernel
theorem dX8_block_115 : decode cX8_block 115 = .ok (.putfield 55, 3) := by decide +kernel
theorem dX8_block_118 : decode cX8_block 118 = .ok (.aload_n 0, 1) := by decide +kernel
theorem dX8_block_119 : decode cX8_block 119 = .ok (.getfield 10, 3) := by decide +kernel
theorem dX8_block_122 : decode cX8_block 122 = .ok (.getfield 58, 3) := by decide +kernel
theorem dX8_block_125 : decode cX8_block 125 = .ok (.getfield 62, 3) := by decide +kernel
theorem dX8_block_128 : decode cX8_block 128 = .ok (.aload 7, 2) := by decide +kernel
theorem dX8_block_130 : decode cX8_block 130 = .ok (.getfield 43, 3) := by decide +kernel
theorem dX8_block_133 : decode cX8_block 133 = .ok (.invokevirtual 67, 3) := by decide +kernel
theorem dX8_block_136 : decode cX8_block 136 = .ok (.aload_n 0, 1) := by decide +kernel
theorem dX8_block_137 : decode cX8_block 137 = .ok (.getfield 10, 3) := by decide +kernel
theorem dX8_block_140 : decode cX8_block 140 = .ok (.iload 6, 2) := by decide +kernel
theorem dX8_block_142 : decode cX8_block 142 = .ok (.iconst 1, 1) := by decide +kernel
theorem dX8_block_143 : decode cX8_block 143 = .ok (.iadd, 1) := by decide +kernel
theorem dX8_block_144 : decode cX8_block 144 = .ok (.putfield 23, 3) := by decide +kernel
theorem dX8_block_147 : decode cX8_block 147 = .ok (.iload 6, 2) := by decide +kernel
theorem dX8_block_149 : decode cX8_block 149 = .ok (.ireturn, 1) := by decide +kernel
theorem dX8_face_0 : decode cX8_face 0 = .ok (.iload_n 1, 1) := by decide +kernel
theorem dX8_face_1 : decode cX8_face 1 = .ok (.aload_n 0, 1) := by decide +kernel
theorem dX8_face_2 : decode cX8_face 2 = .ok (.getfield 10, 3) := by decide +kernel
theorem dX8_face_5 : decode cX8_face 5 = .ok (.getfield 23, 3) := by decide +kernel
theorem dX8_face_8 : decode cX8_face 8 = .ok (.invokestatic 71, 3) := by decide +kernel
theorem dX8_face_11 : decode cX8_face 11 = .ok (.iload_n 2, 1) := by decide +kernel
theorem dX8_face_12 : decode cX8_face 12 = .ok (.aload_n 0, 1) := by decide +kernel
theorem dX8_face_13 : decode cX8_face 13 = .ok (.getfield 10, 3) := by decide +kernel
theorem dX8_face_16 : decode cX8_face 16 = .ok (.getfield 23, 3) := by decide +kernel
theorem dX8_face_19 : decode cX8_face 19 = .ok (.invokestatic 71, 3) := by decide +kernel
theorem dX8_face_22 : decode cX8_face 22 = .ok (.iload_n 1, 1) := by decide +kernel
theorem dX8_face_23 : decode cX8_face 23 = .ok (.iload_n 2, 1) := by decide +kernel
theorem dX8_face_24 : decode cX8_face 24 = .ok (.if_icmp .ne 13, 3) := by decide +kernel
theorem dX8_face_27 : decode cX8_face 27 = .ok (.new 74, 3) := by decide +kernel
theorem dX8_face_30 : decode cX8_face 30 = .ok (.dup, 1) := by decide +kernel
theorem dX8_face_31 : decode cX8_face 31 = .ok (.ldc 76, 2) := by decide +kernel
theorem dX8_face_33 : decode cX8_face 33 = .ok (.invokespecial 78, 3) := by decide +kernel
theorem dX8_face_36 : decode cX8_face 36 = .ok (.athrow, 1) := by decide +kernel
theorem dX8_face_37 : decode cX8_face 37 = .ok (.iload_n 3, 1) := by decide +kernel
theorem dX8_face_38 : decode cX8_face 38 = .ok (.iconst 1, 1) := by decide +kernel
theorem dX8_face_39 : decode cX8_face 39 = .ok (.bipush 9, 2) := by decide +kernel
theorem dX8_face_41 : decode cX8_face 41 = .ok (.invokestatic 19, 3) := by decide +kernel
theorem dX8_face_44 : decode cX8_face 44 = .ok (.aload_n 0, 1) := by decide +kernel
theorem dX8_face_45 : decode cX8_face 45 = .ok (.getfield 10, 3) := by decide +kernel
theorem dX8_face_48 : decode cX8_face 48 = .ok (.getfield 81, 3) := by decide +kernel
theorem dX8_face_51 : decode cX8_face 51 = .ok (.bipush 12, 2) := by decide +kernel
theorem dX8_face_53 : decode cX8_face 53 = .ok (.invokestatic 27, 3) := by decide +kernel
theorem dX8_face_56 : decode cX8_face 56 = .ok (.aload_n 0, 1) := by decide +kernel
theorem dX8_face_57 : decode cX8_face 57 = .ok (.getfield 10, 3) := by decide +kernel
theorem dX8_face_60 : decode cX8_face 60 = .ok (.getfield 81, 3) := by decide +kernel
theorem dX8_face_63 : decode cX8_face 63 = .ok (.istore 4, 2) := by decide +kernel
theorem dX8_face_65 : decode cX8_face 65 = .ok (.aload_n 0, 1) := by decide +kernel
theorem dX8_face_66 : decode cX8_face 66 = .ok (.getfield 10, 3) := by decide +kernel
theorem dX8_face_69 : decode cX8_face 69 = .ok (.getfield 84, 3) := by decide +kernel
theorem dX8_face_72 : decode cX8_face 72 = .ok (.iload 4, 2) := by decide +kernel
theorem dX8_face_74 : decode cX8_face 74 = .ok (.aaload, 1) := by decide +kernel
theorem dX8_face_75 : decode cX8_face 75 = .ok (.astore 5, 2) := by decide +kernel
theorem dX8_face_77 : decode cX8_face 77 = .ok (.aload 5, 2) := by decide +kernel
theorem dX8_face_79 : decode cX8_face 79 = .ok (.iload_n 1, 1) := by decide +kernel
theorem dX8_face_80 : decode cX8_face 80 = .ok (.putfield 88, 3) := by decide +kernel
theorem dX8_face_83 : decode cX8_face 83 = .ok (.aload 5, 2) := by decide +kernel
theorem dX8_face_85 : decode cX8_face 85 = .ok (.iload_n 2, 1) := by decide +kernel
theorem dX8_face_86 : decode cX8_face 86 = .ok (.putfield 93, 3) := by decide +kernel
theorem dX8_face_89 : decode cX8_face 89 = .ok (.aload 5, 2) := by decide +kernel
theorem dX8_face_91 : decode cX8_face 91 = .ok (.iload_n 3, 1) := by decide +kernel
theorem dX8_face_92 : decode cX8_face 92 = .ok (.putfield 96, 3) := by decide +kernel
theorem dX8_face_95 : decode cX8_face 95 = .ok (.aload_n 0, 1) := by decide +kernel
theorem dX8_face_96 : decode cX8_face 96 = .ok (.getfield 10, 3) := by decide +kernel
theorem dX8_face_99 : decode cX8_face 99 = .ok (.iload 4, 2) := by decide +kernel
theorem dX8_face_101 : decode cX8_face 101 = .ok (.iconst 1, 1) := by decide +kernel
theorem dX8_face_102 : decode cX8_face 102 = .ok (.iadd, 1) := by decide +kernel
theorem dX8_face_103 : decode cX8_face 103 = .ok (.putfield 81, 3) := by decide +kernel
theorem dX8_face_106 : decode cX8_face 106 = .ok (.iload 4, 2) := by decide +kernel
theorem dX8_face_108 : decode cX8_face 108 = .ok (.ireturn, 1) := by decide +kernel
theorem dX8_well_0 : decode cX8_well 0 = .ok (.iload_n 1, 1) := by decide +kernel
theorem dX8_well_1 : decode cX8_well 1 = .ok (.aload_n 0, 1) := by decide +kernel
theorem dX8_well_2 : decode cX8_well 2 = .ok (.getfield 10, 3) := by decide +kernel
theorem dX8_well_5 : decode cX8_well 5 = .ok (.getfield 23, 3) := by decide +kernel
theorem dX8_well_8 : decode cX8_well 8 = .ok (.invokestatic 71, 3) := by decide +kernel
theorem dX8_well_11 : decode cX8_well 11 = .ok (.aload_n 0, 1) := by decide +kernel
theorem dX8_well_12 : decode cX8_well 12 = .ok (.getfield 10, 3) := by decide +kernel
theorem dX8_well_15 : decode cX8_well 15 = .ok (.getfield 99, 3) := by decide +kernel
theorem dX8_well_18 : decode cX8_well 18 = .ok (.bipush 6, 2) := by decide +kernel
theorem dX8_well_20 : decode cX8_well 20 = .ok (.invokestatic 27, 3) := by decide +kernel
theorem dX8_well_23 : decode cX8_well 23 = .ok (.aload_n 0, 1) := by decide +kernel
theorem dX8_well_24 : decode cX8_well 24 = .ok (.getfield 10, 3) := by decide +kernel
theorem dX8_well_27 : decode cX8_well 27 = .ok (.getfield 99, 3) := by decide +kernel
theorem dX8_well_30 : decode cX8_well 30 = .ok (.istore_n 3, 1) := by decide +kernel
theorem dX8_well_31 : decode cX8_well 31 = .ok (.aload_n 0, 1) := by decide +kernel
theorem dX8_well_32 : decode cX8_well 32 = .ok (.getfield 10, 3) := by decide +kernel
theorem dX8_well_35 : decode cX8_well 35 = .ok (.getfield 102, 3) := by decide +kernel
theorem dX8_well_38 : decode cX8_well 38 = .ok (.iload_n 3, 1) := by decide +kernel
theorem dX8_well_39 : decode cX8_well 39 = .ok (.aaload, 1) := by decide +kernel
theorem dX8_well_40 : decode cX8_well 40 = .ok (.astore 4, 2) := by decide +kernel
theorem dX8_well_42 : decode cX8_well 42 = .ok (.aload 4, 2) := by decide +kernel
theorem dX8_well_44 : decode cX8_well 44 = .ok (.iload_n 1, 1) := by decide +kernel
theorem dX8_well_45 : decode cX8_well 45 = .ok (.putfield 106, 3) := by decide +kernel
theorem dX8_well_48 : decode cX8_well 48 = .ok (.aload 4, 2) := by decide +kernel
theorem dX8_well_50 : decode cX8_well 50 = .ok (.iload_n 2, 1) := by decide +kernel
theorem dX8_well_51 : decode cX8_well 51 = .ok (.putfield 111, 3) := by decide +kernel
theorem dX8_well_54 : decode cX8_well 54 = .ok (.aload_n 0, 1) := by decide +kernel
theorem dX8_well_55 : decode cX8_well 55 = .ok (.getfield 10, 3) := by decide +kernel
theorem dX8_well_58 : decode cX8_well 58 = .ok (.iload_n 3, 1) := by decide +kernel
theorem dX8_well_59 : decode cX8_well 59 = .ok (.iconst 1, 1) := by decide +kernel
theorem dX8_well_60 : decode cX8_well 60 = .ok (.iadd, 1) := by decide +kernel
theorem dX8_well_61 : decode cX8_well 61 = .ok (.putfield 99, 3) := by decide +kernel
theorem dX8_well_64 : decode cX8_well 64 = .ok (.iload_n 3, 1) := by decide +kernel
theorem dX8_well_65 : decode cX8_well 65 = .ok (.ireturn, 1) := by decide +kernel
theorem dX8_spring_0 : decode cX8_spring 0 = .ok (.iload_n 1, 1) := by decide +kernel
theorem dX8_spring_1 : decode cX8_spring 1 = .ok (.aload_n 0, 1) := by decide +kernel
theorem dX8_spring_2 : decode cX8_spring 2 = .ok (.getfield 10, 3) := by decide +kernel
theorem dX8_spring_5 : decode cX8_spring 5 = .ok (.getfield 23, 3) := by decide +kernel
theorem dX8_spring_8 : decode cX8_spring 8 = .ok (.invokestatic 71, 3) := by decide +kernel
theorem dX8_spring_11 : decode cX8_spring 11 = .ok (.iload_n 2, 1) := by decide +kernel
theorem dX8_spring_12 : decode cX8_spring 12 = .ok (.iconst 0, 1) := by decide +kernel
theorem dX8_spring_13 : decode cX8_spring 13 = .ok (.sipush 300, 3) := by decide +kernel
theorem dX8_spring_16 : decode cX8_spring 16 = .ok (.invokestatic 19, 3) := by decide +kernel
theorem dX8_spring_19 : decode cX8_spring 19 = .ok (.iload_n 3, 1) := by decide +kernel
theorem dX8_spring_20 : decode cX8_spring 20 = .ok (.iconst 0, 1) := by decide +kernel
theorem dX8_spring_21 : decode cX8_spring 21 = .ok (.bipush 50, 2) := by decide +kernel
theorem dX8_spring_23 : decode cX8_spring 23 = .ok (.invokestatic 19, 3) := by decide +kernel
theorem dX8_spring_26 : decode cX8_spring 26 = .ok (.aload_n 0, 1) := by decide +kernel
theorem dX8_spring_27 : decode cX8_spring 27 = .ok (.getfield 10, 3) := by decide +kernel
theorem dX8_spring_30 : decode cX8_spring 30 = .ok (.getfield 115, 3) := by decide +kernel
theorem dX8_spring_33 : decode cX8_spring 33 = .ok (.iconst 3, 1) := by decide +kernel
theorem dX8_spring_34 : decode cX8_spring 34 = .ok (.invokestatic 27, 3) := by decide +kernel
theorem dX8_spring_37 : decode cX8_spring 37 = .ok (.aload_n 0, 1) := by decide +kernel
theorem dX8_spring_38 : decode cX8_spring 38 = .ok (.getfield 10, 3) := by decide +kernel
theorem dX8_spring_41 : decode cX8_spring 41 = .ok (.getfield 115, 3) := by decide +kernel
theorem dX8_spring_44 : decode cX8_spring 44 = .ok (.istore 4, 2) := by decide +kernel
theorem dX8_spring_46 : decode cX8_spring 46 = .ok (.aload_n 0, 1) := by decide +kernel
theorem dX8_spring_47 : decode cX8_spring 47 = .ok (.getfield 10, 3) := by decide +kernel
theorem dX8_spring_50 : decode cX8_spring 50 = .ok (.getfield 118, 3) := by decide +kernel
theorem dX8_spring_53 : decode cX8_spring 53 = .ok (.iload 4, 2) := by decide +kernel
theorem dX8_spring_55 : decode cX8_spring 55 = .ok (.aaload, 1) := by decide +kernel
theorem dX8_spring_56 : decode cX8_spring 56 = .ok (.astore 5, 2) := by decide +kernel
theorem dX8_spring_58 : decode cX8_spring 58 = .ok (.aload 5, 2) := by decide +kernel
theorem dX8_spring_60 : decode cX8_spring 60 = .ok (.iload_n 1, 1) := by decide +kernel
theorem dX8_spring_61 : decode cX8_spring 61 = .ok (.putfield 122, 3) := by decide +kernel
theorem dX8_spring_64 : decode cX8_spring 64 = .ok (.aload 5, 2) := by decide +kernel
theorem dX8_spring_66 : decode cX8_spring 66 = .ok (.iload_n 2, 1) := by decide +kernel
theorem dX8_spring_67 : decode cX8_spring 67 = .ok (.putfield 125, 3) := by decide +kernel
theorem dX8_spring_70 : decode cX8_spring 70 = .ok (.aload 5, 2) := by decide +kernel
theorem dX8_spring_72 : decode cX8_spring 72 = .ok (.iload_n 3, 1) := by decide +kernel
theorem dX8_spring_73 : decode cX8_spring 73 = .ok (.putfield 128, 3) := by decide +kernel
theorem dX8_spring_76 : decode cX8_spring 76 = .ok (.aload_n 0, 1) := by decide +kernel
theorem dX8_spring_77 : decode cX8_spring 77 = .ok (.getfield 10, 3) := by decide +kernel
theorem dX8_spring_80 : decode cX8_spring 80 = .ok (.iload 4, 2) := by decide +kernel
theorem dX8_spring_82 : decode cX8_spring 82 = .ok (.iconst 1, 1) := by decide +kernel
theorem dX8_spring_83 : decode cX8_spring 83 = .ok (.iadd, 1) := by decide +kernel
theorem dX8_spring_84 : decode cX8_spring 84 = .ok (.putfield 115, 3) := by decide +kernel
theorem dX8_spring_87 : decode cX8_spring 87 = .ok (.iload 4, 2) := by decide +kernel
theorem dX8_spring_89 : decode cX8_spring 89 = .ok (.ireturn, 1) := by decide +kernel
theorem dX8_valve_0 : decode cX8_valve 0 = .ok (.iload_n 1, 1) := by decide +kernel
theorem dX8_valve_1 : decode cX8_valve 1 = .ok (.aload_n 0, 1) := by decide +kernel
theorem dX8_valve_2 : decode cX8_valve 2 = .ok (.getfield 10, 3) := by decide +kernel
theorem dX8_valve_5 : decode cX8_valve 5 = .ok (.getfield 99, 3) := by decide +kernel
theorem dX8_valve_8 : decode cX8_valve 8 = .ok (.invokestatic 71, 3) := by decide +kernel
theorem dX8_valve_11 : decode cX8_valve 11 = .ok (.iload_n 2, 1) := by decide +kernel
theorem dX8_valve_12 : decode cX8_valve 12 = .ok (.iconst 0, 1) := by decide +kernel
theorem dX8_valve_13 : decode cX8_valve 13 = .ok (.bipush 9, 2) := by decide +kernel
theorem dX8_valve_15 : decode cX8_valve 15 = .ok (.invokestatic 19, 3) := by decide +kernel
theorem dX8_valve_18 : decode cX8_valve 18 = .ok (.aload_n 0, 1) := by decide +kernel
theorem dX8_valve_19 : decode cX8_valve 19 = .ok (.getfield 10, 3) := by decide +kernel
theorem dX8_valve_22 : decode cX8_valve 22 = .ok (.getfield 102, 3) := by decide +kernel
theorem dX8_valve_25 : decode cX8_valve 25 = .ok (.iload_n 1, 1) := by decide +kernel
theorem dX8_valve_26 : decode cX8_valve 26 = .ok (.aaload, 1) := by decide +kernel
theorem dX8_valve_27 : decode cX8_valve 27 = .ok (.getfield 131, 3) := by decide +kernel
theorem dX8_valve_30 : decode cX8_valve 30 = .ok (.istore_n 3, 1) := by decide +kernel
theorem dX8_valve_31 : decode cX8_valve 31 = .ok (.aload_n 0, 1) := by decide +kernel
theorem dX8_valve_32 : decode cX8_valve 32 = .ok (.getfield 10, 3) := by decide +kernel
theorem dX8_valve_35 : decode cX8_valve 35 = .ok (.getfield 102, 3) := by decide +kernel
theorem dX8_valve_38 : decode cX8_valve 38 = .ok (.iload_n 1, 1) := by decide +kernel
theorem dX8_valve_39 : decode cX8_valve 39 = .ok (.aaload, 1) := by decide +kernel
theorem dX8_valve_40 : decode cX8_valve 40 = .ok (.iload_n 2, 1) := by decide +kernel
theorem dX8_valve_41 : decode cX8_valve 41 = .ok (.putfield 131, 3) := by decide +kernel
theorem dX8_valve_44 : decode cX8_valve 44 = .ok (.iload_n 3, 1) := by decide +kernel
theorem dX8_valve_45 : decode cX8_valve 45 = .ok (.ireturn, 1) := by decide +kernel
theorem dX8_trace_0 : decode cX8_trace 0 = .ok (.iload_n 1, 1) := by decide +kernel
theorem dX8_trace_1 : decode cX8_trace 1 = .ok (.aload_n 0, 1) := by decide +kernel
theorem dX8_trace_2 : decode cX8_trace 2 = .ok (.getfield 10, 3) := by decide +kernel
theorem dX8_trace_5 : decode cX8_trace 5 = .ok (.getfield 99, 3) := by decide +kernel
theorem dX8_trace_8 : decode cX8_trace 8 = .ok (.invokestatic 71, 3) := by decide +kernel
theorem dX8_trace_11 : decode cX8_trace 11 = .ok (.iload_n 2, 1) := by decide +kernel
theorem dX8_trace_12 : decode cX8_trace 12 = .ok (.iconst 1, 1) := by decide +kernel
theorem dX8_trace_13 : decode cX8_trace 13 = .ok (.sipush 999, 3) := by decide +kernel
theorem dX8_trace_16 : decode cX8_trace 16 = .ok (.invokestatic 19, 3) := by decide +kernel
theorem dX8_trace_19 : decode cX8_trace 19 = .ok (.aload_n 0, 1) := by decide +kernel
theorem dX8_trace_20 : decode cX8_trace 20 = .ok (.getfield 10, 3) := by decide +kernel
theorem dX8_trace_23 : decode cX8_trace 23 = .ok (.getfield 31, 3) := by decide +kernel
theorem dX8_trace_26 : decode cX8_trace 26 = .ok (.aload_n 0, 1) := by decide +kernel
theorem dX8_trace_27 : decode cX8_trace 27 = .ok (.getfield 10, 3) := by decide +kernel
theorem dX8_trace_30 : decode cX8_trace 30 = .ok (.getfield 102, 3) := by decide +kernel
theorem dX8_trace_33 : decode cX8_trace 33 = .ok (.iload_n 1, 1) := by decide +kernel
theorem dX8_trace_34 : decode cX8_trace 34 = .ok (.aaload, 1) := by decide +kernel
theorem dX8_trace_35 : decode cX8_trace 35 = .ok (.getfield 106, 3) := by decide +kernel
theorem dX8_trace_38 : decode cX8_trace 38 = .ok (.aaload, 1) := by decide +kernel
theorem dX8_trace_39 : decode cX8_trace 39 = .ok (.getfield 43, 3) := by decide +kernel
theorem dX8_trace_42 : decode cX8_trace 42 = .ok (.astore_n 3, 1) := by decide +kernel
theorem dX8_trace_43 : decode cX8_trace 43 = .ok (.aload_n 3, 1) := by decide +kernel
theorem dX8_trace_44 : decode cX8_trace 44 = .ok (.getfield 47, 3) := by decide +kernel
theorem dX8_trace_47 : decode cX8_trace 47 = .ok (.ifCond .gt 13, 3) := by decide +kernel
theorem dX8_trace_50 : decode cX8_trace 50 = .ok (.new 134, 3) := by decide +kernel
theorem dX8_trace_53 : decode cX8_trace 53 = .ok (.dup, 1) := by decide +kernel
theorem dX8_trace_54 : decode cX8_trace 54 = .ok (.ldc 136, 2) := by decide +kernel
theorem dX8_trace_56 : decode cX8_trace 56 = .ok (.invokespecial 138, 3) := by decide +kernel
theorem dX8_trace_59 : decode cX8_trace 59 = .ok (.athrow, 1) := by decide +kernel
theorem dX8_trace_60 : decode cX8_trace 60 = .ok (.aload_n 3, 1) := by decide +kernel
theorem dX8_trace_61 : decode cX8_trace 61 = .ok (.dup, 1) := by decide +kernel
theorem dX8_trace_62 : decode cX8_trace 62 = .ok (.getfield 139, 3) := by decide +kernel
theorem dX8_trace_65 : decode cX8_trace 65 = .ok (.iload_n 2, 1) := by decide +kernel
theorem dX8_trace_66 : decode cX8_trace 66 = .ok (.iadd, 1) := by decide +kernel
theorem dX8_trace_67 : decode cX8_trace 67 = .ok (.putfield 139, 3) := by decide +kernel
theorem dX8_trace_70 : decode cX8_trace 70 = .ok (.aload_n 0, 1) := by decide +kernel
theorem dX8_trace_71 : decode cX8_trace 71 = .ok (.getfield 10, 3) := by decide +kernel
theorem dX8_trace_74 : decode cX8_trace 74 = .ok (.getfield 58, 3) := by decide +kernel
theorem dX8_trace_77 : decode cX8_trace 77 = .ok (.getfield 62, 3) := by decide +kernel
theorem dX8_trace_80 : decode cX8_trace 80 = .ok (.dup, 1) := by decide +kernel
theorem dX8_trace_81 : decode cX8_trace 81 = .ok (.getfield 139, 3) := by decide +kernel
theorem dX8_trace_84 : decode cX8_trace 84 = .ok (.iload_n 2, 1) := by decide +kernel
theorem dX8_trace_85 : decode cX8_trace 85 = .ok (.iadd, 1) := by decide +kernel
theorem dX8_trace_86 : decode cX8_trace 86 = .ok (.putfield 139, 3) := by decide +kernel
theorem dX8_trace_89 : decode cX8_trace 89 = .ok (.aload_n 3, 1) := by decide +kernel
theorem dX8_trace_90 : decode cX8_trace 90 = .ok (.getfield 139, 3) := by decide +kernel
theorem dX8_trace_93 : decode cX8_trace 93 = .ok (.ireturn, 1) := by decide +kernel
theorem dX8_clean_0 : decode cX8_clean 0 = .ok (.iload_n 1, 1) := by decide +kernel
theorem dX8_clean_1 : decode cX8_clean 1 = .ok (.aload_n 0, 1) := by decide +kernel
theorem dX8_clean_2 : decode cX8_clean 2 = .ok (.getfield 10, 3) := by decide +kernel
theorem dX8_clean_5 : decode cX8_clean 5 = .ok (.getfield 99, 3) := by decide +kernel
theorem dX8_clean_8 : decode cX8_clean 8 = .ok (.invokestatic 71, 3) := by decide +kernel
theorem dX8_clean_11 : decode cX8_clean 11 = .ok (.aload_n 0, 1) := by decide +kernel
theorem dX8_clean_12 : decode cX8_clean 12 = .ok (.getfield 10, 3) := by decide +kernel
theorem dX8_clean_15 : decode cX8_clean 15 = .ok (.getfield 102, 3) := by decide +kernel
theorem dX8_clean_18 : decode cX8_clean 18 = .ok (.iload_n 1, 1) := by decide +kernel
theorem dX8_clean_19 : decode cX8_clean 19 = .ok (.aaload, 1) := by decide +kernel
theorem dX8_clean_20 : decode cX8_clean 20 = .ok (.astore_n 2, 1) := by decide +kernel
theorem dX8_clean_21 : decode cX8_clean 21 = .ok (.aload_n 0, 1) := by decide +kernel
theorem dX8_clean_22 : decode cX8_clean 22 = .ok (.getfield 10, 3) := by decide +kernel
theorem dX8_clean_25 : decode cX8_clean 25 = .ok (.getfield 31, 3) := by decide +kernel
theorem dX8_clean_28 : decode cX8_clean 28 = .ok (.aload_n 2, 1) := by decide +kernel
theorem dX8_clean_29 : decode cX8_clean 29 = .ok (.getfield 106, 3) := by decide +kernel
theorem dX8_clean_32 : decode cX8_clean 32 = .ok (.aaload, 1) := by decide +kernel
theorem dX8_clean_33 : decode cX8_clean 33 = .ok (.getfield 40, 3) := by decide +kernel
theorem dX8_clean_36 : decode cX8_clean 36 = .ok (.istore_n 3, 1) := by decide +kernel
theorem dX8_clean_37 : decode cX8_clean 37 = .ok (.iconst 5, 1) := by decide +kernel
theorem dX8_clean_38 : decode cX8_clean 38 = .ok (.aload_n 2, 1) := by decide +kernel
theorem dX8_clean_39 : decode cX8_clean 39 = .ok (.getfield 142, 3) := by decide +kernel
theorem dX8_clean_42 : decode cX8_clean 42 = .ok (.imul, 1) := by decide +kernel
theorem dX8_clean_43 : decode cX8_clean 43 = .ok (.istore 4, 2) := by decide +kernel
theorem dX8_clean_45 : decode cX8_clean 45 = .ok (.aload_n 0, 1) := by decide +kernel
theorem dX8_clean_46 : decode cX8_clean 46 = .ok (.getfield 10, 3) := by decide +kernel
theorem dX8_clean_49 : decode cX8_clean 49 = .ok (.getfield 145, 3) := by decide +kernel
theorem dX8_clean_52 : decode cX8_clean 52 = .ok (.iload_n 3, 1) := by decide +kernel
theorem dX8_clean_53 : decode cX8_clean 53 = .ok (.iaload, 1) := by decide +kernel
theorem dX8_clean_54 : decode cX8_clean 54 = .ok (.iload 4, 2) := by decide +kernel
theorem dX8_clean_56 : decode cX8_clean 56 = .ok (.if_icmp .ge 13, 3) := by decide +kernel
theorem dX8_clean_59 : decode cX8_clean 59 = .ok (.new 134, 3) := by decide +kernel
theorem dX8_clean_62 : decode cX8_clean 62 = .ok (.dup, 1) := by decide +kernel
theorem dX8_clean_63 : decode cX8_clean 63 = .ok (.ldc 149, 2) := by decide +kernel
theorem dX8_clean_65 : decode cX8_clean 65 = .ok (.invokespecial 138, 3) := by decide +kernel
theorem dX8_clean_68 : decode cX8_clean 68 = .ok (.athrow, 1) := by decide +kernel
theorem dX8_clean_69 : decode cX8_clean 69 = .ok (.aload_n 2, 1) := by decide +kernel
theorem dX8_clean_70 : decode cX8_clean 70 = .ok (.getfield 142, 3) := by decide +kernel
theorem dX8_clean_73 : decode cX8_clean 73 = .ok (.istore 5, 2) := by decide +kernel
theorem dX8_clean_75 : decode cX8_clean 75 = .ok (.aload_n 0, 1) := by decide +kernel
theorem dX8_clean_76 : decode cX8_clean 76 = .ok (.getfield 10, 3) := by decide +kernel
theorem dX8_clean_79 : decode cX8_clean 79 = .ok (.getfield 145, 3) := by decide +kernel
theorem dX8_clean_82 : decode cX8_clean 82 = .ok (.iload_n 3, 1) := by decide +kernel
theorem dX8_clean_83 : decode cX8_clean 83 = .ok (.dup2, 1) := by decide +kernel
theorem dX8_clean_84 : decode cX8_clean 84 = .ok (.iaload, 1) := by decide +kernel
theorem dX8_clean_85 : decode cX8_clean 85 = .ok (.iload 4, 2) := by decide +kernel
theorem dX8_clean_87 : decode cX8_clean 87 = .ok (.isub, 1) := by decide +kernel
theorem dX8_clean_88 : decode cX8_clean 88 = .ok (.iastore, 1) := by decide +kernel
theorem dX8_clean_89 : decode cX8_clean 89 = .ok (.aload_n 2, 1) := by decide +kernel
theorem dX8_clean_90 : decode cX8_clean 90 = .ok (.iconst 0, 1) := by decide +kernel
theorem dX8_clean_91 : decode cX8_clean 91 = .ok (.putfield 142, 3) := by decide +kernel
theorem dX8_clean_94 : decode cX8_clean 94 = .ok (.aload_n 2, 1) := by decide +kernel
theorem dX8_clean_95 : decode cX8_clean 95 = .ok (.iconst 0, 1) := by decide +kernel
theorem dX8_clean_96 : decode cX8_clean 96 = .ok (.putfield 151, 3) := by decide +kernel
theorem dX8_clean_99 : decode cX8_clean 99 = .ok (.iload 5, 2) := by decide +kernel
theorem dX8_clean_101 : decode cX8_clean 101 = .ok (.ireturn, 1) := by decide +kernel
theorem dX8_turbine_0 : decode cX8_turbine 0 = .ok (.iload_n 1, 1) := by decide +kernel
theorem dX8_turbine_1 : decode cX8_turbine 1 = .ok (.iconst 0, 1) := by decide +kernel
theorem dX8_turbine_2 : decode cX8_turbine 2 = .ok (.bipush 99, 2) := by decide +kernel
theorem dX8_turbine_4 : decode cX8_turbine 4 = .ok (.invokestatic 19, 3) := by decide +kernel
theorem dX8_turbine_7 : decode cX8_turbine 7 = .ok (.aload_n 0, 1) := by decide +kernel
theorem dX8_turbine_8 : decode cX8_turbine 8 = .ok (.getfield 10, 3) := by decide +kernel
theorem dX8_turbine_11 : decode cX8_turbine 11 = .ok (.getfield 154, 3) := by decide +kernel
theorem dX8_turbine_14 : decode cX8_turbine 14 = .ok (.getfield 158, 3) := by decide +kernel
theorem dX8_turbine_17 : decode cX8_turbine 17 = .ok (.istore_n 2, 1) := by decide +kernel
theorem dX8_turbine_18 : decode cX8_turbine 18 = .ok (.aload_n 0, 1) := by decide +kernel
theorem dX8_turbine_19 : decode cX8_turbine 19 = .ok (.getfield 10, 3) := by decide +kernel
theorem dX8_turbine_22 : decode cX8_turbine 22 = .ok (.getfield 154, 3) := by decide +kernel
theorem dX8_turbine_25 : decode cX8_turbine 25 = .ok (.iload_n 1, 1) := by decide +kernel
theorem dX8_turbine_26 : decode cX8_turbine 26 = .ok (.putfield 158, 3) := by decide +kernel
theorem dX8_turbine_29 : decode cX8_turbine 29 = .ok (.aload_n 0, 1) := by decide +kernel
theorem dX8_turbine_30 : decode cX8_turbine 30 = .ok (.getfield 10, 3) := by decide +kernel
theorem dX8_turbine_33 : decode cX8_turbine 33 = .ok (.getfield 154, 3) := by decide +kernel
theorem dX8_turbine_36 : decode cX8_turbine 36 = .ok (.iconst 1, 1) := by decide +kernel
theorem dX8_turbine_37 : decode cX8_turbine 37 = .ok (.putfield 163, 3) := by decide +kernel
theorem dX8_turbine_40 : decode cX8_turbine 40 = .ok (.iload_n 2, 1) := by decide +kernel
theorem dX8_turbine_41 : decode cX8_turbine 41 = .ok (.ireturn, 1) := by decide +kernel
theorem dX8_town_0 : decode cX8_town 0 = .ok (.iload_n 1, 1) := by decide +kernel
theorem dX8_town_1 : decode cX8_town 1 = .ok (.iconst 0, 1) := by decide +kernel
theorem dX8_town_2 : decode cX8_town 2 = .ok (.sipush 999, 3) := by decide +kernel
theorem dX8_town_5 : decode cX8_town 5 = .ok (.invokestatic 19, 3) := by decide +kernel
theorem dX8_town_8 : decode cX8_town 8 = .ok (.aload_n 0, 1) := by decide +kernel
theorem dX8_town_9 : decode cX8_town 9 = .ok (.getfield 10, 3) := by decide +kernel
theorem dX8_town_12 : decode cX8_town 12 = .ok (.getfield 154, 3) := by decide +kernel
theorem dX8_town_15 : decode cX8_town 15 = .ok (.getfield 166, 3) := by decide +kernel
theorem dX8_town_18 : decode cX8_town 18 = .ok (.istore_n 2, 1) := by decide +kernel
theorem dX8_town_19 : decode cX8_town 19 = .ok (.aload_n 0, 1) := by decide +kernel
theorem dX8_town_20 : decode cX8_town 20 = .ok (.getfield 10, 3) := by decide +kernel
theorem dX8_town_23 : decode cX8_town 23 = .ok (.getfield 154, 3) := by decide +kernel
theorem dX8_town_26 : decode cX8_town 26 = .ok (.iload_n 1, 1) := by decide +kernel
theorem dX8_town_27 : decode cX8_town 27 = .ok (.putfield 166, 3) := by decide +kernel
theorem dX8_town_30 : decode cX8_town 30 = .ok (.iload_n 2, 1) := by decide +kernel
theorem dX8_town_31 : decode cX8_town 31 = .ok (.ireturn, 1) := by decide +kernel
theorem dX8_run_0 : decode cX8_run 0 = .ok (.iload_n 1, 1) := by decide +kernel
theorem dX8_run_1 : decode cX8_run 1 = .ok (.iconst 1, 1) := by decide +kernel
theorem dX8_run_2 : decode cX8_run 2 = .ok (.bipush 30, 2) := by decide +kernel
theorem dX8_run_4 : decode cX8_run 4 = .ok (.invokestatic 19, 3) := by decide +kernel
theorem dX8_run_7 : decode cX8_run 7 = .ok (.aload_n 0, 1) := by decide +kernel
theorem dX8_run_8 : decode cX8_run 8 = .ok (.getfield 10, 3) := by decide +kernel
theorem dX8_run_11 : decode cX8_run 11 = .ok (.iload_n 1, 1) := by decide +kernel
theorem dX8_run_12 : decode cX8_run 12 = .ok (.invokestatic 169, 3) := by decide +kernel
theorem dX8_run_15 : decode cX8_run 15 = .ok (.ireturn, 1) := by decide +kernel
theorem dX8_ofBlock_0 : decode cX8_ofBlock 0 = .ok (.iload_n 1, 1) := by decide +kernel
theorem dX8_ofBlock_1 : decode cX8_ofBlock 1 = .ok (.aload_n 0, 1) := by decide +kernel
theorem dX8_ofBlock_2 : decode cX8_ofBlock 2 = .ok (.getfield 10, 3) := by decide +kernel
theorem dX8_ofBlock_5 : decode cX8_ofBlock 5 = .ok (.getfield 23, 3) := by decide +kernel
theorem dX8_ofBlock_8 : decode cX8_ofBlock 8 = .ok (.invokestatic 71, 3) := by decide +kernel
theorem dX8_ofBlock_11 : decode cX8_ofBlock 11 = .ok (.iload_n 2, 1) := by decide +kernel
theorem dX8_ofBlock_12 : decode cX8_ofBlock 12 = .ok (.iconst 0, 1) := by decide +kernel
theorem dX8_ofBlock_13 : decode cX8_ofBlock 13 = .ok (.iconst 5, 1) := by decide +kernel
theorem dX8_ofBlock_14 : decode cX8_ofBlock 14 = .ok (.invokestatic 19, 3) := by decide +kernel
theorem dX8_ofBlock_17 : decode cX8_ofBlock 17 = .ok (.aload_n 0, 1) := by decide +kernel
theorem dX8_ofBlock_18 : decode cX8_ofBlock 18 = .ok (.getfield 10, 3) := by decide +kernel
theorem dX8_ofBlock_21 : decode cX8_ofBlock 21 = .ok (.getfield 31, 3) := by decide +kernel
theorem dX8_ofBlock_24 : decode cX8_ofBlock 24 = .ok (.iload_n 1, 1) := by decide +kernel
theorem dX8_ofBlock_25 : decode cX8_ofBlock 25 = .ok (.aaload, 1) := by decide +kernel
theorem dX8_ofBlock_26 : decode cX8_ofBlock 26 = .ok (.astore_n 3, 1) := by decide +kernel
theorem dX8_ofBlock_27 : decode cX8_ofBlock 27 = .ok (.iload_n 2, 1) := by decide +kernel
theorem dX8_ofBlock_28 : decode cX8_ofBlock 28 = .ok (.lookupswitch 38 #[(4, 28), (5, 33)], 28) := by decide +kernel
theorem dX8_ofBlock_56 : decode cX8_ofBlock 56 = .ok (.aload_n 3, 1) := by decide +kernel
theorem dX8_ofBlock_57 : decode cX8_ofBlock 57 = .ok (.invokevirtual 173, 3) := by decide +kernel
theorem dX8_ofBlock_60 : decode cX8_ofBlock 60 = .ok (.ireturn, 1) := by decide +kernel
theorem dX8_ofBlock_61 : decode cX8_ofBlock 61 = .ok (.aload_n 3, 1) := by decide +kernel
theorem dX8_ofBlock_62 : decode cX8_ofBlock 62 = .ok (.invokevirtual 177, 3) := by decide +kernel
theorem dX8_ofBlock_65 : decode cX8_ofBlock 65 = .ok (.ireturn, 1) := by decide +kernel
theorem dX8_ofBlock_66 : decode cX8_ofBlock 66 = .ok (.aload_n 3, 1) := by decide +kernel
theorem dX8_ofBlock_67 : decode cX8_ofBlock 67 = .ok (.getfield 43, 3) := by decide +kernel
theorem dX8_ofBlock_70 : decode cX8_ofBlock 70 = .ok (.iload_n 2, 1) := by decide +kernel
theorem dX8_ofBlock_71 : decode cX8_ofBlock 71 = .ok (.invokevirtual 180, 3) := by decide +kernel
theorem dX8_ofBlock_74 : decode cX8_ofBlock 74 = .ok (.ireturn, 1) := by decide +kernel
theorem dX8_ofWell_0 : decode cX8_ofWell 0 = .ok (.iload_n 1, 1) := by decide +kernel
theorem dX8_ofWell_1 : decode cX8_ofWell 1 = .ok (.aload_n 0, 1) := by decide +kernel
theorem dX8_ofWell_2 : decode cX8_ofWell 2 = .ok (.getfield 10, 3) := by decide +kernel
theorem dX8_ofWell_5 : decode cX8_ofWell 5 = .ok (.getfield 99, 3) := by decide +kernel
theorem dX8_ofWell_8 : decode cX8_ofWell 8 = .ok (.invokestatic 71, 3) := by decide +kernel
theorem dX8_ofWell_11 : decode cX8_ofWell 11 = .ok (.iload_n 2, 1) := by decide +kernel
theorem dX8_ofWell_12 : decode cX8_ofWell 12 = .ok (.iconst 0, 1) := by decide +kernel
theorem dX8_ofWell_13 : decode cX8_ofWell 13 = .ok (.bipush 8, 2) := by decide +kernel
theorem dX8_ofWell_15 : decode cX8_ofWell 15 = .ok (.invokestatic 19, 3) := by decide +kernel
theorem dX8_ofWell_18 : decode cX8_ofWell 18 = .ok (.aload_n 0, 1) := by decide +kernel
theorem dX8_ofWell_19 : decode cX8_ofWell 19 = .ok (.getfield 10, 3) := by decide +kernel
theorem dX8_ofWell_22 : decode cX8_ofWell 22 = .ok (.getfield 102, 3) := by decide +kernel
theorem dX8_ofWell_25 : decode cX8_ofWell 25 = .ok (.iload_n 1, 1) := by decide +kernel
theorem dX8_ofWell_26 : decode cX8_ofWell 26 = .ok (.aaload, 1) := by decide +kernel
theorem dX8_ofWell_27 : decode cX8_ofWell 27 = .ok (.astore_n 3, 1) := by decide +kernel
theorem dX8_ofWell_28 : decode cX8_ofWell 28 = .ok (.iload_n 2, 1) := by decide +kernel
theorem dX8_ofWell_29 : decode cX8_ofWell 29 = .ok (.tableswitch 95 0 7 #[47, 52, 65, 70, 75, 80, 85, 90], 47) := by decide +kernel
theorem dX8_ofWell_76 : decode cX8_ofWell 76 = .ok (.aload_n 3, 1) := by decide +kernel
theorem dX8_ofWell_77 : decode cX8_ofWell 77 = .ok (.getfield 106, 3) := by decide +kernel
theorem dX8_ofWell_80 : decode cX8_ofWell 80 = .ok (.ireturn, 1) := by decide +kernel
theorem dX8_ofWell_81 : decode cX8_ofWell 81 = .ok (.aload_n 3, 1) := by decide +kernel
theorem dX8_ofWell_82 : decode cX8_ofWell 82 = .ok (.getfield 111, 3) := by decide +kernel
theorem dX8_ofWell_85 : decode cX8_ofWell 85 = .ok (.ifCond .eq 7, 3) := by decide +kernel
theorem dX8_ofWell_88 : decode cX8_ofWell 88 = .ok (.iconst 1, 1) := by decide +kernel
theorem dX8_ofWell_89 : decode cX8_ofWell 89 = .ok (.goto 4, 3) := by decide +kernel
theorem dX8_ofWell_92 : decode cX8_ofWell 92 = .ok (.iconst 0, 1) := by decide +kernel
theorem dX8_ofWell_93 : decode cX8_ofWell 93 = .ok (.ireturn, 1) := by decide +kernel
theorem dX8_ofWell_94 : decode cX8_ofWell 94 = .ok (.aload_n 3, 1) := by decide +kernel
theorem dX8_ofWell_95 : decode cX8_ofWell 95 = .ok (.getfield 131, 3) := by decide +kernel
theorem dX8_ofWell_98 : decode cX8_ofWell 98 = .ok (.ireturn, 1) := by decide +kernel
theorem dX8_ofWell_99 : decode cX8_ofWell 99 = .ok (.aload_n 3, 1) := by decide +kernel
theorem dX8_ofWell_100 : decode cX8_ofWell 100 = .ok (.getfield 142, 3) := by decide +kernel
theorem dX8_ofWell_103 : decode cX8_ofWell 103 = .ok (.ireturn, 1) := by decide +kernel
theorem dX8_ofWell_104 : decode cX8_ofWell 104 = .ok (.aload_n 3, 1) := by decide +kernel
theorem dX8_ofWell_105 : decode cX8_ofWell 105 = .ok (.getfield 151, 3) := by decide +kernel
theorem dX8_ofWell_108 : decode cX8_ofWell 108 = .ok (.ireturn, 1) := by decide +kernel
theorem dX8_ofWell_109 : decode cX8_ofWell 109 = .ok (.aload_n 3, 1) := by decide +kernel
theorem dX8_ofWell_110 : decode cX8_ofWell 110 = .ok (.getfield 184, 3) := by decide +kernel
theorem dX8_ofWell_113 : decode cX8_ofWell 113 = .ok (.ireturn, 1) := by decide +kernel
theorem dX8_ofWell_114 : decode cX8_ofWell 114 = .ok (.aload_n 3, 1) := by decide +kernel
theorem dX8_ofWell_115 : decode cX8_ofWell 115 = .ok (.getfield 187, 3) := by decide +kernel
theorem dX8_ofWell_118 : decode cX8_ofWell 118 = .ok (.ireturn, 1) := by decide +kernel
theorem dX8_ofWell_119 : decode cX8_ofWell 119 = .ok (.aload_n 3, 1) := by decide +kernel
theorem dX8_ofWell_120 : decode cX8_ofWell 120 = .ok (.getfield 190, 3) := by decide +kernel
theorem dX8_ofWell_123 : decode cX8_ofWell 123 = .ok (.ireturn, 1) := by decide +kernel
theorem dX8_ofWell_124 : decode cX8_ofWell 124 = .ok (.aload_n 3, 1) := by decide +kernel
theorem dX8_ofWell_125 : decode cX8_ofWell 125 = .ok (.getfield 191, 3) := by decide +kernel
theorem dX8_ofWell_128 : decode cX8_ofWell 128 = .ok (.ireturn, 1) := by decide +kernel
theorem dX8_ofSpring_0 : decode cX8_ofSpring 0 = .ok (.iload_n 1, 1) := by decide +kernel
theorem dX8_ofSpring_1 : decode cX8_ofSpring 1 = .ok (.aload_n 0, 1) := by decide +kernel
theorem dX8_ofSpring_2 : decode cX8_ofSpring 2 = .ok (.getfield 10, 3) := by decide +kernel
theorem dX8_ofSpring_5 : decode cX8_ofSpring 5 = .ok (.getfield 115, 3) := by decide +kernel
theorem dX8_ofSpring_8 : decode cX8_ofSpring 8 = .ok (.invokestatic 71, 3) := by decide +kernel
theorem dX8_ofSpring_11 : decode cX8_ofSpring 11 = .ok (.iload_n 2, 1) := by decide +kernel
theorem dX8_ofSpring_12 : decode cX8_ofSpring 12 = .ok (.iconst 0, 1) := by decide +kernel
theorem dX8_ofSpring_13 : decode cX8_ofSpring 13 = .ok (.iconst 3, 1) := by decide +kernel
theorem dX8_ofSpring_14 : decode cX8_ofSpring 14 = .ok (.invokestatic 19, 3) := by decide +kernel
theorem dX8_ofSpring_17 : decode cX8_ofSpring 17 = .ok (.aload_n 0, 1) := by decide +kernel
theorem dX8_ofSpring_18 : decode cX8_ofSpring 18 = .ok (.getfield 10, 3) := by decide +kernel
theorem dX8_ofSpring_21 : decode cX8_ofSpring 21 = .ok (.getfield 118, 3) := by decide +kernel
theorem dX8_ofSpring_24 : decode cX8_ofSpring 24 = .ok (.iload_n 1, 1) := by decide +kernel
theorem dX8_ofSpring_25 : decode cX8_ofSpring 25 = .ok (.aaload, 1) := by decide +kernel
theorem dX8_ofSpring_26 : decode cX8_ofSpring 26 = .ok (.astore_n 3, 1) := by decide +kernel
theorem dX8_ofSpring_27 : decode cX8_ofSpring 27 = .ok (.iload_n 2, 1) := by decide +kernel
theorem dX8_ofSpring_28 : decode cX8_ofSpring 28 = .ok (.tableswitch 43 0 2 #[28, 33, 38], 28) := by decide +kernel
theorem dX8_ofSpring_56 : decode cX8_ofSpring 56 = .ok (.aload_n 3, 1) := by decide +kernel
theorem dX8_ofSpring_57 : decode cX8_ofSpring 57 = .ok (.getfield 194, 3) := by decide +kernel
theorem dX8_ofSpring_60 : decode cX8_ofSpring 60 = .ok (.ireturn, 1) := by decide +kernel
theorem dX8_ofSpring_61 : decode cX8_ofSpring 61 = .ok (.aload_n 3, 1) := by decide +kernel
theorem dX8_ofSpring_62 : decode cX8_ofSpring 62 = .ok (.getfield 195, 3) := by decide +kernel
theorem dX8_ofSpring_65 : decode cX8_ofSpring 65 = .ok (.ireturn, 1) := by decide +kernel
theorem dX8_ofSpring_66 : decode cX8_ofSpring 66 = .ok (.aload_n 3, 1) := by decide +kernel
theorem dX8_ofSpring_67 : decode cX8_ofSpring 67 = .ok (.getfield 198, 3) := by decide +kernel
theorem dX8_ofSpring_70 : decode cX8_ofSpring 70 = .ok (.ireturn, 1) := by decide +kernel
theorem dX8_ofSpring_71 : decode cX8_ofSpring 71 = .ok (.aload_n 3, 1) := by decide +kernel
theorem dX8_ofSpring_72 : decode cX8_ofSpring 72 = .ok (.getfield 199, 3) := by decide +kernel
theorem dX8_ofSpring_75 : decode cX8_ofSpring 75 = .ok (.ireturn, 1) := by decide +kernel
theorem dX8_ofFace_0 : decode cX8_ofFace 0 = .ok (.iload_n 1, 1) := by decide +kernel
theorem dX8_ofFace_1 : decode cX8_ofFace 1 = .ok (.aload_n 0, 1) := by decide +kernel
theorem dX8_ofFace_2 : decode cX8_ofFace 2 = .ok (.getfield 10, 3) := by decide +kernel
theorem dX8_ofFace_5 : decode cX8_ofFace 5 = .ok (.getfield 81, 3) := by decide +kernel
theorem dX8_ofFace_8 : decode cX8_ofFace 8 = .ok (.invokestatic 71, 3) := by decide +kernel
theorem dX8_ofFace_11 : decode cX8_ofFace 11 = .ok (.iload_n 2, 1) := by decide +kernel
theorem dX8_ofFace_12 : decode cX8_ofFace 12 = .ok (.ifCond .eq 18, 3) := by decide +kernel
theorem dX8_ofFace_15 : decode cX8_ofFace 15 = .ok (.aload_n 0, 1) := by decide +kernel
theorem dX8_ofFace_16 : decode cX8_ofFace 16 = .ok (.getfield 10, 3) := by decide +kernel
theorem dX8_ofFace_19 : decode cX8_ofFace 19 = .ok (.getfield 84, 3) := by decide +kernel
theorem dX8_ofFace_22 : decode cX8_ofFace 22 = .ok (.iload_n 1, 1) := by decide +kernel
theorem dX8_ofFace_23 : decode cX8_ofFace 23 = .ok (.aaload, 1) := by decide +kernel
theorem dX8_ofFace_24 : decode cX8_ofFace 24 = .ok (.getfield 202, 3) := by decide +kernel
theorem dX8_ofFace_27 : decode cX8_ofFace 27 = .ok (.goto 15, 3) := by decide +kernel
theorem dX8_ofFace_30 : decode cX8_ofFace 30 = .ok (.aload_n 0, 1) := by decide +kernel
theorem dX8_ofFace_31 : decode cX8_ofFace 31 = .ok (.getfield 10, 3) := by decide +kernel
theorem dX8_ofFace_34 : decode cX8_ofFace 34 = .ok (.getfield 84, 3) := by decide +kernel
theorem dX8_ofFace_37 : decode cX8_ofFace 37 = .ok (.iload_n 1, 1) := by decide +kernel
theorem dX8_ofFace_38 : decode cX8_ofFace 38 = .ok (.aaload, 1) := by decide +kernel
theorem dX8_ofFace_39 : decode cX8_ofFace 39 = .ok (.getfield 96, 3) := by decide +kernel
theorem dX8_ofFace_42 : decode cX8_ofFace 42 = .ok (.ireturn, 1) := by decide +kernel
theorem dX8_pond_0 : decode cX8_pond 0 = .ok (.iload_n 1, 1) := by decide +kernel
theorem dX8_pond_1 : decode cX8_pond 1 = .ok (.iconst 0, 1) := by decide +kernel
theorem dX8_pond_2 : decode cX8_pond 2 = .ok (.iconst 3, 1) := by decide +kernel
theorem dX8_pond_3 : decode cX8_pond 3 = .ok (.invokestatic 19, 3) := by decide +kernel
theorem dX8_pond_6 : decode cX8_pond 6 = .ok (.aload_n 0, 1) := by decide +kernel
theorem dX8_pond_7 : decode cX8_pond 7 = .ok (.getfield 10, 3) := by decide +kernel
theorem dX8_pond_10 : decode cX8_pond 10 = .ok (.getfield 203, 3) := by decide +kernel
theorem dX8_pond_13 : decode cX8_pond 13 = .ok (.iload_n 1, 1) := by decide +kernel
theorem dX8_pond_14 : decode cX8_pond 14 = .ok (.invokevirtual 180, 3) := by decide +kernel
theorem dX8_pond_17 : decode cX8_pond 17 = .ok (.ireturn, 1) := by decide +kernel
theorem dX8_ofOwner_0 : decode cX8_ofOwner 0 = .ok (.iload_n 1, 1) := by decide +kernel
theorem dX8_ofOwner_1 : decode cX8_ofOwner 1 = .ok (.iconst 2, 1) := by decide +kernel
theorem dX8_ofOwner_2 : decode cX8_ofOwner 2 = .ok (.invokestatic 71, 3) := by decide +kernel
theorem dX8_ofOwner_5 : decode cX8_ofOwner 5 = .ok (.iload_n 2, 1) := by decide +kernel
theorem dX8_ofOwner_6 : decode cX8_ofOwner 6 = .ok (.iconst 0, 1) := by decide +kernel
theorem dX8_ofOwner_7 : decode cX8_ofOwner 7 = .ok (.iconst 1, 1) := by decide +kernel
theorem dX8_ofOwner_8 : decode cX8_ofOwner 8 = .ok (.invokestatic 19, 3) := by decide +kernel
theorem dX8_ofOwner_11 : decode cX8_ofOwner 11 = .ok (.iload_n 2, 1) := by decide +kernel
theorem dX8_ofOwner_12 : decode cX8_ofOwner 12 = .ok (.ifCond .ne 15, 3) := by decide +kernel
theorem dX8_ofOwner_15 : decode cX8_ofOwner 15 = .ok (.aload_n 0, 1) := by decide +kernel
theorem dX8_ofOwner_16 : decode cX8_ofOwner 16 = .ok (.getfield 10, 3) := by decide +kernel
theorem dX8_ofOwner_19 : decode cX8_ofOwner 19 = .ok (.getfield 145, 3) := by decide +kernel
theorem dX8_ofOwner_22 : decode cX8_ofOwner 22 = .ok (.iload_n 1, 1) := by decide +kernel
theorem dX8_ofOwner_23 : decode cX8_ofOwner 23 = .ok (.iaload, 1) := by decide +kernel
theorem dX8_ofOwner_24 : decode cX8_ofOwner 24 = .ok (.goto 11, 3) := by decide +kernel
theorem dX8_ofOwner_27 : decode cX8_ofOwner 27 = .ok (.aload_n 0, 1) := by decide +kernel
theorem dX8_ofOwner_28 : decode cX8_ofOwner 28 = .ok (.getfield 10, 3) := by decide +kernel
theorem dX8_ofOwner_31 : decode cX8_ofOwner 31 = .ok (.iload_n 1, 1) := by decide +kernel
theorem dX8_ofOwner_32 : decode cX8_ofOwner 32 = .ok (.invokevirtual 206, 3) := by decide +kernel
theorem dX8_ofOwner_35 : decode cX8_ofOwner 35 = .ok (.ireturn, 1) := by decide +kernel
theorem dX8_mass_0 : decode cX8_mass 0 = .ok (.iload_n 1, 1) := by decide +kernel
theorem dX8_mass_1 : decode cX8_mass 1 = .ok (.iconst 0, 1) := by decide +kernel
theorem dX8_mass_2 : decode cX8_mass 2 = .ok (.bipush 6, 2) := by decide +kernel
theorem dX8_mass_4 : decode cX8_mass 4 = .ok (.invokestatic 19, 3) := by decide +kernel
theorem dX8_mass_7 : decode cX8_mass 7 = .ok (.iload_n 1, 1) := by decide +kernel
theorem dX8_mass_8 : decode cX8_mass 8 = .ok (.tableswitch 110 0 5 #[40, 54, 63, 74, 85, 96], 40) := by decide +kernel
theorem dX8_mass_48 : decode cX8_mass 48 = .ok (.aload_n 0, 1) := by decide +kernel
theorem dX8_mass_49 : decode cX8_mass 49 = .ok (.getfield 10, 3) := by decide +kernel
theorem dX8_mass_52 : decode cX8_mass 52 = .ok (.getfield 58, 3) := by decide +kernel
theorem dX8_mass_55 : decode cX8_mass 55 = .ok (.getfield 62, 3) := by decide +kernel
theorem dX8_mass_58 : decode cX8_mass 58 = .ok (.getfield 47, 3) := by decide +kernel
theorem dX8_mass_61 : decode cX8_mass 61 = .ok (.ireturn, 1) := by decide +kernel
theorem dX8_mass_62 : decode cX8_mass 62 = .ok (.aload_n 0, 1) := by decide +kernel
theorem dX8_mass_63 : decode cX8_mass 63 = .ok (.getfield 10, 3) := by decide +kernel
theorem dX8_mass_66 : decode cX8_mass 66 = .ok (.iconst 0, 1) := by decide +kernel
theorem dX8_mass_67 : decode cX8_mass 67 = .ok (.invokevirtual 209, 3) := by decide +kernel
theorem dX8_mass_70 : decode cX8_mass 70 = .ok (.ireturn, 1) := by decide +kernel
theorem dX8_mass_71 : decode cX8_mass 71 = .ok (.aload_n 0, 1) := by decide +kernel
theorem dX8_mass_72 : decode cX8_mass 72 = .ok (.getfield 10, 3) := by decide +kernel
theorem dX8_mass_75 : decode cX8_mass 75 = .ok (.getfield 203, 3) := by decide +kernel
theorem dX8_mass_78 : decode cX8_mass 78 = .ok (.getfield 47, 3) := by decide +kernel
theorem dX8_mass_81 : decode cX8_mass 81 = .ok (.ireturn, 1) := by decide +kernel
theorem dX8_mass_82 : decode cX8_mass 82 = .ok (.aload_n 0, 1) := by decide +kernel
theorem dX8_mass_83 : decode cX8_mass 83 = .ok (.getfield 10, 3) := by decide +kernel
theorem dX8_mass_86 : decode cX8_mass 86 = .ok (.getfield 58, 3) := by decide +kernel
theorem dX8_mass_89 : decode cX8_mass 89 = .ok (.getfield 212, 3) := by decide +kernel
theorem dX8_mass_92 : decode cX8_mass 92 = .ok (.ireturn, 1) := by decide +kernel
theorem dX8_mass_93 : decode cX8_mass 93 = .ok (.aload_n 0, 1) := by decide +kernel
theorem dX8_mass_94 : decode cX8_mass 94 = .ok (.getfield 10, 3) := by decide +kernel
theorem dX8_mass_97 : decode cX8_mass 97 = .ok (.getfield 58, 3) := by decide +kernel
theorem dX8_mass_100 : decode cX8_mass 100 = .ok (.getfield 215, 3) := by decide +kernel
theorem dX8_mass_103 : decode cX8_mass 103 = .ok (.ireturn, 1) := by decide +kernel
theorem dX8_mass_104 : decode cX8_mass 104 = .ok (.aload_n 0, 1) := by decide +kernel
theorem dX8_mass_105 : decode cX8_mass 105 = .ok (.getfield 10, 3) := by decide +kernel
theorem dX8_mass_108 : decode cX8_mass 108 = .ok (.getfield 58, 3) := by decide +kernel
theorem dX8_mass_111 : decode cX8_mass 111 = .ok (.getfield 218, 3) := by decide +kernel
theorem dX8_mass_114 : decode cX8_mass 114 = .ok (.getfield 47, 3) := by decide +kernel
theorem dX8_mass_117 : decode cX8_mass 117 = .ok (.ireturn, 1) := by decide +kernel
theorem dX8_mass_118 : decode cX8_mass 118 = .ok (.aload_n 0, 1) := by decide +kernel
theorem dX8_mass_119 : decode cX8_mass 119 = .ok (.getfield 10, 3) := by decide +kernel
theorem dX8_mass_122 : decode cX8_mass 122 = .ok (.getfield 58, 3) := by decide +kernel
theorem dX8_mass_125 : decode cX8_mass 125 = .ok (.getfield 221, 3) := by decide +kernel
theorem dX8_mass_128 : decode cX8_mass 128 = .ok (.getfield 47, 3) := by decide +kernel
theorem dX8_mass_131 : decode cX8_mass 131 = .ok (.ireturn, 1) := by decide +kernel
theorem dX8_isClosed_0 : decode cX8_isClosed 0 = .ok (.aload_n 0, 1) := by decide +kernel
theorem dX8_isClosed_1 : decode cX8_isClosed 1 = .ok (.getfield 10, 3) := by decide +kernel
theorem dX8_isClosed_4 : decode cX8_isClosed 4 = .ok (.getfield 58, 3) := by decide +kernel
theorem dX8_isClosed_7 : decode cX8_isClosed 7 = .ok (.getfield 212, 3) := by decide +kernel
theorem dX8_isClosed_10 : decode cX8_isClosed 10 = .ok (.aload_n 0, 1) := by decide +kernel
theorem dX8_isClosed_11 : decode cX8_isClosed 11 = .ok (.getfield 10, 3) := by decide +kernel
theorem dX8_isClosed_14 : decode cX8_isClosed 14 = .ok (.getfield 58, 3) := by decide +kernel
theorem dX8_isClosed_17 : decode cX8_isClosed 17 = .ok (.getfield 215, 3) := by decide +kernel
theorem dX8_isClosed_20 : decode cX8_isClosed 20 = .ok (.iadd, 1) := by decide +kernel
theorem dX8_isClosed_21 : decode cX8_isClosed 21 = .ok (.istore_n 1, 1) := by decide +kernel
theorem dX8_isClosed_22 : decode cX8_isClosed 22 = .ok (.aload_n 0, 1) := by decide +kernel
theorem dX8_isClosed_23 : decode cX8_isClosed 23 = .ok (.getfield 10, 3) := by decide +kernel
theorem dX8_isClosed_26 : decode cX8_isClosed 26 = .ok (.getfield 58, 3) := by decide +kernel
theorem dX8_isClosed_29 : decode cX8_isClosed 29 = .ok (.getfield 62, 3) := by decide +kernel
theorem dX8_isClosed_32 : decode cX8_isClosed 32 = .ok (.getfield 47, 3) := by decide +kernel
theorem dX8_isClosed_35 : decode cX8_isClosed 35 = .ok (.aload_n 0, 1) := by decide +kernel
theorem dX8_isClosed_36 : decode cX8_isClosed 36 = .ok (.getfield 10, 3) := by decide +kernel
theorem dX8_isClosed_39 : decode cX8_isClosed 39 = .ok (.iconst 0, 1) := by decide +kernel
theorem dX8_isClosed_40 : decode cX8_isClosed 40 = .ok (.invokevirtual 224, 3) := by decide +kernel
theorem dX8_isClosed_43 : decode cX8_isClosed 43 = .ok (.iload_n 1, 1) := by decide +kernel
theorem dX8_isClosed_44 : decode cX8_isClosed 44 = .ok (.iadd, 1) := by decide +kernel
theorem dX8_isClosed_45 : decode cX8_isClosed 45 = .ok (.if_icmp .ne 55, 3) := by decide +kernel
theorem dX8_isClosed_48 : decode cX8_isClosed 48 = .ok (.aload_n 0, 1) := by decide +kernel
theorem dX8_isClosed_49 : decode cX8_isClosed 49 = .ok (.getfield 10, 3) := by decide +kernel
theorem dX8_isClosed_52 : decode cX8_isClosed 52 = .ok (.getfield 58, 3) := by decide +kernel
theorem dX8_isClosed_55 : decode cX8_isClosed 55 = .ok (.getfield 62, 3) := by decide +kernel
theorem dX8_isClosed_58 : decode cX8_isClosed 58 = .ok (.getfield 55, 3) := by decide +kernel
theorem dX8_isClosed_61 : decode cX8_isClosed 61 = .ok (.aload_n 0, 1) := by decide +kernel
theorem dX8_isClosed_62 : decode cX8_isClosed 62 = .ok (.getfield 10, 3) := by decide +kernel
theorem dX8_isClosed_65 : decode cX8_isClosed 65 = .ok (.iconst 2, 1) := by decide +kernel
theorem dX8_isClosed_66 : decode cX8_isClosed 66 = .ok (.invokevirtual 224, 3) := by decide +kernel
theorem dX8_isClosed_69 : decode cX8_isClosed 69 = .ok (.if_icmp .ne 31, 3) := by decide +kernel
theorem dX8_isClosed_72 : decode cX8_isClosed 72 = .ok (.aload_n 0, 1) := by decide +kernel
theorem dX8_isClosed_73 : decode cX8_isClosed 73 = .ok (.getfield 10, 3) := by decide +kernel
theorem dX8_isClosed_76 : decode cX8_isClosed 76 = .ok (.getfield 58, 3) := by decide +kernel
theorem dX8_isClosed_79 : decode cX8_isClosed 79 = .ok (.getfield 62, 3) := by decide +kernel
theorem dX8_isClosed_82 : decode cX8_isClosed 82 = .ok (.getfield 139, 3) := by decide +kernel
theorem dX8_isClosed_85 : decode cX8_isClosed 85 = .ok (.aload_n 0, 1) := by decide +kernel
theorem dX8_isClosed_86 : decode cX8_isClosed 86 = .ok (.getfield 10, 3) := by decide +kernel
theorem dX8_isClosed_89 : decode cX8_isClosed 89 = .ok (.iconst 3, 1) := by decide +kernel
theorem dX8_isClosed_90 : decode cX8_isClosed 90 = .ok (.invokevirtual 224, 3) := by decide +kernel
theorem dX8_isClosed_93 : decode cX8_isClosed 93 = .ok (.if_icmp .ne 7, 3) := by decide +kernel
theorem dX8_isClosed_96 : decode cX8_isClosed 96 = .ok (.iconst 1, 1) := by decide +kernel
theorem dX8_isClosed_97 : decode cX8_isClosed 97 = .ok (.goto 4, 3) := by decide +kernel
theorem dX8_isClosed_100 : decode cX8_isClosed 100 = .ok (.iconst 0, 1) := by decide +kernel
theorem dX8_isClosed_101 : decode cX8_isClosed 101 = .ok (.ireturn, 1) := by decide +kernel
theorem dX8_many_0 : decode cX8_many 0 = .ok (.iload_n 1, 1) := by decide +kernel
theorem dX8_many_1 : decode cX8_many 1 = .ok (.iconst 0, 1) := by decide +kernel
theorem dX8_many_2 : decode cX8_many 2 = .ok (.bipush 12, 2) := by decide +kernel
theorem dX8_many_4 : decode cX8_many 4 = .ok (.invokestatic 19, 3) := by decide +kernel
theorem dX8_many_7 : decode cX8_many 7 = .ok (.iload_n 1, 1) := by decide +kernel
theorem dX8_many_8 : decode cX8_many 8 = .ok (.tableswitch 183 0 11 #[64, 72, 80, 88, 96, 104, 112, 120, 139, 150, 161, 172], 64) := by decide +kernel
theorem dX8_many_72 : decode cX8_many 72 = .ok (.aload_n 0, 1) := by decide +kernel
theorem dX8_many_73 : decode cX8_many 73 = .ok (.getfield 10, 3) := by decide +kernel
theorem dX8_many_76 : decode cX8_many 76 = .ok (.getfield 23, 3) := by decide +kernel
theorem dX8_many_79 : decode cX8_many 79 = .ok (.ireturn, 1) := by decide +kernel
theorem dX8_many_80 : decode cX8_many 80 = .ok (.aload_n 0, 1) := by decide +kernel
theorem dX8_many_81 : decode cX8_many 81 = .ok (.getfield 10, 3) := by decide +kernel
theorem dX8_many_84 : decode cX8_many 84 = .ok (.getfield 81, 3) := by decide +kernel
theorem dX8_many_87 : decode cX8_many 87 = .ok (.ireturn, 1) := by decide +kernel
theorem dX8_many_88 : decode cX8_many 88 = .ok (.aload_n 0, 1) := by decide +kernel
theorem dX8_many_89 : decode cX8_many 89 = .ok (.getfield 10, 3) := by decide +kernel
theorem dX8_many_92 : decode cX8_many 92 = .ok (.getfield 99, 3) := by decide +kernel
theorem dX8_many_95 : decode cX8_many 95 = .ok (.ireturn, 1) := by decide +kernel
theorem dX8_many_96 : decode cX8_many 96 = .ok (.aload_n 0, 1) := by decide +kernel
theorem dX8_many_97 : decode cX8_many 97 = .ok (.getfield 10, 3) := by decide +kernel
theorem dX8_many_100 : decode cX8_many 100 = .ok (.getfield 115, 3) := by decide +kernel
theorem dX8_many_103 : decode cX8_many 103 = .ok (.ireturn, 1) := by decide +kernel
theorem dX8_many_104 : decode cX8_many 104 = .ok (.aload_n 0, 1) := by decide +kernel
theorem dX8_many_105 : decode cX8_many 105 = .ok (.getfield 10, 3) := by decide +kernel
theorem dX8_many_108 : decode cX8_many 108 = .ok (.getfield 227, 3) := by decide +kernel
theorem dX8_many_111 : decode cX8_many 111 = .ok (.ireturn, 1) := by decide +kernel
theorem dX8_many_112 : decode cX8_many 112 = .ok (.aload_n 0, 1) := by decide +kernel
theorem dX8_many_113 : decode cX8_many 113 = .ok (.getfield 10, 3) := by decide +kernel
theorem dX8_many_116 : decode cX8_many 116 = .ok (.invokevirtual 230, 3) := by decide +kernel
theorem dX8_many_119 : decode cX8_many 119 = .ok (.ireturn, 1) := by decide +kernel
theorem dX8_many_120 : decode cX8_many 120 = .ok (.aload_n 0, 1) := by decide +kernel
theorem dX8_many_121 : decode cX8_many 121 = .ok (.getfield 10, 3) := by decide +kernel
theorem dX8_many_124 : decode cX8_many 124 = .ok (.invokevirtual 233, 3) := by decide +kernel
theorem dX8_many_127 : decode cX8_many 127 = .ok (.ireturn, 1) := by decide +kernel
theorem dX8_many_128 : decode cX8_many 128 = .ok (.aload_n 0, 1) := by decide +kernel
theorem dX8_many_129 : decode cX8_many 129 = .ok (.getfield 10, 3) := by decide +kernel
theorem dX8_many_132 : decode cX8_many 132 = .ok (.getfield 154, 3) := by decide +kernel
theorem dX8_many_135 : decode cX8_many 135 = .ok (.getfield 163, 3) := by decide +kernel
theorem dX8_many_138 : decode cX8_many 138 = .ok (.ifCond .eq 7, 3) := by decide +kernel
theorem dX8_many_141 : decode cX8_many 141 = .ok (.iconst 1, 1) := by decide +kernel
theorem dX8_many_142 : decode cX8_many 142 = .ok (.goto 4, 3) := by decide +kernel
theorem dX8_many_145 : decode cX8_many 145 = .ok (.iconst 0, 1) := by decide +kernel
theorem dX8_many_146 : decode cX8_many 146 = .ok (.ireturn, 1) := by decide +kernel
theorem dX8_many_147 : decode cX8_many 147 = .ok (.aload_n 0, 1) := by decide +kernel
theorem dX8_many_148 : decode cX8_many 148 = .ok (.getfield 10, 3) := by decide +kernel
theorem dX8_many_151 : decode cX8_many 151 = .ok (.getfield 154, 3) := by decide +kernel
theorem dX8_many_154 : decode cX8_many 154 = .ok (.getfield 158, 3) := by decide +kernel
theorem dX8_many_157 : decode cX8_many 157 = .ok (.ireturn, 1) := by decide +kernel
theorem dX8_many_158 : decode cX8_many 158 = .ok (.aload_n 0, 1) := by decide +kernel
theorem dX8_many_159 : decode cX8_many 159 = .ok (.getfield 10, 3) := by decide +kernel
theorem dX8_many_162 : decode cX8_many 162 = .ok (.getfield 154, 3) := by decide +kernel
theorem dX8_many_165 : decode cX8_many 165 = .ok (.getfield 236, 3) := by decide +kernel
theorem dX8_many_168 : decode cX8_many 168 = .ok (.ireturn, 1) := by decide +kernel
theorem dX8_many_169 : decode cX8_many 169 = .ok (.aload_n 0, 1) := by decide +kernel
theorem dX8_many_170 : decode cX8_many 170 = .ok (.getfield 10, 3) := by decide +kernel
theorem dX8_many_173 : decode cX8_many 173 = .ok (.getfield 154, 3) := by decide +kernel
theorem dX8_many_176 : decode cX8_many 176 = .ok (.getfield 239, 3) := by decide +kernel
theorem dX8_many_179 : decode cX8_many 179 = .ok (.ireturn, 1) := by decide +kernel
theorem dX8_many_180 : decode cX8_many 180 = .ok (.aload_n 0, 1) := by decide +kernel
theorem dX8_many_181 : decode cX8_many 181 = .ok (.getfield 10, 3) := by decide +kernel
theorem dX8_many_184 : decode cX8_many 184 = .ok (.getfield 154, 3) := by decide +kernel
theorem dX8_many_187 : decode cX8_many 187 = .ok (.getfield 242, 3) := by decide +kernel
theorem dX8_many_190 : decode cX8_many 190 = .ok (.ireturn, 1) := by decide +kernel
theorem dX8_many_191 : decode cX8_many 191 = .ok (.aload_n 0, 1) := by decide +kernel
theorem dX8_many_192 : decode cX8_many 192 = .ok (.getfield 10, 3) := by decide +kernel
theorem dX8_many_195 : decode cX8_many 195 = .ok (.invokevirtual 245, 3) := by decide +kernel
theorem dX8_many_198 : decode cX8_many 198 = .ok (.ireturn, 1) := by decide +kernel
theorem dX8_meanWarmth_0 : decode cX8_meanWarmth 0 = .ok (.lconst 0, 1) := by decide +kernel
theorem dX8_meanWarmth_1 : decode cX8_meanWarmth 1 = .ok (.lstore_n 1, 1) := by decide +kernel
theorem dX8_meanWarmth_2 : decode cX8_meanWarmth 2 = .ok (.lconst 0, 1) := by decide +kernel
theorem dX8_meanWarmth_3 : decode cX8_meanWarmth 3 = .ok (.lstore_n 3, 1) := by decide +kernel
theorem dX8_meanWarmth_4 : decode cX8_meanWarmth 4 = .ok (.iconst 0, 1) := by decide +kernel
theorem dX8_meanWarmth_5 : decode cX8_meanWarmth 5 = .ok (.istore 5, 2) := by decide +kernel
theorem dX8_meanWarmth_7 : decode cX8_meanWarmth 7 = .ok (.iload 5, 2) := by decide +kernel
theorem dX8_meanWarmth_9 : decode cX8_meanWarmth 9 = .ok (.aload_n 0, 1) := by decide +kernel
theorem dX8_meanWarmth_10 : decode cX8_meanWarmth 10 = .ok (.getfield 10, 3) := by decide +kernel
theorem dX8_meanWarmth_13 : decode cX8_meanWarmth 13 = .ok (.getfield 23, 3) := by decide +kernel
theorem dX8_meanWarmth_16 : decode cX8_meanWarmth 16 = .ok (.if_icmp .ge 46, 3) := by decide +kernel
theorem dX8_meanWarmth_19 : decode cX8_meanWarmth 19 = .ok (.aload_n 0, 1) := by decide +kernel
theorem dX8_meanWarmth_20 : decode cX8_meanWarmth 20 = .ok (.getfield 10, 3) := by decide +kernel
theorem dX8_meanWarmth_23 : decode cX8_meanWarmth 23 = .ok (.getfield 31, 3) := by decide +kernel
theorem dX8_meanWarmth_26 : decode cX8_meanWarmth 26 = .ok (.iload 5, 2) := by decide +kernel
theorem dX8_meanWarmth_28 : decode cX8_meanWarmth 28 = .ok (.aaload, 1) := by decide +kernel
theorem dX8_meanWarmth_29 : decode cX8_meanWarmth 29 = .ok (.astore 6, 2) := by decide +kernel
theorem dX8_meanWarmth_31 : decode cX8_meanWarmth 31 = .ok (.lload_n 1, 1) := by decide +kernel
theorem dX8_meanWarmth_32 : decode cX8_meanWarmth 32 = .ok (.aload 6, 2) := by decide +kernel
theorem dX8_meanWarmth_34 : decode cX8_meanWarmth 34 = .ok (.invokevirtual 177, 3) := by decide +kernel
theorem dX8_meanWarmth_37 : decode cX8_meanWarmth 37 = .ok (.i2l, 1) := by decide +kernel
theorem dX8_meanWarmth_38 : decode cX8_meanWarmth 38 = .ok (.aload 6, 2) := by decide +kernel
theorem dX8_meanWarmth_40 : decode cX8_meanWarmth 40 = .ok (.getfield 35, 3) := by decide +kernel
theorem dX8_meanWarmth_43 : decode cX8_meanWarmth 43 = .ok (.i2l, 1) := by decide +kernel
theorem dX8_meanWarmth_44 : decode cX8_meanWarmth 44 = .ok (.lmul, 1) := by decide +kernel
theorem dX8_meanWarmth_45 : decode cX8_meanWarmth 45 = .ok (.ladd, 1) := by decide +kernel
theorem dX8_meanWarmth_46 : decode cX8_meanWarmth 46 = .ok (.lstore_n 1, 1) := by decide +kernel
theorem dX8_meanWarmth_47 : decode cX8_meanWarmth 47 = .ok (.lload_n 3, 1) := by decide +kernel
theorem dX8_meanWarmth_48 : decode cX8_meanWarmth 48 = .ok (.aload 6, 2) := by decide +kernel
theorem dX8_meanWarmth_50 : decode cX8_meanWarmth 50 = .ok (.getfield 35, 3) := by decide +kernel
theorem dX8_meanWarmth_53 : decode cX8_meanWarmth 53 = .ok (.i2l, 1) := by decide +kernel
theorem dX8_meanWarmth_54 : decode cX8_meanWarmth 54 = .ok (.ladd, 1) := by decide +kernel
theorem dX8_meanWarmth_55 : decode cX8_meanWarmth 55 = .ok (.lstore_n 3, 1) := by decide +kernel
theorem dX8_meanWarmth_56 : decode cX8_meanWarmth 56 = .ok (.iinc 5 1, 3) := by decide +kernel
theorem dX8_meanWarmth_59 : decode cX8_meanWarmth 59 = .ok (.goto (-52), 3) := by decide +kernel
theorem dX8_meanWarmth_62 : decode cX8_meanWarmth 62 = .ok (.lload_n 3, 1) := by decide +kernel
theorem dX8_meanWarmth_63 : decode cX8_meanWarmth 63 = .ok (.lconst 0, 1) := by decide +kernel
theorem dX8_meanWarmth_64 : decode cX8_meanWarmth 64 = .ok (.lcmp, 1) := by decide +kernel
theorem dX8_meanWarmth_65 : decode cX8_meanWarmth 65 = .ok (.ifCond .le 11, 3) := by decide +kernel
theorem dX8_meanWarmth_68 : decode cX8_meanWarmth 68 = .ok (.lload_n 1, 1) := by decide +kernel
theorem dX8_meanWarmth_69 : decode cX8_meanWarmth 69 = .ok (.l2d, 1) := by decide +kernel
theorem dX8_meanWarmth_70 : decode cX8_meanWarmth 70 = .ok (.lload_n 3, 1) := by decide +kernel
theorem dX8_meanWarmth_71 : decode cX8_meanWarmth 71 = .ok (.l2d, 1) := by decide +kernel
theorem dX8_meanWarmth_72 : decode cX8_meanWarmth 72 = .ok (.ddiv, 1) := by decide +kernel
theorem dX8_meanWarmth_73 : decode cX8_meanWarmth 73 = .ok (.goto 4, 3) := by decide +kernel
theorem dX8_meanWarmth_76 : decode cX8_meanWarmth 76 = .ok (.dconst 0, 1) := by decide +kernel
theorem dX8_meanWarmth_77 : decode cX8_meanWarmth 77 = .ok (.dreturn, 1) := by decide +kernel
theorem dX8_wouldGive_0 : decode cX8_wouldGive 0 = .ok (.iload_n 1, 1) := by decide +kernel
theorem dX8_wouldGive_1 : decode cX8_wouldGive 1 = .ok (.iconst 1, 1) := by decide +kernel
theorem dX8_wouldGive_2 : decode cX8_wouldGive 2 = .ok (.bipush 30, 2) := by decide +kernel
theorem dX8_wouldGive_4 : decode cX8_wouldGive 4 = .ok (.invokestatic 19, 3) := by decide +kernel
theorem dX8_wouldGive_7 : decode cX8_wouldGive 7 = .ok (.aload_n 0, 1) := by decide +kernel
theorem dX8_wouldGive_8 : decode cX8_wouldGive 8 = .ok (.getfield 16, 3) := by decide +kernel
theorem dX8_wouldGive_11 : decode cX8_wouldGive 11 = .ok (.aload_n 0, 1) := by decide +kernel
theorem dX8_wouldGive_12 : decode cX8_wouldGive 12 = .ok (.getfield 10, 3) := by decide +kernel
theorem dX8_wouldGive_15 : decode cX8_wouldGive 15 = .ok (.invokevirtual 247, 3) := by decide +kernel
theorem dX8_wouldGive_18 : decode cX8_wouldGive 18 = .ok (.aload_n 0, 1) := by decide +kernel
theorem dX8_wouldGive_19 : decode cX8_wouldGive 19 = .ok (.getfield 16, 3) := by decide +kernel
theorem dX8_wouldGive_22 : decode cX8_wouldGive 22 = .ok (.iload_n 1, 1) := by decide +kernel
theorem dX8_wouldGive_23 : decode cX8_wouldGive 23 = .ok (.invokestatic 169, 3) := by decide +kernel
theorem dX8_wouldGive_26 : decode cX8_wouldGive 26 = .ok (.ireturn, 1) := by decide +kernel
theorem dX8_coldIn_0 : decode cX8_coldIn 0 = .ok (.iload_n 1, 1) := by decide +kernel
theorem dX8_coldIn_1 : decode cX8_coldIn 1 = .ok (.aload_n 0, 1) := by decide +kernel
theorem dX8_coldIn_2 : decode cX8_coldIn 2 = .ok (.getfield 10, 3) := by decide +kernel
theorem dX8_coldIn_5 : decode cX8_coldIn 5 = .ok (.getfield 99, 3) := by decide +kernel
theorem dX8_coldIn_8 : decode cX8_coldIn 8 = .ok (.invokestatic 71, 3) := by decide +kernel
theorem dX8_coldIn_11 : decode cX8_coldIn 11 = .ok (.iload_n 2, 1) := by decide +kernel
theorem dX8_coldIn_12 : decode cX8_coldIn 12 = .ok (.iconst 0, 1) := by decide +kernel
theorem dX8_coldIn_13 : decode cX8_coldIn 13 = .ok (.sipush 400, 3) := by decide +kernel
theorem dX8_coldIn_16 : decode cX8_coldIn 16 = .ok (.invokestatic 19, 3) := by decide +kernel
theorem dX8_coldIn_19 : decode cX8_coldIn 19 = .ok (.aload_n 0, 1) := by decide +kernel
theorem dX8_coldIn_20 : decode cX8_coldIn 20 = .ok (.getfield 16, 3) := by decide +kernel
theorem dX8_coldIn_23 : decode cX8_coldIn 23 = .ok (.aload_n 0, 1) := by decide +kernel
theorem dX8_coldIn_24 : decode cX8_coldIn 24 = .ok (.getfield 10, 3) := by decide +kernel
theorem dX8_coldIn_27 : decode cX8_coldIn 27 = .ok (.invokevirtual 247, 3) := by decide +kernel
theorem dX8_coldIn_30 : decode cX8_coldIn 30 = .ok (.aload_n 0, 1) := by decide +kernel
theorem dX8_coldIn_31 : decode cX8_coldIn 31 = .ok (.getfield 16, 3) := by decide +kernel
theorem dX8_coldIn_34 : decode cX8_coldIn 34 = .ok (.getfield 31, 3) := by decide +kernel
theorem dX8_coldIn_37 : decode cX8_coldIn 37 = .ok (.aload_n 0, 1) := by decide +kernel
theorem dX8_coldIn_38 : decode cX8_coldIn 38 = .ok (.getfield 16, 3) := by decide +kernel
theorem dX8_coldIn_41 : decode cX8_coldIn 41 = .ok (.getfield 102, 3) := by decide +kernel
theorem dX8_coldIn_44 : decode cX8_coldIn 44 = .ok (.iload_n 1, 1) := by decide +kernel
theorem dX8_coldIn_45 : decode cX8_coldIn 45 = .ok (.aaload, 1) := by decide +kernel
theorem dX8_coldIn_46 : decode cX8_coldIn 46 = .ok (.getfield 106, 3) := by decide +kernel
theorem dX8_coldIn_49 : decode cX8_coldIn 49 = .ok (.aaload, 1) := by decide +kernel
theorem dX8_coldIn_50 : decode cX8_coldIn 50 = .ok (.astore_n 3, 1) := by decide +kernel
theorem dX8_coldIn_51 : decode cX8_coldIn 51 = .ok (.iconst 0, 1) := by decide +kernel
theorem dX8_coldIn_52 : decode cX8_coldIn 52 = .ok (.istore 4, 2) := by decide +kernel
theorem dX8_coldIn_54 : decode cX8_coldIn 54 = .ok (.iload 4, 2) := by decide +kernel
theorem dX8_coldIn_56 : decode cX8_coldIn 56 = .ok (.bipush 30, 2) := by decide +kernel
theorem dX8_coldIn_58 : decode cX8_coldIn 58 = .ok (.if_icmp .ge 24, 3) := by decide +kernel
theorem dX8_coldIn_61 : decode cX8_coldIn 61 = .ok (.aload_n 3, 1) := by decide +kernel
theorem dX8_coldIn_62 : decode cX8_coldIn 62 = .ok (.invokevirtual 177, 3) := by decide +kernel
theorem dX8_coldIn_65 : decode cX8_coldIn 65 = .ok (.iload_n 2, 1) := by decide +kernel
theorem dX8_coldIn_66 : decode cX8_coldIn 66 = .ok (.if_icmp .le 16, 3) := by decide +kernel
theorem dX8_coldIn_69 : decode cX8_coldIn 69 = .ok (.aload_n 0, 1) := by decide +kernel
theorem dX8_coldIn_70 : decode cX8_coldIn 70 = .ok (.getfield 16, 3) := by decide +kernel
theorem dX8_coldIn_73 : decode cX8_coldIn 73 = .ok (.invokevirtual 251, 3) := by decide +kernel
theorem dX8_coldIn_76 : decode cX8_coldIn 76 = .ok (.iinc 4 1, 3) := by decide +kernel
theorem dX8_coldIn_79 : decode cX8_coldIn 79 = .ok (.goto (-25), 3) := by decide +kernel
theorem dX8_coldIn_82 : decode cX8_coldIn 82 = .ok (.aload_n 3, 1) := by decide +kernel
theorem dX8_coldIn_83 : decode cX8_coldIn 83 = .ok (.invokevirtual 177, 3) := by decide +kernel
theorem dX8_coldIn_86 : decode cX8_coldIn 86 = .ok (.iload_n 2, 1) := by decide +kernel
theorem dX8_coldIn_87 : decode cX8_coldIn 87 = .ok (.if_icmp .gt 8, 3) := by decide +kernel
theorem dX8_coldIn_90 : decode cX8_coldIn 90 = .ok (.iload 4, 2) := by decide +kernel
theorem dX8_coldIn_92 : decode cX8_coldIn 92 = .ok (.goto 4, 3) := by decide +kernel
theorem dX8_coldIn_95 : decode cX8_coldIn 95 = .ok (.iconst (-1), 1) := by decide +kernel
theorem dX8_coldIn_96 : decode cX8_coldIn 96 = .ok (.ireturn, 1) := by decide +kernel
theorem dX8_causedBy_0 : decode cX8_causedBy 0 = .ok (.iload_n 1, 1) := by decide +kernel
theorem dX8_causedBy_1 : decode cX8_causedBy 1 = .ok (.aload_n 0, 1) := by decide +kernel
theorem dX8_causedBy_2 : decode cX8_causedBy 2 = .ok (.getfield 10, 3) := by decide +kernel
theorem dX8_causedBy_5 : decode cX8_causedBy 5 = .ok (.getfield 115, 3) := by decide +kernel
theorem dX8_causedBy_8 : decode cX8_causedBy 8 = .ok (.invokestatic 71, 3) := by decide +kernel
theorem dX8_causedBy_11 : decode cX8_causedBy 11 = .ok (.iload_n 2, 1) := by decide +kernel
theorem dX8_causedBy_12 : decode cX8_causedBy 12 = .ok (.aload_n 0, 1) := by decide +kernel
theorem dX8_causedBy_13 : decode cX8_causedBy 13 = .ok (.getfield 10, 3) := by decide +kernel
theorem dX8_causedBy_16 : decode cX8_causedBy 16 = .ok (.getfield 99, 3) := by decide +kernel
theorem dX8_causedBy_19 : decode cX8_causedBy 19 = .ok (.invokestatic 71, 3) := by decide +kernel
theorem dX8_causedBy_22 : decode cX8_causedBy 22 = .ok (.iload_n 3, 1) := by decide +kernel
theorem dX8_causedBy_23 : decode cX8_causedBy 23 = .ok (.iconst 1, 1) := by decide +kernel
theorem dX8_causedBy_24 : decode cX8_causedBy 24 = .ok (.bipush 30, 2) := by decide +kernel
theorem dX8_causedBy_26 : decode cX8_causedBy 26 = .ok (.invokestatic 19, 3) := by decide +kernel
theorem dX8_causedBy_29 : decode cX8_causedBy 29 = .ok (.aload_n 0, 1) := by decide +kernel
theorem dX8_causedBy_30 : decode cX8_causedBy 30 = .ok (.getfield 16, 3) := by decide +kernel
theorem dX8_causedBy_33 : decode cX8_causedBy 33 = .ok (.aload_n 0, 1) := by decide +kernel
theorem dX8_causedBy_34 : decode cX8_causedBy 34 = .ok (.getfield 10, 3) := by decide +kernel
theorem dX8_causedBy_37 : decode cX8_causedBy 37 = .ok (.invokevirtual 247, 3) := by decide +kernel
theorem dX8_causedBy_40 : decode cX8_causedBy 40 = .ok (.aload_n 0, 1) := by decide +kernel
theorem dX8_causedBy_41 : decode cX8_causedBy 41 = .ok (.getfield 16, 3) := by decide +kernel
theorem dX8_causedBy_44 : decode cX8_causedBy 44 = .ok (.iload_n 3, 1) := by decide +kernel
theorem dX8_causedBy_45 : decode cX8_causedBy 45 = .ok (.invokestatic 169, 3) := by decide +kernel
theorem dX8_causedBy_48 : decode cX8_causedBy 48 = .ok (.pop, 1) := by decide +kernel
theorem dX8_causedBy_49 : decode cX8_causedBy 49 = .ok (.aload_n 0, 1) := by decide +kernel
theorem dX8_causedBy_50 : decode cX8_causedBy 50 = .ok (.getfield 16, 3) := by decide +kernel
theorem dX8_causedBy_53 : decode cX8_causedBy 53 = .ok (.getfield 118, 3) := by decide +kernel
theorem dX8_causedBy_56 : decode cX8_causedBy 56 = .ok (.iload_n 1, 1) := by decide +kernel
theorem dX8_causedBy_57 : decode cX8_causedBy 57 = .ok (.aaload, 1) := by decide +kernel
theorem dX8_causedBy_58 : decode cX8_causedBy 58 = .ok (.getfield 198, 3) := by decide +kernel
theorem dX8_causedBy_61 : decode cX8_causedBy 61 = .ok (.istore 4, 2) := by decide +kernel
theorem dX8_causedBy_63 : decode cX8_causedBy 63 = .ok (.aload_n 0, 1) := by decide +kernel
theorem dX8_causedBy_64 : decode cX8_causedBy 64 = .ok (.getfield 16, 3) := by decide +kernel
theorem dX8_causedBy_67 : decode cX8_causedBy 67 = .ok (.aload_n 0, 1) := by decide +kernel
theorem dX8_causedBy_68 : decode cX8_causedBy 68 = .ok (.getfield 10, 3) := by decide +kernel
theorem dX8_causedBy_71 : decode cX8_causedBy 71 = .ok (.invokevirtual 247, 3) := by decide +kernel
theorem dX8_causedBy_74 : decode cX8_causedBy 74 = .ok (.aload_n 0, 1) := by decide +kernel
theorem dX8_causedBy_75 : decode cX8_causedBy 75 = .ok (.getfield 16, 3) := by decide +kernel
theorem dX8_causedBy_78 : decode cX8_causedBy 78 = .ok (.getfield 102, 3) := by decide +kernel
theorem dX8_causedBy_81 : decode cX8_causedBy 81 = .ok (.iload_n 2, 1) := by decide +kernel
theorem dX8_causedBy_82 : decode cX8_causedBy 82 = .ok (.aaload, 1) := by decide +kernel
theorem dX8_causedBy_83 : decode cX8_causedBy 83 = .ok (.iconst 0, 1) := by decide +kernel
theorem dX8_causedBy_84 : decode cX8_causedBy 84 = .ok (.putfield 131, 3) := by decide +kernel
theorem dX8_causedBy_87 : decode cX8_causedBy 87 = .ok (.aload_n 0, 1) := by decide +kernel
theorem dX8_causedBy_88 : decode cX8_causedBy 88 = .ok (.getfield 16, 3) := by decide +kernel
theorem dX8_causedBy_91 : decode cX8_causedBy 91 = .ok (.iload_n 3, 1) := by decide +kernel
theorem dX8_causedBy_92 : decode cX8_causedBy 92 = .ok (.invokestatic 169, 3) := by decide +kernel
theorem dX8_causedBy_95 : decode cX8_causedBy 95 = .ok (.pop, 1) := by decide +kernel
theorem dX8_causedBy_96 : decode cX8_causedBy 96 = .ok (.aload_n 0, 1) := by decide +kernel
theorem dX8_causedBy_97 : decode cX8_causedBy 97 = .ok (.getfield 16, 3) := by decide +kernel
theorem dX8_causedBy_100 : decode cX8_causedBy 100 = .ok (.getfield 118, 3) := by decide +kernel
theorem dX8_causedBy_103 : decode cX8_causedBy 103 = .ok (.iload_n 1, 1) := by decide +kernel
theorem dX8_causedBy_104 : decode cX8_causedBy 104 = .ok (.aaload, 1) := by decide +kernel
theorem dX8_causedBy_105 : decode cX8_causedBy 105 = .ok (.getfield 198, 3) := by decide +kernel
theorem dX8_causedBy_108 : decode cX8_causedBy 108 = .ok (.iload 4, 2) := by decide +kernel
theorem dX8_causedBy_110 : decode cX8_causedBy 110 = .ok (.isub, 1) := by decide +kernel
theorem dX8_causedBy_111 : decode cX8_causedBy 111 = .ok (.ireturn, 1) := by decide +kernel
theorem dX8_bestValves_0 : decode cX8_bestValves 0 = .ok (.iload_n 1, 1) := by decide +kernel
theorem dX8_bestValves_1 : decode cX8_bestValves 1 = .ok (.iconst 1, 1) := by decide +kernel
theorem dX8_bestValves_2 : decode cX8_bestValves 2 = .ok (.bipush 12, 2) := by decide +kernel
theorem dX8_bestValves_4 : decode cX8_bestValves 4 = .ok (.invokestatic 19, 3) := by decide +kernel
theorem dX8_bestValves_7 : decode cX8_bestValves 7 = .ok (.aload_n 0, 1) := by decide +kernel
theorem dX8_bestValves_8 : decode cX8_bestValves 8 = .ok (.getfield 10, 3) := by decide +kernel
theorem dX8_bestValves_11 : decode cX8_bestValves 11 = .ok (.invokevirtual 245, 3) := by decide +kernel
theorem dX8_bestValves_14 : decode cX8_bestValves 14 = .ok (.istore_n 2, 1) := by decide +kernel
theorem dX8_bestValves_15 : decode cX8_bestValves 15 = .ok (.iconst (-1), 1) := by decide +kernel
theorem dX8_bestValves_16 : decode cX8_bestValves 16 = .ok (.istore_n 3, 1) := by decide +kernel
theorem dX8_bestValves_17 : decode cX8_bestValves 17 = .ok (.iconst 0, 1) := by decide +kernel
theorem dX8_bestValves_18 : decode cX8_bestValves 18 = .ok (.istore 4, 2) := by decide +kernel
theorem dX8_bestValves_20 : decode cX8_bestValves 20 = .ok (.iconst 0, 1) := by decide +kernel
theorem dX8_bestValves_21 : decode cX8_bestValves 21 = .ok (.istore 5, 2) := by decide +kernel
theorem dX8_bestValves_23 : decode cX8_bestValves 23 = .ok (.iload 5, 2) := by decide +kernel
theorem dX8_bestValves_25 : decode cX8_bestValves 25 = .ok (.bipush 9, 2) := by decide +kernel
theorem dX8_bestValves_27 : decode cX8_bestValves 27 = .ok (.if_icmp .gt 98, 3) := by decide +kernel
theorem dX8_bestValves_30 : decode cX8_bestValves 30 = .ok (.iconst 0, 1) := by decide +kernel
theorem dX8_bestValves_31 : decode cX8_bestValves 31 = .ok (.istore 6, 2) := by decide +kernel
theorem dX8_bestValves_33 : decode cX8_bestValves 33 = .ok (.iload 6, 2) := by decide +kernel
theorem dX8_bestValves_35 : decode cX8_bestValves 35 = .ok (.bipush 9, 2) := by decide +kernel
theorem dX8_bestValves_37 : decode cX8_bestValves 37 = .ok (.if_icmp .gt 82, 3) := by decide +kernel
theorem dX8_bestValves_40 : decode cX8_bestValves 40 = .ok (.aload_n 0, 1) := by decide +kernel
theorem dX8_bestValves_41 : decode cX8_bestValves 41 = .ok (.getfield 16, 3) := by decide +kernel
theorem dX8_bestValves_44 : decode cX8_bestValves 44 = .ok (.aload_n 0, 1) := by decide +kernel
theorem dX8_bestValves_45 : decode cX8_bestValves 45 = .ok (.getfield 10, 3) := by decide +kernel
theorem dX8_bestValves_48 : decode cX8_bestValves 48 = .ok (.invokevirtual 247, 3) := by decide +kernel
theorem dX8_bestValves_51 : decode cX8_bestValves 51 = .ok (.aload_n 0, 1) := by decide +kernel
theorem dX8_bestValves_52 : decode cX8_bestValves 52 = .ok (.getfield 16, 3) := by decide +kernel
theorem dX8_bestValves_55 : decode cX8_bestValves 55 = .ok (.iload 5, 2) := by decide +kernel
theorem dX8_bestValves_57 : decode cX8_bestValves 57 = .ok (.iload 6, 2) := by decide +kernel
theorem dX8_bestValves_59 : decode cX8_bestValves 59 = .ok (.invokevirtual 254, 3) := by decide +kernel
theorem dX8_bestValves_62 : decode cX8_bestValves 62 = .ok (.aload_n 0, 1) := by decide +kernel
theorem dX8_bestValves_63 : decode cX8_bestValves 63 = .ok (.getfield 16, 3) := by decide +kernel
theorem dX8_bestValves_66 : decode cX8_bestValves 66 = .ok (.iload_n 1, 1) := by decide +kernel
theorem dX8_bestValves_67 : decode cX8_bestValves 67 = .ok (.invokestatic 169, 3) := by decide +kernel
theorem dX8_bestValves_70 : decode cX8_bestValves 70 = .ok (.istore 7, 2) := by decide +kernel
theorem dX8_bestValves_72 : decode cX8_bestValves 72 = .ok (.iload 7, 2) := by decide +kernel
theorem dX8_bestValves_74 : decode cX8_bestValves 74 = .ok (.iconst 3, 1) := by decide +kernel
theorem dX8_bestValves_75 : decode cX8_bestValves 75 = .ok (.aload_n 0, 1) := by decide +kernel
theorem dX8_bestValves_76 : decode cX8_bestValves 76 = .ok (.getfield 16, 3) := by decide +kernel
theorem dX8_bestValves_79 : decode cX8_bestValves 79 = .ok (.invokevirtual 245, 3) := by decide +kernel
theorem dX8_bestValves_82 : decode cX8_bestValves 82 = .ok (.iload_n 2, 1) := by decide +kernel
theorem dX8_bestValves_83 : decode cX8_bestValves 83 = .ok (.isub, 1) := by decide +kernel
theorem dX8_bestValves_84 : decode cX8_bestValves 84 = .ok (.imul, 1) := by decide +kernel
theorem dX8_bestValves_85 : decode cX8_bestValves 85 = .ok (.isub, 1) := by decide +kernel
theorem dX8_bestValves_86 : decode cX8_bestValves 86 = .ok (.istore 8, 2) := by decide +kernel
theorem dX8_bestValves_88 : decode cX8_bestValves 88 = .ok (.iload_n 3, 1) := by decide +kernel
theorem dX8_bestValves_89 : decode cX8_bestValves 89 = .ok (.iconst (-1), 1) := by decide +kernel
theorem dX8_bestValves_90 : decode cX8_bestValves 90 = .ok (.if_icmp .eq 10, 3) := by decide +kernel
theorem dX8_bestValves_93 : decode cX8_bestValves 93 = .ok (.iload 8, 2) := by decide +kernel
theorem dX8_bestValves_95 : decode cX8_bestValves 95 = .ok (.iload 4, 2) := by decide +kernel
theorem dX8_bestValves_97 : decode cX8_bestValves 97 = .ok (.if_icmp .le 16, 3) := by decide +kernel
theorem dX8_bestValves_100 : decode cX8_bestValves 100 = .ok (.bipush 10, 2) := by decide +kernel
theorem dX8_bestValves_102 : decode cX8_bestValves 102 = .ok (.iload 5, 2) := by decide +kernel
theorem dX8_bestValves_104 : decode cX8_bestValves 104 = .ok (.imul, 1) := by decide +kernel
theorem dX8_bestValves_105 : decode cX8_bestValves 105 = .ok (.iload 6, 2) := by decide +kernel
theorem dX8_bestValves_107 : decode cX8_bestValves 107 = .ok (.iadd, 1) := by decide +kernel
theorem dX8_bestValves_108 : decode cX8_bestValves 108 = .ok (.istore_n 3, 1) := by decide +kernel
theorem dX8_bestValves_109 : decode cX8_bestValves 109 = .ok (.iload 8, 2) := by decide +kernel
theorem dX8_bestValves_111 : decode cX8_bestValves 111 = .ok (.istore 4, 2) := by decide +kernel
theorem dX8_bestValves_113 : decode cX8_bestValves 113 = .ok (.iinc 6 3, 3) := by decide +kernel
theorem dX8_bestValves_116 : decode cX8_bestValves 116 = .ok (.goto (-83), 3) := by decide +kernel
theorem dX8_bestValves_119 : decode cX8_bestValves 119 = .ok (.iinc 5 3, 3) := by decide +kernel
theorem dX8_bestValves_122 : decode cX8_bestValves 122 = .ok (.goto (-99), 3) := by decide +kernel
theorem dX8_bestValves_125 : decode cX8_bestValves 125 = .ok (.iload_n 3, 1) := by decide +kernel
theorem dX8_bestValves_126 : decode cX8_bestValves 126 = .ok (.ireturn, 1) := by decide +kernel
theorem dX8_digest_0 : decode cX8_digest 0 = .ok (.ldc2_w 257, 3) := by decide +kernel
theorem dX8_digest_3 : decode cX8_digest 3 = .ok (.lstore_n 1, 1) := by decide +kernel
theorem dX8_digest_4 : decode cX8_digest 4 = .ok (.iconst 0, 1) := by decide +kernel
theorem dX8_digest_5 : decode cX8_digest 5 = .ok (.istore_n 3, 1) := by decide +kernel
theorem dX8_digest_6 : decode cX8_digest 6 = .ok (.iload_n 3, 1) := by decide +kernel
theorem dX8_digest_7 : decode cX8_digest 7 = .ok (.bipush 13, 2) := by decide +kernel
theorem dX8_digest_9 : decode cX8_digest 9 = .ok (.if_icmp .ge 22, 3) := by decide +kernel
theorem dX8_digest_12 : decode cX8_digest 12 = .ok (.lload_n 1, 1) := by decide +kernel
theorem dX8_digest_13 : decode cX8_digest 13 = .ok (.ldc2_w 259, 3) := by decide +kernel
theorem dX8_digest_16 : decode cX8_digest 16 = .ok (.lmul, 1) := by decide +kernel
theorem dX8_digest_17 : decode cX8_digest 17 = .ok (.aload_n 0, 1) := by decide +kernel
theorem dX8_digest_18 : decode cX8_digest 18 = .ok (.iload_n 3, 1) := by decide +kernel
theorem dX8_digest_19 : decode cX8_digest 19 = .ok (.invokevirtual 261, 3) := by decide +kernel
theorem dX8_digest_22 : decode cX8_digest 22 = .ok (.i2l, 1) := by decide +kernel
theorem dX8_digest_23 : decode cX8_digest 23 = .ok (.ladd, 1) := by decide +kernel
theorem dX8_digest_24 : decode cX8_digest 24 = .ok (.lstore_n 1, 1) := by decide +kernel
theorem dX8_digest_25 : decode cX8_digest 25 = .ok (.iinc 3 1, 3) := by decide +kernel
theorem dX8_digest_28 : decode cX8_digest 28 = .ok (.goto (-22), 3) := by decide +kernel
theorem dX8_digest_31 : decode cX8_digest 31 = .ok (.iconst 0, 1) := by decide +kernel
theorem dX8_digest_32 : decode cX8_digest 32 = .ok (.istore_n 3, 1) := by decide +kernel
theorem dX8_digest_33 : decode cX8_digest 33 = .ok (.iload_n 3, 1) := by decide +kernel
theorem dX8_digest_34 : decode cX8_digest 34 = .ok (.aload_n 0, 1) := by decide +kernel
theorem dX8_digest_35 : decode cX8_digest 35 = .ok (.getfield 10, 3) := by decide +kernel
theorem dX8_digest_38 : decode cX8_digest 38 = .ok (.getfield 23, 3) := by decide +kernel
theorem dX8_digest_41 : decode cX8_digest 41 = .ok (.if_icmp .ge 40, 3) := by decide +kernel
theorem dX8_digest_44 : decode cX8_digest 44 = .ok (.iconst 0, 1) := by decide +kernel
theorem dX8_digest_45 : decode cX8_digest 45 = .ok (.istore 4, 2) := by decide +kernel
theorem dX8_digest_47 : decode cX8_digest 47 = .ok (.iload 4, 2) := by decide +kernel
theorem dX8_digest_49 : decode cX8_digest 49 = .ok (.bipush 6, 2) := by decide +kernel
theorem dX8_digest_51 : decode cX8_digest 51 = .ok (.if_icmp .ge 24, 3) := by decide +kernel
theorem dX8_digest_54 : decode cX8_digest 54 = .ok (.lload_n 1, 1) := by decide +kernel
theorem dX8_digest_55 : decode cX8_digest 55 = .ok (.ldc2_w 259, 3) := by decide +kernel
theorem dX8_digest_58 : decode cX8_digest 58 = .ok (.lmul, 1) := by decide +kernel
theorem dX8_digest_59 : decode cX8_digest 59 = .ok (.aload_n 0, 1) := by decide +kernel
theorem dX8_digest_60 : decode cX8_digest 60 = .ok (.iload_n 3, 1) := by decide +kernel
theorem dX8_digest_61 : decode cX8_digest 61 = .ok (.iload 4, 2) := by decide +kernel
theorem dX8_digest_63 : decode cX8_digest 63 = .ok (.invokevirtual 264, 3) := by decide +kernel
theorem dX8_digest_66 : decode cX8_digest 66 = .ok (.i2l, 1) := by decide +kernel
theorem dX8_digest_67 : decode cX8_digest 67 = .ok (.ladd, 1) := by decide +kernel
theorem dX8_digest_68 : decode cX8_digest 68 = .ok (.lstore_n 1, 1) := by decide +kernel
theorem dX8_digest_69 : decode cX8_digest 69 = .ok (.iinc 4 1, 3) := by decide +kernel
theorem dX8_digest_72 : decode cX8_digest 72 = .ok (.goto (-25), 3) := by decide +kernel
theorem dX8_digest_75 : decode cX8_digest 75 = .ok (.iinc 3 1, 3) := by decide +kernel
theorem dX8_digest_78 : decode cX8_digest 78 = .ok (.goto (-45), 3) := by decide +kernel
theorem dX8_digest_81 : decode cX8_digest 81 = .ok (.iconst 0, 1) := by decide +kernel
theorem dX8_digest_82 : decode cX8_digest 82 = .ok (.istore_n 3, 1) := by decide +kernel
theorem dX8_digest_83 : decode cX8_digest 83 = .ok (.iload_n 3, 1) := by decide +kernel
theorem dX8_digest_84 : decode cX8_digest 84 = .ok (.aload_n 0, 1) := by decide +kernel
theorem dX8_digest_85 : decode cX8_digest 85 = .ok (.getfield 10, 3) := by decide +kernel
theorem dX8_digest_88 : decode cX8_digest 88 = .ok (.getfield 99, 3) := by decide +kernel
theorem dX8_digest_91 : decode cX8_digest 91 = .ok (.if_icmp .ge 55, 3) := by decide +kernel
theorem dX8_digest_94 : decode cX8_digest 94 = .ok (.iconst 0, 1) := by decide +kernel
theorem dX8_digest_95 : decode cX8_digest 95 = .ok (.istore 4, 2) := by decide +kernel
theorem dX8_digest_97 : decode cX8_digest 97 = .ok (.iload 4, 2) := by decide +kernel
theorem dX8_digest_99 : decode cX8_digest 99 = .ok (.bipush 9, 2) := by decide +kernel
theorem dX8_digest_101 : decode cX8_digest 101 = .ok (.if_icmp .ge 24, 3) := by decide +kernel
theorem dX8_digest_104 : decode cX8_digest 104 = .ok (.lload_n 1, 1) := by decide +kernel
theorem dX8_digest_105 : decode cX8_digest 105 = .ok (.ldc2_w 259, 3) := by decide +kernel
theorem dX8_digest_108 : decode cX8_digest 108 = .ok (.lmul, 1) := by decide +kernel
theorem dX8_digest_109 : decode cX8_digest 109 = .ok (.aload_n 0, 1) := by decide +kernel
theorem dX8_digest_110 : decode cX8_digest 110 = .ok (.iload_n 3, 1) := by decide +kernel
theorem dX8_digest_111 : decode cX8_digest 111 = .ok (.iload 4, 2) := by decide +kernel
theorem dX8_digest_113 : decode cX8_digest 113 = .ok (.invokevirtual 268, 3) := by decide +kernel
theorem dX8_digest_116 : decode cX8_digest 116 = .ok (.i2l, 1) := by decide +kernel
theorem dX8_digest_117 : decode cX8_digest 117 = .ok (.ladd, 1) := by decide +kernel
theorem dX8_digest_118 : decode cX8_digest 118 = .ok (.lstore_n 1, 1) := by decide +kernel
theorem dX8_digest_119 : decode cX8_digest 119 = .ok (.iinc 4 1, 3) := by decide +kernel
theorem dX8_digest_122 : decode cX8_digest 122 = .ok (.goto (-25), 3) := by decide +kernel
theorem dX8_digest_125 : decode cX8_digest 125 = .ok (.lload_n 1, 1) := by decide +kernel
theorem dX8_digest_126 : decode cX8_digest 126 = .ok (.ldc2_w 259, 3) := by decide +kernel
theorem dX8_digest_129 : decode cX8_digest 129 = .ok (.lmul, 1) := by decide +kernel
theorem dX8_digest_130 : decode cX8_digest 130 = .ok (.aload_n 0, 1) := by decide +kernel
theorem dX8_digest_131 : decode cX8_digest 131 = .ok (.iload_n 3, 1) := by decide +kernel
theorem dX8_digest_132 : decode cX8_digest 132 = .ok (.bipush 100, 2) := by decide +kernel
theorem dX8_digest_134 : decode cX8_digest 134 = .ok (.invokevirtual 271, 3) := by decide +kernel
theorem dX8_digest_137 : decode cX8_digest 137 = .ok (.i2l, 1) := by decide +kernel
theorem dX8_digest_138 : decode cX8_digest 138 = .ok (.ladd, 1) := by decide +kernel
theorem dX8_digest_139 : decode cX8_digest 139 = .ok (.lstore_n 1, 1) := by decide +kernel
theorem dX8_digest_140 : decode cX8_digest 140 = .ok (.iinc 3 1, 3) := by decide +kernel
theorem dX8_digest_143 : decode cX8_digest 143 = .ok (.goto (-60), 3) := by decide +kernel
theorem dX8_digest_146 : decode cX8_digest 146 = .ok (.iconst 0, 1) := by decide +kernel
theorem dX8_digest_147 : decode cX8_digest 147 = .ok (.istore_n 3, 1) := by decide +kernel
theorem dX8_digest_148 : decode cX8_digest 148 = .ok (.iload_n 3, 1) := by decide +kernel
theorem dX8_digest_149 : decode cX8_digest 149 = .ok (.aload_n 0, 1) := by decide +kernel
theorem dX8_digest_150 : decode cX8_digest 150 = .ok (.getfield 10, 3) := by decide +kernel
theorem dX8_digest_153 : decode cX8_digest 153 = .ok (.getfield 81, 3) := by decide +kernel
theorem dX8_digest_156 : decode cX8_digest 156 = .ok (.if_icmp .ge 37, 3) := by decide +kernel
theorem dX8_digest_159 : decode cX8_digest 159 = .ok (.lload_n 1, 1) := by decide +kernel
theorem dX8_digest_160 : decode cX8_digest 160 = .ok (.ldc2_w 259, 3) := by decide +kernel
theorem dX8_digest_163 : decode cX8_digest 163 = .ok (.lmul, 1) := by decide +kernel
theorem dX8_digest_164 : decode cX8_digest 164 = .ok (.aload_n 0, 1) := by decide +kernel
theorem dX8_digest_165 : decode cX8_digest 165 = .ok (.iload_n 3, 1) := by decide +kernel
theorem dX8_digest_166 : decode cX8_digest 166 = .ok (.iconst 1, 1) := by decide +kernel
theorem dX8_digest_167 : decode cX8_digest 167 = .ok (.invokevirtual 274, 3) := by decide +kernel
theorem dX8_digest_170 : decode cX8_digest 170 = .ok (.i2l, 1) := by decide +kernel
theorem dX8_digest_171 : decode cX8_digest 171 = .ok (.ladd, 1) := by decide +kernel
theorem dX8_digest_172 : decode cX8_digest 172 = .ok (.lstore_n 1, 1) := by decide +kernel
theorem dX8_digest_173 : decode cX8_digest 173 = .ok (.lload_n 1, 1) := by decide +kernel
theorem dX8_digest_174 : decode cX8_digest 174 = .ok (.ldc2_w 259, 3) := by decide +kernel
theorem dX8_digest_177 : decode cX8_digest 177 = .ok (.lmul, 1) := by decide +kernel
theorem dX8_digest_178 : decode cX8_digest 178 = .ok (.aload_n 0, 1) := by decide +kernel
theorem dX8_digest_179 : decode cX8_digest 179 = .ok (.iload_n 3, 1) := by decide +kernel
theorem dX8_digest_180 : decode cX8_digest 180 = .ok (.iconst 0, 1) := by decide +kernel
theorem dX8_digest_181 : decode cX8_digest 181 = .ok (.invokevirtual 274, 3) := by decide +kernel
theorem dX8_digest_184 : decode cX8_digest 184 = .ok (.i2l, 1) := by decide +kernel
theorem dX8_digest_185 : decode cX8_digest 185 = .ok (.ladd, 1) := by decide +kernel
theorem dX8_digest_186 : decode cX8_digest 186 = .ok (.lstore_n 1, 1) := by decide +kernel
theorem dX8_digest_187 : decode cX8_digest 187 = .ok (.iinc 3 1, 3) := by decide +kernel
theorem dX8_digest_190 : decode cX8_digest 190 = .ok (.goto (-42), 3) := by decide +kernel
theorem dX8_digest_193 : decode cX8_digest 193 = .ok (.iconst 0, 1) := by decide +kernel
theorem dX8_digest_194 : decode cX8_digest 194 = .ok (.istore_n 3, 1) := by decide +kernel
theorem dX8_digest_195 : decode cX8_digest 195 = .ok (.iload_n 3, 1) := by decide +kernel
theorem dX8_digest_196 : decode cX8_digest 196 = .ok (.aload_n 0, 1) := by decide +kernel
theorem dX8_digest_197 : decode cX8_digest 197 = .ok (.getfield 10, 3) := by decide +kernel
theorem dX8_digest_200 : decode cX8_digest 200 = .ok (.getfield 115, 3) := by decide +kernel
theorem dX8_digest_203 : decode cX8_digest 203 = .ok (.if_icmp .ge 76, 3) := by decide +kernel
theorem dX8_digest_206 : decode cX8_digest 206 = .ok (.iconst 0, 1) := by decide +kernel
theorem dX8_digest_207 : decode cX8_digest 207 = .ok (.istore 4, 2) := by decide +kernel
theorem dX8_digest_209 : decode cX8_digest 209 = .ok (.iload 4, 2) := by decide +kernel
theorem dX8_digest_211 : decode cX8_digest 211 = .ok (.iconst 4, 1) := by decide +kernel
theorem dX8_digest_212 : decode cX8_digest 212 = .ok (.if_icmp .ge 24, 3) := by decide +kernel
theorem dX8_digest_215 : decode cX8_digest 215 = .ok (.lload_n 1, 1) := by decide +kernel
theorem dX8_digest_216 : decode cX8_digest 216 = .ok (.ldc2_w 259, 3) := by decide +kernel
theorem dX8_digest_219 : decode cX8_digest 219 = .ok (.lmul, 1) := by decide +kernel
theorem dX8_digest_220 : decode cX8_digest 220 = .ok (.aload_n 0, 1) := by decide +kernel
theorem dX8_digest_221 : decode cX8_digest 221 = .ok (.iload_n 3, 1) := by decide +kernel
theorem dX8_digest_222 : decode cX8_digest 222 = .ok (.iload 4, 2) := by decide +kernel
theorem dX8_digest_224 : decode cX8_digest 224 = .ok (.invokevirtual 278, 3) := by decide +kernel
theorem dX8_digest_227 : decode cX8_digest 227 = .ok (.i2l, 1) := by decide +kernel
theorem dX8_digest_228 : decode cX8_digest 228 = .ok (.ladd, 1) := by decide +kernel
theorem dX8_digest_229 : decode cX8_digest 229 = .ok (.lstore_n 1, 1) := by decide +kernel
theorem dX8_digest_230 : decode cX8_digest 230 = .ok (.iinc 4 1, 3) := by decide +kernel
theorem dX8_digest_233 : decode cX8_digest 233 = .ok (.goto (-24), 3) := by decide +kernel
theorem dX8_digest_236 : decode cX8_digest 236 = .ok (.iconst 0, 1) := by decide +kernel
theorem dX8_digest_237 : decode cX8_digest 237 = .ok (.istore 4, 2) := by decide +kernel
theorem dX8_digest_239 : decode cX8_digest 239 = .ok (.iload 4, 2) := by decide +kernel
theorem dX8_digest_241 : decode cX8_digest 241 = .ok (.aload_n 0, 1) := by decide +kernel
theorem dX8_digest_242 : decode cX8_digest 242 = .ok (.getfield 10, 3) := by decide +kernel
theorem dX8_digest_245 : decode cX8_digest 245 = .ok (.getfield 99, 3) := by decide +kernel
theorem dX8_digest_248 : decode cX8_digest 248 = .ok (.if_icmp .ge 25, 3) := by decide +kernel
theorem dX8_digest_251 : decode cX8_digest 251 = .ok (.lload_n 1, 1) := by decide +kernel
theorem dX8_digest_252 : decode cX8_digest 252 = .ok (.ldc2_w 259, 3) := by decide +kernel
theorem dX8_digest_255 : decode cX8_digest 255 = .ok (.lmul, 1) := by decide +kernel
theorem dX8_digest_256 : decode cX8_digest 256 = .ok (.aload_n 0, 1) := by decide +kernel
theorem dX8_digest_257 : decode cX8_digest 257 = .ok (.iload_n 3, 1) := by decide +kernel
theorem dX8_digest_258 : decode cX8_digest 258 = .ok (.iload 4, 2) := by decide +kernel
theorem dX8_digest_260 : decode cX8_digest 260 = .ok (.iconst 3, 1) := by decide +kernel
theorem dX8_digest_261 : decode cX8_digest 261 = .ok (.invokevirtual 281, 3) := by decide +kernel
theorem dX8_digest_264 : decode cX8_digest 264 = .ok (.i2l, 1) := by decide +kernel
theorem dX8_digest_265 : decode cX8_digest 265 = .ok (.ladd, 1) := by decide +kernel
theorem dX8_digest_266 : decode cX8_digest 266 = .ok (.lstore_n 1, 1) := by decide +kernel
theorem dX8_digest_267 : decode cX8_digest 267 = .ok (.iinc 4 1, 3) := by decide +kernel
theorem dX8_digest_270 : decode cX8_digest 270 = .ok (.goto (-31), 3) := by decide +kernel
theorem dX8_digest_273 : decode cX8_digest 273 = .ok (.iinc 3 1, 3) := by decide +kernel
theorem dX8_digest_276 : decode cX8_digest 276 = .ok (.goto (-81), 3) := by decide +kernel
theorem dX8_digest_279 : decode cX8_digest 279 = .ok (.iconst 0, 1) := by decide +kernel
theorem dX8_digest_280 : decode cX8_digest 280 = .ok (.istore_n 3, 1) := by decide +kernel
theorem dX8_digest_281 : decode cX8_digest 281 = .ok (.iload_n 3, 1) := by decide +kernel
theorem dX8_digest_282 : decode cX8_digest 282 = .ok (.iconst 4, 1) := by decide +kernel
theorem dX8_digest_283 : decode cX8_digest 283 = .ok (.if_icmp .ge 22, 3) := by decide +kernel
theorem dX8_digest_286 : decode cX8_digest 286 = .ok (.lload_n 1, 1) := by decide +kernel
theorem dX8_digest_287 : decode cX8_digest 287 = .ok (.ldc2_w 259, 3) := by decide +kernel
theorem dX8_digest_290 : decode cX8_digest 290 = .ok (.lmul, 1) := by decide +kernel
theorem dX8_digest_291 : decode cX8_digest 291 = .ok (.aload_n 0, 1) := by decide +kernel
theorem dX8_digest_292 : decode cX8_digest 292 = .ok (.iload_n 3, 1) := by decide +kernel
theorem dX8_digest_293 : decode cX8_digest 293 = .ok (.invokevirtual 285, 3) := by decide +kernel
theorem dX8_digest_296 : decode cX8_digest 296 = .ok (.i2l, 1) := by decide +kernel
theorem dX8_digest_297 : decode cX8_digest 297 = .ok (.ladd, 1) := by decide +kernel
theorem dX8_digest_298 : decode cX8_digest 298 = .ok (.lstore_n 1, 1) := by decide +kernel
theorem dX8_digest_299 : decode cX8_digest 299 = .ok (.iinc 3 1, 3) := by decide +kernel
theorem dX8_digest_302 : decode cX8_digest 302 = .ok (.goto (-21), 3) := by decide +kernel
theorem dX8_digest_305 : decode cX8_digest 305 = .ok (.iconst 0, 1) := by decide +kernel
theorem dX8_digest_306 : decode cX8_digest 306 = .ok (.istore_n 3, 1) := by decide +kernel
theorem dX8_digest_307 : decode cX8_digest 307 = .ok (.iload_n 3, 1) := by decide +kernel
theorem dX8_digest_308 : decode cX8_digest 308 = .ok (.iconst 2, 1) := by decide +kernel
theorem dX8_digest_309 : decode cX8_digest 309 = .ok (.if_icmp .ge 39, 3) := by decide +kernel
theorem dX8_digest_312 : decode cX8_digest 312 = .ok (.iconst 0, 1) := by decide +kernel
theorem dX8_digest_313 : decode cX8_digest 313 = .ok (.istore 4, 2) := by decide +kernel
theorem dX8_digest_315 : decode cX8_digest 315 = .ok (.iload 4, 2) := by decide +kernel
theorem dX8_digest_317 : decode cX8_digest 317 = .ok (.iconst 2, 1) := by decide +kernel
theorem dX8_digest_318 : decode cX8_digest 318 = .ok (.if_icmp .ge 24, 3) := by decide +kernel
theorem dX8_digest_321 : decode cX8_digest 321 = .ok (.lload_n 1, 1) := by decide +kernel
theorem dX8_digest_322 : decode cX8_digest 322 = .ok (.ldc2_w 259, 3) := by decide +kernel
theorem dX8_digest_325 : decode cX8_digest 325 = .ok (.lmul, 1) := by decide +kernel
theorem dX8_digest_326 : decode cX8_digest 326 = .ok (.aload_n 0, 1) := by decide +kernel
theorem dX8_digest_327 : decode cX8_digest 327 = .ok (.iload_n 3, 1) := by decide +kernel
theorem dX8_digest_328 : decode cX8_digest 328 = .ok (.iload 4, 2) := by decide +kernel
theorem dX8_digest_330 : decode cX8_digest 330 = .ok (.invokevirtual 287, 3) := by decide +kernel
theorem dX8_digest_333 : decode cX8_digest 333 = .ok (.i2l, 1) := by decide +kernel
theorem dX8_digest_334 : decode cX8_digest 334 = .ok (.ladd, 1) := by decide +kernel
theorem dX8_digest_335 : decode cX8_digest 335 = .ok (.lstore_n 1, 1) := by decide +kernel
theorem dX8_digest_336 : decode cX8_digest 336 = .ok (.iinc 4 1, 3) := by decide +kernel
theorem dX8_digest_339 : decode cX8_digest 339 = .ok (.goto (-24), 3) := by decide +kernel
theorem dX8_digest_342 : decode cX8_digest 342 = .ok (.iinc 3 1, 3) := by decide +kernel
theorem dX8_digest_345 : decode cX8_digest 345 = .ok (.goto (-38), 3) := by decide +kernel
theorem dX8_digest_348 : decode cX8_digest 348 = .ok (.iconst 0, 1) := by decide +kernel
theorem dX8_digest_349 : decode cX8_digest 349 = .ok (.istore_n 3, 1) := by decide +kernel
theorem dX8_digest_350 : decode cX8_digest 350 = .ok (.iload_n 3, 1) := by decide +kernel
theorem dX8_digest_351 : decode cX8_digest 351 = .ok (.bipush 7, 2) := by decide +kernel
theorem dX8_digest_353 : decode cX8_digest 353 = .ok (.if_icmp .ge 22, 3) := by decide +kernel
theorem dX8_digest_356 : decode cX8_digest 356 = .ok (.lload_n 1, 1) := by decide +kernel
theorem dX8_digest_357 : decode cX8_digest 357 = .ok (.ldc2_w 259, 3) := by decide +kernel
theorem dX8_digest_360 : decode cX8_digest 360 = .ok (.lmul, 1) := by decide +kernel
theorem dX8_digest_361 : decode cX8_digest 361 = .ok (.aload_n 0, 1) := by decide +kernel
theorem dX8_digest_362 : decode cX8_digest 362 = .ok (.iload_n 3, 1) := by decide +kernel
theorem dX8_digest_363 : decode cX8_digest 363 = .ok (.invokevirtual 290, 3) := by decide +kernel
theorem dX8_digest_366 : decode cX8_digest 366 = .ok (.i2l, 1) := by decide +kernel
theorem dX8_digest_367 : decode cX8_digest 367 = .ok (.ladd, 1) := by decide +kernel
theorem dX8_digest_368 : decode cX8_digest 368 = .ok (.lstore_n 1, 1) := by decide +kernel
theorem dX8_digest_369 : decode cX8_digest 369 = .ok (.iinc 3 1, 3) := by decide +kernel
theorem dX8_digest_372 : decode cX8_digest 372 = .ok (.goto (-22), 3) := by decide +kernel
theorem dX8_digest_375 : decode cX8_digest 375 = .ok (.lload_n 1, 1) := by decide +kernel
theorem dX8_digest_376 : decode cX8_digest 376 = .ok (.ldc2_w 259, 3) := by decide +kernel
theorem dX8_digest_379 : decode cX8_digest 379 = .ok (.lmul, 1) := by decide +kernel
theorem dX8_digest_380 : decode cX8_digest 380 = .ok (.aload_n 0, 1) := by decide +kernel
theorem dX8_digest_381 : decode cX8_digest 381 = .ok (.invokevirtual 292, 3) := by decide +kernel
theorem dX8_digest_384 : decode cX8_digest 384 = .ok (.ifCond .eq 7, 3) := by decide +kernel
theorem dX8_digest_387 : decode cX8_digest 387 = .ok (.iconst 1, 1) := by decide +kernel
theorem dX8_digest_388 : decode cX8_digest 388 = .ok (.goto 4, 3) := by decide +kernel
theorem dX8_digest_391 : decode cX8_digest 391 = .ok (.iconst 0, 1) := by decide +kernel
theorem dX8_digest_392 : decode cX8_digest 392 = .ok (.i2l, 1) := by decide +kernel
theorem dX8_digest_393 : decode cX8_digest 393 = .ok (.ladd, 1) := by decide +kernel
theorem dX8_digest_394 : decode cX8_digest 394 = .ok (.lstore_n 1, 1) := by decide +kernel
theorem dX8_digest_395 : decode cX8_digest 395 = .ok (.lload_n 1, 1) := by decide +kernel
theorem dX8_digest_396 : decode cX8_digest 396 = .ok (.ldc2_w 259, 3) := by decide +kernel
theorem dX8_digest_399 : decode cX8_digest 399 = .ok (.lmul, 1) := by decide +kernel
theorem dX8_digest_400 : decode cX8_digest 400 = .ok (.aload_n 0, 1) := by decide +kernel
theorem dX8_digest_401 : decode cX8_digest 401 = .ok (.iconst 4, 1) := by decide +kernel
theorem dX8_digest_402 : decode cX8_digest 402 = .ok (.invokevirtual 296, 3) := by decide +kernel
theorem dX8_digest_405 : decode cX8_digest 405 = .ok (.i2l, 1) := by decide +kernel
theorem dX8_digest_406 : decode cX8_digest 406 = .ok (.ladd, 1) := by decide +kernel
theorem dX8_digest_407 : decode cX8_digest 407 = .ok (.lstore_n 1, 1) := by decide +kernel
theorem dX8_digest_408 : decode cX8_digest 408 = .ok (.lload_n 1, 1) := by decide +kernel
theorem dX8_digest_409 : decode cX8_digest 409 = .ok (.ldc2_w 259, 3) := by decide +kernel
theorem dX8_digest_412 : decode cX8_digest 412 = .ok (.lmul, 1) := by decide +kernel
theorem dX8_digest_413 : decode cX8_digest 413 = .ok (.aload_n 0, 1) := by decide +kernel
theorem dX8_digest_414 : decode cX8_digest 414 = .ok (.iconst 3, 1) := by decide +kernel
theorem dX8_digest_415 : decode cX8_digest 415 = .ok (.invokevirtual 299, 3) := by decide +kernel
theorem dX8_digest_418 : decode cX8_digest 418 = .ok (.i2l, 1) := by decide +kernel
theorem dX8_digest_419 : decode cX8_digest 419 = .ok (.ladd, 1) := by decide +kernel
theorem dX8_digest_420 : decode cX8_digest 420 = .ok (.lreturn, 1) := by decide +kernel
theorem dX8_needRange_0 : decode cX8_needRange 0 = .ok (.iload_n 0, 1) := by decide +kernel
theorem dX8_needRange_1 : decode cX8_needRange 1 = .ok (.iload_n 1, 1) := by decide +kernel
theorem dX8_needRange_2 : decode cX8_needRange 2 = .ok (.if_icmp .lt 8, 3) := by decide +kernel
theorem dX8_needRange_5 : decode cX8_needRange 5 = .ok (.iload_n 0, 1) := by decide +kernel
theorem dX8_needRange_6 : decode cX8_needRange 6 = .ok (.iload_n 2, 1) := by decide +kernel
theorem dX8_needRange_7 : decode cX8_needRange 7 = .ok (.if_icmp .le 14, 3) := by decide +kernel
theorem dX8_needRange_10 : decode cX8_needRange 10 = .ok (.new 74, 3) := by decide +kernel
theorem dX8_needRange_13 : decode cX8_needRange 13 = .ok (.dup, 1) := by decide +kernel
theorem dX8_needRange_14 : decode cX8_needRange 14 = .ok (.ldc_w 302, 3) := by decide +kernel
theorem dX8_needRange_17 : decode cX8_needRange 17 = .ok (.invokespecial 78, 3) := by decide +kernel
theorem dX8_needRange_20 : decode cX8_needRange 20 = .ok (.athrow, 1) := by decide +kernel
theorem dX8_needRange_21 : decode cX8_needRange 21 = .ok (.return_, 1) := by decide +kernel
theorem dX8_needIndex_0 : decode cX8_needIndex 0 = .ok (.iload_n 0, 1) := by decide +kernel
theorem dX8_needIndex_1 : decode cX8_needIndex 1 = .ok (.ifCond .lt 8, 3) := by decide +kernel
theorem dX8_needIndex_4 : decode cX8_needIndex 4 = .ok (.iload_n 0, 1) := by decide +kernel
theorem dX8_needIndex_5 : decode cX8_needIndex 5 = .ok (.iload_n 1, 1) := by decide +kernel
theorem dX8_needIndex_6 : decode cX8_needIndex 6 = .ok (.if_icmp .lt 14, 3) := by decide +kernel
theorem dX8_needIndex_9 : decode cX8_needIndex 9 = .ok (.new 304, 3) := by decide +kernel
theorem dX8_needIndex_12 : decode cX8_needIndex 12 = .ok (.dup, 1) := by decide +kernel
theorem dX8_needIndex_13 : decode cX8_needIndex 13 = .ok (.ldc_w 306, 3) := by decide +kernel
theorem dX8_needIndex_16 : decode cX8_needIndex 16 = .ok (.invokespecial 308, 3) := by decide +kernel
theorem dX8_needIndex_19 : decode cX8_needIndex 19 = .ok (.athrow, 1) := by decide +kernel
theorem dX8_needIndex_20 : decode cX8_needIndex 20 = .ok (.return_, 1) := by decide +kernel
theorem dX8_needRoom_0 : decode cX8_needRoom 0 = .ok (.iload_n 0, 1) := by decide +kernel
theorem dX8_needRoom_1 : decode cX8_needRoom 1 = .ok (.iload_n 1, 1) := by decide +kernel
theorem dX8_needRoom_2 : decode cX8_needRoom 2 = .ok (.if_icmp .lt 14, 3) := by decide +kernel
theorem dX8_needRoom_5 : decode cX8_needRoom 5 = .ok (.new 134, 3) := by decide +kernel
theorem dX8_needRoom_8 : decode cX8_needRoom 8 = .ok (.dup, 1) := by decide +kernel
theorem dX8_needRoom_9 : decode cX8_needRoom 9 = .ok (.ldc_w 309, 3) := by decide +kernel
theorem dX8_needRoom_12 : decode cX8_needRoom 12 = .ok (.invokespecial 138, 3) := by decide +kernel
theorem dX8_needRoom_15 : decode cX8_needRoom 15 = .ok (.athrow, 1) := by decide +kernel
theorem dX8_needRoom_16 : decode cX8_needRoom 16 = .ok (.return_, 1) := by decide +kernel
theorem dX8_powerIn_0 : decode cX8_powerIn 0 = .ok (.aload_n 0, 1) := by decide +kernel
theorem dX8_powerIn_1 : decode cX8_powerIn 1 = .ok (.getfield 154, 3) := by decide +kernel
theorem dX8_powerIn_4 : decode cX8_powerIn 4 = .ok (.getfield 239, 3) := by decide +kernel
theorem dX8_powerIn_7 : decode cX8_powerIn 7 = .ok (.istore_n 2, 1) := by decide +kernel
theorem dX8_powerIn_8 : decode cX8_powerIn 8 = .ok (.iconst 0, 1) := by decide +kernel
theorem dX8_powerIn_9 : decode cX8_powerIn 9 = .ok (.istore_n 3, 1) := by decide +kernel
theorem dX8_powerIn_10 : decode cX8_powerIn 10 = .ok (.iload_n 3, 1) := by decide +kernel
theorem dX8_powerIn_11 : decode cX8_powerIn 11 = .ok (.iload_n 1, 1) := by decide +kernel
theorem dX8_powerIn_12 : decode cX8_powerIn 12 = .ok (.if_icmp .ge 13, 3) := by decide +kernel
theorem dX8_powerIn_15 : decode cX8_powerIn 15 = .ok (.aload_n 0, 1) := by decide +kernel
theorem dX8_powerIn_16 : decode cX8_powerIn 16 = .ok (.invokevirtual 251, 3) := by decide +kernel
theorem dX8_powerIn_19 : decode cX8_powerIn 19 = .ok (.iinc 3 1, 3) := by decide +kernel
theorem dX8_powerIn_22 : decode cX8_powerIn 22 = .ok (.goto (-12), 3) := by decide +kernel
theorem dX8_powerIn_25 : decode cX8_powerIn 25 = .ok (.aload_n 0, 1) := by decide +kernel
theorem dX8_powerIn_26 : decode cX8_powerIn 26 = .ok (.getfield 154, 3) := by decide +kernel
theorem dX8_powerIn_29 : decode cX8_powerIn 29 = .ok (.getfield 239, 3) := by decide +kernel
theorem dX8_powerIn_32 : decode cX8_powerIn 32 = .ok (.iload_n 2, 1) := by decide +kernel
theorem dX8_powerIn_33 : decode cX8_powerIn 33 = .ok (.isub, 1) := by decide +kernel
theorem dX8_powerIn_34 : decode cX8_powerIn 34 = .ok (.ireturn, 1) := by decide +kernel
