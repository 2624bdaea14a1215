theorem dX9_init_0 : decode cX9_init 0 = .ok (.aload_n 0, 1) := by decide +kernel
theorem dX9_init_1 : decode cX9_init 1 = .ok (.invokespecial 3, 3) := by decide +kernel
theorem dX9_init_4 : decode cX9_init 4 = .ok (.aload_n 0, 1) := by decide +kernel
theorem dX9_init_5 : decode cX9_init 5 = .ok (.bipush 8, 2) := by decide +kernel
theorem dX9_init_7 : decode cX9_init 7 = .ok (.bipush 6, 2) := by decide +kernel
theorem dX9_init_9 : decode cX9_init 9 = .ok (.multianewarray 9 2, 4) := by decide +kernel
theorem dX9_init_13 : decode cX9_init 13 = .ok (.putfield 11, 3) := by decide +kernel
theorem dX9_init_16 : decode cX9_init 16 = .ok (.aload_n 0, 1) := by decide +kernel
theorem dX9_init_17 : decode cX9_init 17 = .ok (.bipush 12, 2) := by decide +kernel
theorem dX9_init_19 : decode cX9_init 19 = .ok (.iconst 4, 1) := by decide +kernel
theorem dX9_init_20 : decode cX9_init 20 = .ok (.multianewarray 9 2, 4) := by decide +kernel
theorem dX9_init_24 : decode cX9_init 24 = .ok (.putfield 16, 3) := by decide +kernel
theorem dX9_init_27 : decode cX9_init 27 = .ok (.aload_n 0, 1) := by decide +kernel
theorem dX9_init_28 : decode cX9_init 28 = .ok (.bipush 6, 2) := by decide +kernel
theorem dX9_init_30 : decode cX9_init 30 = .ok (.bipush 9, 2) := by decide +kernel
theorem dX9_init_32 : decode cX9_init 32 = .ok (.multianewarray 9 2, 4) := by decide +kernel
theorem dX9_init_36 : decode cX9_init 36 = .ok (.putfield 19, 3) := by decide +kernel
theorem dX9_init_39 : decode cX9_init 39 = .ok (.aload_n 0, 1) := by decide +kernel
theorem dX9_init_40 : decode cX9_init 40 = .ok (.iconst 3, 1) := by decide +kernel
theorem dX9_init_41 : decode cX9_init 41 = .ok (.bipush 7, 2) := by decide +kernel
theorem dX9_init_43 : decode cX9_init 43 = .ok (.multianewarray 9 2, 4) := by decide +kernel
theorem dX9_init_47 : decode cX9_init 47 = .ok (.putfield 22, 3) := by decide +kernel
theorem dX9_init_50 : decode cX9_init 50 = .ok (.aload_n 0, 1) := by decide +kernel
theorem dX9_init_51 : decode cX9_init 51 = .ok (.bipush 6, 2) := by decide +kernel
theorem dX9_init_53 : decode cX9_init 53 = .ok (.newarray .int, 2) := by decide +kernel
theorem dX9_init_55 : decode cX9_init 55 = .ok (.putfield 25, 3) := by decide +kernel
theorem dX9_init_58 : decode cX9_init 58 = .ok (.aload_n 0, 1) := by decide +kernel
theorem dX9_init_59 : decode cX9_init 59 = .ok (.iconst 4, 1) := by decide +kernel
theorem dX9_init_60 : decode cX9_init 60 = .ok (.newarray .int, 2) := by decide +kernel
theorem dX9_init_62 : decode cX9_init 62 = .ok (.putfield 29, 3) := by decide +kernel
theorem dX9_init_65 : decode cX9_init 65 = .ok (.aload_n 0, 1) := by decide +kernel
theorem dX9_init_66 : decode cX9_init 66 = .ok (.iconst 4, 1) := by decide +kernel
theorem dX9_init_67 : decode cX9_init 67 = .ok (.newarray .int, 2) := by decide +kernel
theorem dX9_init_69 : decode cX9_init 69 = .ok (.putfield 32, 3) := by decide +kernel
theorem dX9_init_72 : decode cX9_init 72 = .ok (.aload_n 0, 1) := by decide +kernel
theorem dX9_init_73 : decode cX9_init 73 = .ok (.iconst 4, 1) := by decide +kernel
theorem dX9_init_74 : decode cX9_init 74 = .ok (.newarray .int, 2) := by decide +kernel
theorem dX9_init_76 : decode cX9_init 76 = .ok (.putfield 35, 3) := by decide +kernel
theorem dX9_init_79 : decode cX9_init 79 = .ok (.aload_n 0, 1) := by decide +kernel
theorem dX9_init_80 : decode cX9_init 80 = .ok (.iconst 2, 1) := by decide +kernel
theorem dX9_init_81 : decode cX9_init 81 = .ok (.newarray .int, 2) := by decide +kernel
theorem dX9_init_83 : decode cX9_init 83 = .ok (.dup, 1) := by decide +kernel
theorem dX9_init_84 : decode cX9_init 84 = .ok (.iconst 0, 1) := by decide +kernel
theorem dX9_init_85 : decode cX9_init 85 = .ok (.bipush 100, 2) := by decide +kernel
theorem dX9_init_87 : decode cX9_init 87 = .ok (.iastore, 1) := by decide +kernel
theorem dX9_init_88 : decode cX9_init 88 = .ok (.dup, 1) := by decide +kernel
theorem dX9_init_89 : decode cX9_init 89 = .ok (.iconst 1, 1) := by decide +kernel
theorem dX9_init_90 : decode cX9_init 90 = .ok (.bipush 100, 2) := by decide +kernel
theorem dX9_init_92 : decode cX9_init 92 = .ok (.iastore, 1) := by decide +kernel
theorem dX9_init_93 : decode cX9_init 93 = .ok (.putfield 38, 3) := by decide +kernel
theorem dX9_init_96 : decode cX9_init 96 = .ok (.aload_n 0, 1) := by decide +kernel
theorem dX9_init_97 : decode cX9_init 97 = .ok (.iconst 4, 1) := by decide +kernel
theorem dX9_init_98 : decode cX9_init 98 = .ok (.newarray .int, 2) := by decide +kernel
theorem dX9_init_100 : decode cX9_init 100 = .ok (.putfield 41, 3) := by decide +kernel
theorem dX9_init_103 : decode cX9_init 103 = .ok (.aload_n 0, 1) := by decide +kernel
theorem dX9_init_104 : decode cX9_init 104 = .ok (.bipush 20, 2) := by decide +kernel
theorem dX9_init_106 : decode cX9_init 106 = .ok (.putfield 44, 3) := by decide +kernel
theorem dX9_init_109 : decode cX9_init 109 = .ok (.aload_n 0, 1) := by decide +kernel
theorem dX9_init_110 : decode cX9_init 110 = .ok (.iconst 1, 1) := by decide +kernel
theorem dX9_init_111 : decode cX9_init 111 = .ok (.putfield 48, 3) := by decide +kernel
theorem dX9_init_114 : decode cX9_init 114 = .ok (.aload_n 0, 1) := by decide +kernel
theorem dX9_init_115 : decode cX9_init 115 = .ok (.bipush 6, 2) := by decide +kernel
theorem dX9_init_117 : decode cX9_init 117 = .ok (.newarray .int, 2) := by decide +kernel
theorem dX9_init_119 : decode cX9_init 119 = .ok (.putfield 52, 3) := by decide +kernel
theorem dX9_init_122 : decode cX9_init 122 = .ok (.return_, 1) := by decide +kernel
theorem dX9_copy_0 : decode cX9_copy 0 = .ok (.new 12, 3) := by decide +kernel
theorem dX9_copy_3 : decode cX9_copy 3 = .ok (.dup, 1) := by decide +kernel
theorem dX9_copy_4 : decode cX9_copy 4 = .ok (.invokespecial 55, 3) := by decide +kernel
theorem dX9_copy_7 : decode cX9_copy 7 = .ok (.astore_n 1, 1) := by decide +kernel
theorem dX9_copy_8 : decode cX9_copy 8 = .ok (.aload_n 0, 1) := by decide +kernel
theorem dX9_copy_9 : decode cX9_copy 9 = .ok (.getfield 11, 3) := by decide +kernel
theorem dX9_copy_12 : decode cX9_copy 12 = .ok (.aload_n 1, 1) := by decide +kernel
theorem dX9_copy_13 : decode cX9_copy 13 = .ok (.getfield 11, 3) := by decide +kernel
theorem dX9_copy_16 : decode cX9_copy 16 = .ok (.invokestatic 56, 3) := by decide +kernel
theorem dX9_copy_19 : decode cX9_copy 19 = .ok (.aload_n 0, 1) := by decide +kernel
theorem dX9_copy_20 : decode cX9_copy 20 = .ok (.getfield 16, 3) := by decide +kernel
theorem dX9_copy_23 : decode cX9_copy 23 = .ok (.aload_n 1, 1) := by decide +kernel
theorem dX9_copy_24 : decode cX9_copy 24 = .ok (.getfield 16, 3) := by decide +kernel
theorem dX9_copy_27 : decode cX9_copy 27 = .ok (.invokestatic 56, 3) := by decide +kernel
theorem dX9_copy_30 : decode cX9_copy 30 = .ok (.aload_n 0, 1) := by decide +kernel
theorem dX9_copy_31 : decode cX9_copy 31 = .ok (.getfield 19, 3) := by decide +kernel
theorem dX9_copy_34 : decode cX9_copy 34 = .ok (.aload_n 1, 1) := by decide +kernel
theorem dX9_copy_35 : decode cX9_copy 35 = .ok (.getfield 19, 3) := by decide +kernel
theorem dX9_copy_38 : decode cX9_copy 38 = .ok (.invokestatic 56, 3) := by decide +kernel
theorem dX9_copy_41 : decode cX9_copy 41 = .ok (.aload_n 0, 1) := by decide +kernel
theorem dX9_copy_42 : decode cX9_copy 42 = .ok (.getfield 22, 3) := by decide +kernel
theorem dX9_copy_45 : decode cX9_copy 45 = .ok (.aload_n 1, 1) := by decide +kernel
theorem dX9_copy_46 : decode cX9_copy 46 = .ok (.getfield 22, 3) := by decide +kernel
theorem dX9_copy_49 : decode cX9_copy 49 = .ok (.invokestatic 56, 3) := by decide +kernel
theorem dX9_copy_52 : decode cX9_copy 52 = .ok (.aload_n 1, 1) := by decide +kernel
theorem dX9_copy_53 : decode cX9_copy 53 = .ok (.aload_n 0, 1) := by decide +kernel
theorem dX9_copy_54 : decode cX9_copy 54 = .ok (.getfield 60, 3) := by decide +kernel
theorem dX9_copy_57 : decode cX9_copy 57 = .ok (.putfield 60, 3) := by decide +kernel
theorem dX9_copy_60 : decode cX9_copy 60 = .ok (.aload_n 1, 1) := by decide +kernel
theorem dX9_copy_61 : decode cX9_copy 61 = .ok (.aload_n 0, 1) := by decide +kernel
theorem dX9_copy_62 : decode cX9_copy 62 = .ok (.getfield 63, 3) := by decide +kernel
theorem dX9_copy_65 : decode cX9_copy 65 = .ok (.putfield 63, 3) := by decide +kernel
theorem dX9_copy_68 : decode cX9_copy 68 = .ok (.aload_n 1, 1) := by decide +kernel
theorem dX9_copy_69 : decode cX9_copy 69 = .ok (.aload_n 0, 1) := by decide +kernel
theorem dX9_copy_70 : decode cX9_copy 70 = .ok (.getfield 66, 3) := by decide +kernel
theorem dX9_copy_73 : decode cX9_copy 73 = .ok (.putfield 66, 3) := by decide +kernel
theorem dX9_copy_76 : decode cX9_copy 76 = .ok (.aload_n 1, 1) := by decide +kernel
theorem dX9_copy_77 : decode cX9_copy 77 = .ok (.aload_n 0, 1) := by decide +kernel
theorem dX9_copy_78 : decode cX9_copy 78 = .ok (.getfield 69, 3) := by decide +kernel
theorem dX9_copy_81 : decode cX9_copy 81 = .ok (.putfield 69, 3) := by decide +kernel
theorem dX9_copy_84 : decode cX9_copy 84 = .ok (.aload_n 0, 1) := by decide +kernel
theorem dX9_copy_85 : decode cX9_copy 85 = .ok (.getfield 25, 3) := by decide +kernel
theorem dX9_copy_88 : decode cX9_copy 88 = .ok (.iconst 0, 1) := by decide +kernel
theorem dX9_copy_89 : decode cX9_copy 89 = .ok (.aload_n 1, 1) := by decide +kernel
theorem dX9_copy_90 : decode cX9_copy 90 = .ok (.getfield 25, 3) := by decide +kernel
theorem dX9_copy_93 : decode cX9_copy 93 = .ok (.iconst 0, 1) := by decide +kernel
theorem dX9_copy_94 : decode cX9_copy 94 = .ok (.bipush 6, 2) := by decide +kernel
theorem dX9_copy_96 : decode cX9_copy 96 = .ok (.invokestatic 72, 3) := by decide +kernel
theorem dX9_copy_99 : decode cX9_copy 99 = .ok (.aload_n 0, 1) := by decide +kernel
theorem dX9_copy_100 : decode cX9_copy 100 = .ok (.getfield 41, 3) := by decide +kernel
theorem dX9_copy_103 : decode cX9_copy 103 = .ok (.iconst 0, 1) := by decide +kernel
theorem dX9_copy_104 : decode cX9_copy 104 = .ok (.aload_n 1, 1) := by decide +kernel
theorem dX9_copy_105 : decode cX9_copy 105 = .ok (.getfield 41, 3) := by decide +kernel
theorem dX9_copy_108 : decode cX9_copy 108 = .ok (.iconst 0, 1) := by decide +kernel
theorem dX9_copy_109 : decode cX9_copy 109 = .ok (.iconst 4, 1) := by decide +kernel
theorem dX9_copy_110 : decode cX9_copy 110 = .ok (.invokestatic 72, 3) := by decide +kernel
theorem dX9_copy_113 : decode cX9_copy 113 = .ok (.aload_n 0, 1) := by decide +kernel
theorem dX9_copy_114 : decode cX9_copy 114 = .ok (.getfield 38, 3) := by decide +kernel
theorem dX9_copy_117 : decode cX9_copy 117 = .ok (.iconst 0, 1) := by decide +kernel
theorem dX9_copy_118 : decode cX9_copy 118 = .ok (.aload_n 1, 1) := by decide +kernel
theorem dX9_copy_119 : decode cX9_copy 119 = .ok (.getfield 38, 3) := by decide +kernel
theorem dX9_copy_122 : decode cX9_copy 122 = .ok (.iconst 0, 1) := by decide +kernel
theorem dX9_copy_123 : decode cX9_copy 123 = .ok (.iconst 2, 1) := by decide +kernel
theorem dX9_copy_124 : decode cX9_copy 124 = .ok (.invokestatic 72, 3) := by decide +kernel
theorem dX9_copy_127 : decode cX9_copy 127 = .ok (.aload_n 1, 1) := by decide +kernel
theorem dX9_copy_128 : decode cX9_copy 128 = .ok (.aload_n 0, 1) := by decide +kernel
theorem dX9_copy_129 : decode cX9_copy 129 = .ok (.getfield 44, 3) := by decide +kernel
theorem dX9_copy_132 : decode cX9_copy 132 = .ok (.putfield 44, 3) := by decide +kernel
theorem dX9_copy_135 : decode cX9_copy 135 = .ok (.aload_n 1, 1) := by decide +kernel
theorem dX9_copy_136 : decode cX9_copy 136 = .ok (.aload_n 0, 1) := by decide +kernel
theorem dX9_copy_137 : decode cX9_copy 137 = .ok (.getfield 78, 3) := by decide +kernel
theorem dX9_copy_140 : decode cX9_copy 140 = .ok (.putfield 78, 3) := by decide +kernel
theorem dX9_copy_143 : decode cX9_copy 143 = .ok (.aload_n 1, 1) := by decide +kernel
theorem dX9_copy_144 : decode cX9_copy 144 = .ok (.aload_n 0, 1) := by decide +kernel
theorem dX9_copy_145 : decode cX9_copy 145 = .ok (.getfield 48, 3) := by decide +kernel
theorem dX9_copy_148 : decode cX9_copy 148 = .ok (.putfield 48, 3) := by decide +kernel
theorem dX9_copy_151 : decode cX9_copy 151 = .ok (.aload_n 1, 1) := by decide +kernel
theorem dX9_copy_152 : decode cX9_copy 152 = .ok (.aload_n 0, 1) := by decide +kernel
theorem dX9_copy_153 : decode cX9_copy 153 = .ok (.getfield 81, 3) := by decide +kernel
theorem dX9_copy_156 : decode cX9_copy 156 = .ok (.putfield 81, 3) := by decide +kernel
theorem dX9_copy_159 : decode cX9_copy 159 = .ok (.aload_n 1, 1) := by decide +kernel
theorem dX9_copy_160 : decode cX9_copy 160 = .ok (.areturn, 1) := by decide +kernel
theorem dX9_copy__0 : decode cX9_copy_ 0 = .ok (.iconst 0, 1) := by decide +kernel
theorem dX9_copy__1 : decode cX9_copy_ 1 = .ok (.istore_n 2, 1) := by decide +kernel
theorem dX9_copy__2 : decode cX9_copy_ 2 = .ok (.iload_n 2, 1) := by decide +kernel
theorem dX9_copy__3 : decode cX9_copy_ 3 = .ok (.aload_n 0, 1) := by decide +kernel
theorem dX9_copy__4 : decode cX9_copy_ 4 = .ok (.arraylength, 1) := by decide +kernel
theorem dX9_copy__5 : decode cX9_copy_ 5 = .ok (.if_icmp .ge 24, 3) := by decide +kernel
theorem dX9_copy__8 : decode cX9_copy_ 8 = .ok (.aload_n 0, 1) := by decide +kernel
theorem dX9_copy__9 : decode cX9_copy_ 9 = .ok (.iload_n 2, 1) := by decide +kernel
theorem dX9_copy__10 : decode cX9_copy_ 10 = .ok (.aaload, 1) := by decide +kernel
theorem dX9_copy__11 : decode cX9_copy_ 11 = .ok (.iconst 0, 1) := by decide +kernel
theorem dX9_copy__12 : decode cX9_copy_ 12 = .ok (.aload_n 1, 1) := by decide +kernel
theorem dX9_copy__13 : decode cX9_copy_ 13 = .ok (.iload_n 2, 1) := by decide +kernel
theorem dX9_copy__14 : decode cX9_copy_ 14 = .ok (.aaload, 1) := by decide +kernel
theorem dX9_copy__15 : decode cX9_copy_ 15 = .ok (.iconst 0, 1) := by decide +kernel
theorem dX9_copy__16 : decode cX9_copy_ 16 = .ok (.aload_n 0, 1) := by decide +kernel
theorem dX9_copy__17 : decode cX9_copy_ 17 = .ok (.iload_n 2, 1) := by decide +kernel
theorem dX9_copy__18 : decode cX9_copy_ 18 = .ok (.aaload, 1) := by decide +kernel
theorem dX9_copy__19 : decode cX9_copy_ 19 = .ok (.arraylength, 1) := by decide +kernel
theorem dX9_copy__20 : decode cX9_copy_ 20 = .ok (.invokestatic 72, 3) := by decide +kernel
theorem dX9_copy__23 : decode cX9_copy_ 23 = .ok (.iinc 2 1, 3) := by decide +kernel
theorem dX9_copy__26 : decode cX9_copy_ 26 = .ok (.goto (-24), 3) := by decide +kernel
theorem dX9_copy__29 : decode cX9_copy_ 29 = .ok (.return_, 1) := by decide +kernel
theorem dX9_pressure_0 : decode cX9_pressure 0 = .ok (.bipush 10, 2) := by decide +kernel
theorem dX9_pressure_2 : decode cX9_pressure 2 = .ok (.aload_n 0, 1) := by decide +kernel
theorem dX9_pressure_3 : decode cX9_pressure 3 = .ok (.iconst 0, 1) := by decide +kernel
theorem dX9_pressure_4 : decode cX9_pressure 4 = .ok (.iaload, 1) := by decide +kernel
theorem dX9_pressure_5 : decode cX9_pressure 5 = .ok (.imul, 1) := by decide +kernel
theorem dX9_pressure_6 : decode cX9_pressure 6 = .ok (.aload_n 0, 1) := by decide +kernel
theorem dX9_pressure_7 : decode cX9_pressure 7 = .ok (.iconst 4, 1) := by decide +kernel
theorem dX9_pressure_8 : decode cX9_pressure 8 = .ok (.iaload, 1) := by decide +kernel
theorem dX9_pressure_9 : decode cX9_pressure 9 = .ok (.idiv, 1) := by decide +kernel
theorem dX9_pressure_10 : decode cX9_pressure 10 = .ok (.ireturn, 1) := by decide +kernel
theorem dX9_warmth_0 : decode cX9_warmth 0 = .ok (.aload_n 0, 1) := by decide +kernel
theorem dX9_warmth_1 : decode cX9_warmth 1 = .ok (.iconst 1, 1) := by decide +kernel
theorem dX9_warmth_2 : decode cX9_warmth 2 = .ok (.iaload, 1) := by decide +kernel
theorem dX9_warmth_3 : decode cX9_warmth 3 = .ok (.aload_n 0, 1) := by decide +kernel
theorem dX9_warmth_4 : decode cX9_warmth 4 = .ok (.iconst 4, 1) := by decide +kernel
theorem dX9_warmth_5 : decode cX9_warmth 5 = .ok (.iaload, 1) := by decide +kernel
theorem dX9_warmth_6 : decode cX9_warmth 6 = .ok (.aload_n 0, 1) := by decide +kernel
theorem dX9_warmth_7 : decode cX9_warmth 7 = .ok (.iconst 0, 1) := by decide +kernel
theorem dX9_warmth_8 : decode cX9_warmth 8 = .ok (.iaload, 1) := by decide +kernel
theorem dX9_warmth_9 : decode cX9_warmth 9 = .ok (.iadd, 1) := by decide +kernel
theorem dX9_warmth_10 : decode cX9_warmth 10 = .ok (.idiv, 1) := by decide +kernel
theorem dX9_warmth_11 : decode cX9_warmth 11 = .ok (.ireturn, 1) := by decide +kernel
theorem dX9_take_0 : decode cX9_take 0 = .ok (.iload_n 2, 1) := by decide +kernel
theorem dX9_take_1 : decode cX9_take 1 = .ok (.aload_n 1, 1) := by decide +kernel
theorem dX9_take_2 : decode cX9_take 2 = .ok (.iconst 0, 1) := by decide +kernel
theorem dX9_take_3 : decode cX9_take 3 = .ok (.iaload, 1) := by decide +kernel
theorem dX9_take_4 : decode cX9_take 4 = .ok (.iconst 4, 1) := by decide +kernel
theorem dX9_take_5 : decode cX9_take 5 = .ok (.idiv, 1) := by decide +kernel
theorem dX9_take_6 : decode cX9_take 6 = .ok (.invokestatic 84, 3) := by decide +kernel
theorem dX9_take_9 : decode cX9_take 9 = .ok (.istore_n 3, 1) := by decide +kernel
theorem dX9_take_10 : decode cX9_take 10 = .ok (.aload_n 0, 1) := by decide +kernel
theorem dX9_take_11 : decode cX9_take 11 = .ok (.getfield 52, 3) := by decide +kernel
theorem dX9_take_14 : decode cX9_take 14 = .ok (.iconst 0, 1) := by decide +kernel
theorem dX9_take_15 : decode cX9_take 15 = .ok (.iload_n 3, 1) := by decide +kernel
theorem dX9_take_16 : decode cX9_take 16 = .ok (.iastore, 1) := by decide +kernel
theorem dX9_take_17 : decode cX9_take 17 = .ok (.aload_n 0, 1) := by decide +kernel
theorem dX9_take_18 : decode cX9_take 18 = .ok (.getfield 52, 3) := by decide +kernel
theorem dX9_take_21 : decode cX9_take 21 = .ok (.iconst 1, 1) := by decide +kernel
theorem dX9_take_22 : decode cX9_take 22 = .ok (.iload_n 3, 1) := by decide +kernel
theorem dX9_take_23 : decode cX9_take 23 = .ok (.aload_n 1, 1) := by decide +kernel
theorem dX9_take_24 : decode cX9_take 24 = .ok (.invokestatic 90, 3) := by decide +kernel
theorem dX9_take_27 : decode cX9_take 27 = .ok (.imul, 1) := by decide +kernel
theorem dX9_take_28 : decode cX9_take 28 = .ok (.iastore, 1) := by decide +kernel
theorem dX9_take_29 : decode cX9_take 29 = .ok (.aload_n 0, 1) := by decide +kernel
theorem dX9_take_30 : decode cX9_take 30 = .ok (.getfield 52, 3) := by decide +kernel
theorem dX9_take_33 : decode cX9_take 33 = .ok (.iconst 2, 1) := by decide +kernel
theorem dX9_take_34 : decode cX9_take 34 = .ok (.iload_n 3, 1) := by decide +kernel
theorem dX9_take_35 : decode cX9_take 35 = .ok (.ifCond .ne 7, 3) := by decide +kernel
theorem dX9_take_38 : decode cX9_take 38 = .ok (.iconst 0, 1) := by decide +kernel
theorem dX9_take_39 : decode cX9_take 39 = .ok (.goto 16, 3) := by decide +kernel
theorem dX9_take_42 : decode cX9_take 42 = .ok (.iload_n 3, 1) := by decide +kernel
theorem dX9_take_43 : decode cX9_take 43 = .ok (.i2l, 1) := by decide +kernel
theorem dX9_take_44 : decode cX9_take 44 = .ok (.aload_n 1, 1) := by decide +kernel
theorem dX9_take_45 : decode cX9_take 45 = .ok (.iconst 2, 1) := by decide +kernel
theorem dX9_take_46 : decode cX9_take 46 = .ok (.iaload, 1) := by decide +kernel
theorem dX9_take_47 : decode cX9_take 47 = .ok (.i2l, 1) := by decide +kernel
theorem dX9_take_48 : decode cX9_take 48 = .ok (.lmul, 1) := by decide +kernel
theorem dX9_take_49 : decode cX9_take 49 = .ok (.aload_n 1, 1) := by decide +kernel
theorem dX9_take_50 : decode cX9_take 50 = .ok (.iconst 0, 1) := by decide +kernel
theorem dX9_take_51 : decode cX9_take 51 = .ok (.iaload, 1) := by decide +kernel
theorem dX9_take_52 : decode cX9_take 52 = .ok (.i2l, 1) := by decide +kernel
theorem dX9_take_53 : decode cX9_take 53 = .ok (.ldiv, 1) := by decide +kernel
theorem dX9_take_54 : decode cX9_take 54 = .ok (.l2i, 1) := by decide +kernel
theorem dX9_take_55 : decode cX9_take 55 = .ok (.iastore, 1) := by decide +kernel
theorem dX9_take_56 : decode cX9_take 56 = .ok (.aload_n 0, 1) := by decide +kernel
theorem dX9_take_57 : decode cX9_take 57 = .ok (.getfield 52, 3) := by decide +kernel
theorem dX9_take_60 : decode cX9_take 60 = .ok (.iconst 3, 1) := by decide +kernel
theorem dX9_take_61 : decode cX9_take 61 = .ok (.iload_n 3, 1) := by decide +kernel
theorem dX9_take_62 : decode cX9_take 62 = .ok (.ifCond .ne 7, 3) := by decide +kernel
theorem dX9_take_65 : decode cX9_take 65 = .ok (.iconst 0, 1) := by decide +kernel
theorem dX9_take_66 : decode cX9_take 66 = .ok (.goto 16, 3) := by decide +kernel
theorem dX9_take_69 : decode cX9_take 69 = .ok (.iload_n 3, 1) := by decide +kernel
theorem dX9_take_70 : decode cX9_take 70 = .ok (.i2l, 1) := by decide +kernel
theorem dX9_take_71 : decode cX9_take 71 = .ok (.aload_n 1, 1) := by decide +kernel
theorem dX9_take_72 : decode cX9_take 72 = .ok (.iconst 3, 1) := by decide +kernel
theorem dX9_take_73 : decode cX9_take 73 = .ok (.iaload, 1) := by decide +kernel
theorem dX9_take_74 : decode cX9_take 74 = .ok (.i2l, 1) := by decide +kernel
theorem dX9_take_75 : decode cX9_take 75 = .ok (.lmul, 1) := by decide +kernel
theorem dX9_take_76 : decode cX9_take 76 = .ok (.aload_n 1, 1) := by decide +kernel
theorem dX9_take_77 : decode cX9_take 77 = .ok (.iconst 0, 1) := by decide +kernel
theorem dX9_take_78 : decode cX9_take 78 = .ok (.iaload, 1) := by decide +kernel
theorem dX9_take_79 : decode cX9_take 79 = .ok (.i2l, 1) := by decide +kernel
theorem dX9_take_80 : decode cX9_take 80 = .ok (.ldiv, 1) := by decide +kernel
theorem dX9_take_81 : decode cX9_take 81 = .ok (.l2i, 1) := by decide +kernel
theorem dX9_take_82 : decode cX9_take 82 = .ok (.iastore, 1) := by decide +kernel
theorem dX9_take_83 : decode cX9_take 83 = .ok (.iconst 0, 1) := by decide +kernel
theorem dX9_take_84 : decode cX9_take 84 = .ok (.istore 4, 2) := by decide +kernel
theorem dX9_take_86 : decode cX9_take 86 = .ok (.iload 4, 2) := by decide +kernel
theorem dX9_take_88 : decode cX9_take 88 = .ok (.iconst 4, 1) := by decide +kernel
theorem dX9_take_89 : decode cX9_take 89 = .ok (.if_icmp .ge 23, 3) := by decide +kernel
theorem dX9_take_92 : decode cX9_take 92 = .ok (.aload_n 1, 1) := by decide +kernel
theorem dX9_take_93 : decode cX9_take 93 = .ok (.iload 4, 2) := by decide +kernel
theorem dX9_take_95 : decode cX9_take 95 = .ok (.dup2, 1) := by decide +kernel
theorem dX9_take_96 : decode cX9_take 96 = .ok (.iaload, 1) := by decide +kernel
theorem dX9_take_97 : decode cX9_take 97 = .ok (.aload_n 0, 1) := by decide +kernel
theorem dX9_take_98 : decode cX9_take 98 = .ok (.getfield 52, 3) := by decide +kernel
theorem dX9_take_101 : decode cX9_take 101 = .ok (.iload 4, 2) := by decide +kernel
theorem dX9_take_103 : decode cX9_take 103 = .ok (.iaload, 1) := by decide +kernel
theorem dX9_take_104 : decode cX9_take 104 = .ok (.isub, 1) := by decide +kernel
theorem dX9_take_105 : decode cX9_take 105 = .ok (.iastore, 1) := by decide +kernel
theorem dX9_take_106 : decode cX9_take 106 = .ok (.iinc 4 1, 3) := by decide +kernel
theorem dX9_take_109 : decode cX9_take 109 = .ok (.goto (-23), 3) := by decide +kernel
theorem dX9_take_112 : decode cX9_take 112 = .ok (.return_, 1) := by decide +kernel
theorem dX9_put_0 : decode cX9_put 0 = .ok (.iconst 0, 1) := by decide +kernel
theorem dX9_put_1 : decode cX9_put 1 = .ok (.istore_n 2, 1) := by decide +kernel
theorem dX9_put_2 : decode cX9_put 2 = .ok (.iload_n 2, 1) := by decide +kernel
theorem dX9_put_3 : decode cX9_put 3 = .ok (.iconst 4, 1) := by decide +kernel
theorem dX9_put_4 : decode cX9_put 4 = .ok (.if_icmp .ge 21, 3) := by decide +kernel
theorem dX9_put_7 : decode cX9_put 7 = .ok (.aload_n 1, 1) := by decide +kernel
theorem dX9_put_8 : decode cX9_put 8 = .ok (.iload_n 2, 1) := by decide +kernel
theorem dX9_put_9 : decode cX9_put 9 = .ok (.dup2, 1) := by decide +kernel
theorem dX9_put_10 : decode cX9_put 10 = .ok (.iaload, 1) := by decide +kernel
theorem dX9_put_11 : decode cX9_put 11 = .ok (.aload_n 0, 1) := by decide +kernel
theorem dX9_put_12 : decode cX9_put 12 = .ok (.getfield 52, 3) := by decide +kernel
theorem dX9_put_15 : decode cX9_put 15 = .ok (.iload_n 2, 1) := by decide +kernel
theorem dX9_put_16 : decode cX9_put 16 = .ok (.iaload, 1) := by decide +kernel
theorem dX9_put_17 : decode cX9_put 17 = .ok (.iadd, 1) := by decide +kernel
theorem dX9_put_18 : decode cX9_put 18 = .ok (.iastore, 1) := by decide +kernel
theorem dX9_put_19 : decode cX9_put 19 = .ok (.iinc 2 1, 3) := by decide +kernel
theorem dX9_put_22 : decode cX9_put 22 = .ok (.goto (-20), 3) := by decide +kernel
theorem dX9_put_25 : decode cX9_put 25 = .ok (.return_, 1) := by decide +kernel
theorem dX9_dip_0 : decode cX9_dip 0 = .ok (.aload_n 0, 1) := by decide +kernel
theorem dX9_dip_1 : decode cX9_dip 1 = .ok (.getfield 25, 3) := by decide +kernel
theorem dX9_dip_4 : decode cX9_dip 4 = .ok (.iconst 0, 1) := by decide +kernel
theorem dX9_dip_5 : decode cX9_dip 5 = .ok (.iaload, 1) := by decide +kernel
theorem dX9_dip_6 : decode cX9_dip 6 = .ok (.istore_n 2, 1) := by decide +kernel
theorem dX9_dip_7 : decode cX9_dip 7 = .ok (.iconst 0, 1) := by decide +kernel
theorem dX9_dip_8 : decode cX9_dip 8 = .ok (.istore_n 3, 1) := by decide +kernel
theorem dX9_dip_9 : decode cX9_dip 9 = .ok (.iload_n 3, 1) := by decide +kernel
theorem dX9_dip_10 : decode cX9_dip 10 = .ok (.iconst 4, 1) := by decide +kernel
theorem dX9_dip_11 : decode cX9_dip 11 = .ok (.if_icmp .ge 37, 3) := by decide +kernel
theorem dX9_dip_14 : decode cX9_dip 14 = .ok (.aload_n 0, 1) := by decide +kernel
theorem dX9_dip_15 : decode cX9_dip 15 = .ok (.getfield 52, 3) := by decide +kernel
theorem dX9_dip_18 : decode cX9_dip 18 = .ok (.iload_n 3, 1) := by decide +kernel
theorem dX9_dip_19 : decode cX9_dip 19 = .ok (.iload_n 1, 1) := by decide +kernel
theorem dX9_dip_20 : decode cX9_dip 20 = .ok (.ifCond .ne 7, 3) := by decide +kernel
theorem dX9_dip_23 : decode cX9_dip 23 = .ok (.iconst 0, 1) := by decide +kernel
theorem dX9_dip_24 : decode cX9_dip 24 = .ok (.goto 17, 3) := by decide +kernel
theorem dX9_dip_27 : decode cX9_dip 27 = .ok (.iload_n 1, 1) := by decide +kernel
theorem dX9_dip_28 : decode cX9_dip 28 = .ok (.i2l, 1) := by decide +kernel
theorem dX9_dip_29 : decode cX9_dip 29 = .ok (.aload_n 0, 1) := by decide +kernel
theorem dX9_dip_30 : decode cX9_dip 30 = .ok (.getfield 25, 3) := by decide +kernel
theorem dX9_dip_33 : decode cX9_dip 33 = .ok (.iload_n 3, 1) := by decide +kernel
theorem dX9_dip_34 : decode cX9_dip 34 = .ok (.iaload, 1) := by decide +kernel
theorem dX9_dip_35 : decode cX9_dip 35 = .ok (.i2l, 1) := by decide +kernel
theorem dX9_dip_36 : decode cX9_dip 36 = .ok (.lmul, 1) := by decide +kernel
theorem dX9_dip_37 : decode cX9_dip 37 = .ok (.iload_n 2, 1) := by decide +kernel
theorem dX9_dip_38 : decode cX9_dip 38 = .ok (.i2l, 1) := by decide +kernel
theorem dX9_dip_39 : decode cX9_dip 39 = .ok (.ldiv, 1) := by decide +kernel
theorem dX9_dip_40 : decode cX9_dip 40 = .ok (.l2i, 1) := by decide +kernel
theorem dX9_dip_41 : decode cX9_dip 41 = .ok (.iastore, 1) := by decide +kernel
theorem dX9_dip_42 : decode cX9_dip 42 = .ok (.iinc 3 1, 3) := by decide +kernel
theorem dX9_dip_45 : decode cX9_dip 45 = .ok (.goto (-36), 3) := by decide +kernel
theorem dX9_dip_48 : decode cX9_dip 48 = .ok (.iconst 0, 1) := by decide +kernel
theorem dX9_dip_49 : decode cX9_dip 49 = .ok (.istore_n 3, 1) := by decide +kernel
theorem dX9_dip_50 : decode cX9_dip 50 = .ok (.iload_n 3, 1) := by decide +kernel
theorem dX9_dip_51 : decode cX9_dip 51 = .ok (.iconst 4, 1) := by decide +kernel
theorem dX9_dip_52 : decode cX9_dip 52 = .ok (.if_icmp .ge 24, 3) := by decide +kernel
theorem dX9_dip_55 : decode cX9_dip 55 = .ok (.aload_n 0, 1) := by decide +kernel
theorem dX9_dip_56 : decode cX9_dip 56 = .ok (.getfield 25, 3) := by decide +kernel
theorem dX9_dip_59 : decode cX9_dip 59 = .ok (.iload_n 3, 1) := by decide +kernel
theorem dX9_dip_60 : decode cX9_dip 60 = .ok (.dup2, 1) := by decide +kernel
theorem dX9_dip_61 : decode cX9_dip 61 = .ok (.iaload, 1) := by decide +kernel
theorem dX9_dip_62 : decode cX9_dip 62 = .ok (.aload_n 0, 1) := by decide +kernel
theorem dX9_dip_63 : decode cX9_dip 63 = .ok (.getfield 52, 3) := by decide +kernel
theorem dX9_dip_66 : decode cX9_dip 66 = .ok (.iload_n 3, 1) := by decide +kernel
theorem dX9_dip_67 : decode cX9_dip 67 = .ok (.iaload, 1) := by decide +kernel
theorem dX9_dip_68 : decode cX9_dip 68 = .ok (.isub, 1) := by decide +kernel
theorem dX9_dip_69 : decode cX9_dip 69 = .ok (.iastore, 1) := by decide +kernel
theorem dX9_dip_70 : decode cX9_dip 70 = .ok (.iinc 3 1, 3) := by decide +kernel
theorem dX9_dip_73 : decode cX9_dip 73 = .ok (.goto (-23), 3) := by decide +kernel
theorem dX9_dip_76 : decode cX9_dip 76 = .ok (.return_, 1) := by decide +kernel
theorem dX9_light_0 : decode cX9_light 0 = .ok (.aload_n 0, 1) := by decide +kernel
theorem dX9_light_1 : decode cX9_light 1 = .ok (.getfield 41, 3) := by decide +kernel
theorem dX9_light_4 : decode cX9_light 4 = .ok (.iconst 0, 1) := by decide +kernel
theorem dX9_light_5 : decode cX9_light 5 = .ok (.iaload, 1) := by decide +kernel
theorem dX9_light_6 : decode cX9_light 6 = .ok (.aload_n 0, 1) := by decide +kernel
theorem dX9_light_7 : decode cX9_light 7 = .ok (.getfield 41, 3) := by decide +kernel
theorem dX9_light_10 : decode cX9_light 10 = .ok (.iconst 1, 1) := by decide +kernel
theorem dX9_light_11 : decode cX9_light 11 = .ok (.iaload, 1) := by decide +kernel
theorem dX9_light_12 : decode cX9_light 12 = .ok (.iadd, 1) := by decide +kernel
theorem dX9_light_13 : decode cX9_light 13 = .ok (.aload_n 0, 1) := by decide +kernel
theorem dX9_light_14 : decode cX9_light 14 = .ok (.getfield 41, 3) := by decide +kernel
theorem dX9_light_17 : decode cX9_light 17 = .ok (.iconst 2, 1) := by decide +kernel
theorem dX9_light_18 : decode cX9_light 18 = .ok (.iaload, 1) := by decide +kernel
theorem dX9_light_19 : decode cX9_light 19 = .ok (.iadd, 1) := by decide +kernel
theorem dX9_light_20 : decode cX9_light 20 = .ok (.aload_n 0, 1) := by decide +kernel
theorem dX9_light_21 : decode cX9_light 21 = .ok (.getfield 41, 3) := by decide +kernel
theorem dX9_light_24 : decode cX9_light 24 = .ok (.iconst 3, 1) := by decide +kernel
theorem dX9_light_25 : decode cX9_light 25 = .ok (.iaload, 1) := by decide +kernel
theorem dX9_light_26 : decode cX9_light 26 = .ok (.iadd, 1) := by decide +kernel
theorem dX9_light_27 : decode cX9_light 27 = .ok (.istore_n 1, 1) := by decide +kernel
theorem dX9_light_28 : decode cX9_light 28 = .ok (.iload_n 1, 1) := by decide +kernel
theorem dX9_light_29 : decode cX9_light 29 = .ok (.bipush 10, 2) := by decide +kernel
theorem dX9_light_31 : decode cX9_light 31 = .ok (.if_icmp .ge 7, 3) := by decide +kernel
theorem dX9_light_34 : decode cX9_light 34 = .ok (.iconst 0, 1) := by decide +kernel
theorem dX9_light_35 : decode cX9_light 35 = .ok (.goto 14, 3) := by decide +kernel
theorem dX9_light_38 : decode cX9_light 38 = .ok (.iload_n 1, 1) := by decide +kernel
theorem dX9_light_39 : decode cX9_light 39 = .ok (.bipush 25, 2) := by decide +kernel
theorem dX9_light_41 : decode cX9_light 41 = .ok (.if_icmp .ge 7, 3) := by decide +kernel
theorem dX9_light_44 : decode cX9_light 44 = .ok (.iconst 1, 1) := by decide +kernel
theorem dX9_light_45 : decode cX9_light 45 = .ok (.goto 4, 3) := by decide +kernel
theorem dX9_light_48 : decode cX9_light 48 = .ok (.iconst 2, 1) := by decide +kernel
theorem dX9_light_49 : decode cX9_light 49 = .ok (.ireturn, 1) := by decide +kernel
theorem dX9_step_0 : decode cX9_step 0 = .ok (.aload_n 0, 1) := by decide +kernel
theorem dX9_step_1 : decode cX9_step 1 = .ok (.invokevirtual 94, 3) := by decide +kernel
theorem dX9_step_4 : decode cX9_step 4 = .ok (.istore_n 1, 1) := by decide +kernel
theorem dX9_step_5 : decode cX9_step 5 = .ok (.aload_n 0, 1) := by decide +kernel
theorem dX9_step_6 : decode cX9_step 6 = .ok (.dup, 1) := by decide +kernel
theorem dX9_step_7 : decode cX9_step 7 = .ok (.getfield 81, 3) := by decide +kernel
theorem dX9_step_10 : decode cX9_step 10 = .ok (.iconst 1, 1) := by decide +kernel
theorem dX9_step_11 : decode cX9_step 11 = .ok (.iadd, 1) := by decide +kernel
theorem dX9_step_12 : decode cX9_step 12 = .ok (.putfield 81, 3) := by decide +kernel
theorem dX9_step_15 : decode cX9_step 15 = .ok (.iconst 0, 1) := by decide +kernel
theorem dX9_step_16 : decode cX9_step 16 = .ok (.istore_n 2, 1) := by decide +kernel
theorem dX9_step_17 : decode cX9_step 17 = .ok (.iload_n 2, 1) := by decide +kernel
theorem dX9_step_18 : decode cX9_step 18 = .ok (.aload_n 0, 1) := by decide +kernel
theorem dX9_step_19 : decode cX9_step 19 = .ok (.getfield 63, 3) := by decide +kernel
theorem dX9_step_22 : decode cX9_step 22 = .ok (.if_icmp .ge 19, 3) := by decide +kernel
theorem dX9_step_25 : decode cX9_step 25 = .ok (.aload_n 0, 1) := by decide +kernel
theorem dX9_step_26 : decode cX9_step 26 = .ok (.aload_n 0, 1) := by decide +kernel
theorem dX9_step_27 : decode cX9_step 27 = .ok (.getfield 16, 3) := by decide +kernel
theorem dX9_step_30 : decode cX9_step 30 = .ok (.iload_n 2, 1) := by decide +kernel
theorem dX9_step_31 : decode cX9_step 31 = .ok (.aaload, 1) := by decide +kernel
theorem dX9_step_32 : decode cX9_step 32 = .ok (.invokevirtual 98, 3) := by decide +kernel
theorem dX9_step_35 : decode cX9_step 35 = .ok (.iinc 2 1, 3) := by decide +kernel
theorem dX9_step_38 : decode cX9_step 38 = .ok (.goto (-21), 3) := by decide +kernel
theorem dX9_step_41 : decode cX9_step 41 = .ok (.iconst 0, 1) := by decide +kernel
theorem dX9_step_42 : decode cX9_step 42 = .ok (.istore_n 2, 1) := by decide +kernel
theorem dX9_step_43 : decode cX9_step 43 = .ok (.iconst 0, 1) := by decide +kernel
theorem dX9_step_44 : decode cX9_step 44 = .ok (.istore_n 3, 1) := by decide +kernel
theorem dX9_step_45 : decode cX9_step 45 = .ok (.iload_n 3, 1) := by decide +kernel
theorem dX9_step_46 : decode cX9_step 46 = .ok (.aload_n 0, 1) := by decide +kernel
theorem dX9_step_47 : decode cX9_step 47 = .ok (.getfield 66, 3) := by decide +kernel
theorem dX9_step_50 : decode cX9_step 50 = .ok (.if_icmp .ge 33, 3) := by decide +kernel
theorem dX9_step_53 : decode cX9_step 53 = .ok (.aload_n 0, 1) := by decide +kernel
theorem dX9_step_54 : decode cX9_step 54 = .ok (.getfield 19, 3) := by decide +kernel
theorem dX9_step_57 : decode cX9_step 57 = .ok (.iload_n 3, 1) := by decide +kernel
theorem dX9_step_58 : decode cX9_step 58 = .ok (.aaload, 1) := by decide +kernel
theorem dX9_step_59 : decode cX9_step 59 = .ok (.iconst 1, 1) := by decide +kernel
theorem dX9_step_60 : decode cX9_step 60 = .ok (.iaload, 1) := by decide +kernel
theorem dX9_step_61 : decode cX9_step 61 = .ok (.ifCond .ne 16, 3) := by decide +kernel
theorem dX9_step_64 : decode cX9_step 64 = .ok (.iload_n 2, 1) := by decide +kernel
theorem dX9_step_65 : decode cX9_step 65 = .ok (.aload_n 0, 1) := by decide +kernel
theorem dX9_step_66 : decode cX9_step 66 = .ok (.aload_n 0, 1) := by decide +kernel
theorem dX9_step_67 : decode cX9_step 67 = .ok (.getfield 19, 3) := by decide +kernel
theorem dX9_step_70 : decode cX9_step 70 = .ok (.iload_n 3, 1) := by decide +kernel
theorem dX9_step_71 : decode cX9_step 71 = .ok (.aaload, 1) := by decide +kernel
theorem dX9_step_72 : decode cX9_step 72 = .ok (.invokevirtual 102, 3) := by decide +kernel
theorem dX9_step_75 : decode cX9_step 75 = .ok (.iadd, 1) := by decide +kernel
theorem dX9_step_76 : decode cX9_step 76 = .ok (.istore_n 2, 1) := by decide +kernel
theorem dX9_step_77 : decode cX9_step 77 = .ok (.iinc 3 1, 3) := by decide +kernel
theorem dX9_step_80 : decode cX9_step 80 = .ok (.goto (-35), 3) := by decide +kernel
theorem dX9_step_83 : decode cX9_step 83 = .ok (.aload_n 0, 1) := by decide +kernel
theorem dX9_step_84 : decode cX9_step 84 = .ok (.iload_n 2, 1) := by decide +kernel
theorem dX9_step_85 : decode cX9_step 85 = .ok (.invokevirtual 105, 3) := by decide +kernel
theorem dX9_step_88 : decode cX9_step 88 = .ok (.aload_n 0, 1) := by decide +kernel
theorem dX9_step_89 : decode cX9_step 89 = .ok (.aload_n 0, 1) := by decide +kernel
theorem dX9_step_90 : decode cX9_step 90 = .ok (.getfield 78, 3) := by decide +kernel
theorem dX9_step_93 : decode cX9_step 93 = .ok (.iconst 0, 1) := by decide +kernel
theorem dX9_step_94 : decode cX9_step 94 = .ok (.aload_n 0, 1) := by decide +kernel
theorem dX9_step_95 : decode cX9_step 95 = .ok (.getfield 25, 3) := by decide +kernel
theorem dX9_step_98 : decode cX9_step 98 = .ok (.iconst 1, 1) := by decide +kernel
theorem dX9_step_99 : decode cX9_step 99 = .ok (.iaload, 1) := by decide +kernel
theorem dX9_step_100 : decode cX9_step 100 = .ok (.bipush 30, 2) := by decide +kernel
theorem dX9_step_102 : decode cX9_step 102 = .ok (.aload_n 0, 1) := by decide +kernel
theorem dX9_step_103 : decode cX9_step 103 = .ok (.getfield 25, 3) := by decide +kernel
theorem dX9_step_106 : decode cX9_step 106 = .ok (.iconst 0, 1) := by decide +kernel
theorem dX9_step_107 : decode cX9_step 107 = .ok (.iaload, 1) := by decide +kernel
theorem dX9_step_108 : decode cX9_step 108 = .ok (.imul, 1) := by decide +kernel
theorem dX9_step_109 : decode cX9_step 109 = .ok (.isub, 1) := by decide +kernel
theorem dX9_step_110 : decode cX9_step 110 = .ok (.invokestatic 109, 3) := by decide +kernel
theorem dX9_step_113 : decode cX9_step 113 = .ok (.invokestatic 84, 3) := by decide +kernel
theorem dX9_step_116 : decode cX9_step 116 = .ok (.putfield 112, 3) := by decide +kernel
theorem dX9_step_119 : decode cX9_step 119 = .ok (.aload_n 0, 1) := by decide +kernel
theorem dX9_step_120 : decode cX9_step 120 = .ok (.getfield 25, 3) := by decide +kernel
theorem dX9_step_123 : decode cX9_step 123 = .ok (.iconst 1, 1) := by decide +kernel
theorem dX9_step_124 : decode cX9_step 124 = .ok (.dup2, 1) := by decide +kernel
theorem dX9_step_125 : decode cX9_step 125 = .ok (.iaload, 1) := by decide +kernel
theorem dX9_step_126 : decode cX9_step 126 = .ok (.aload_n 0, 1) := by decide +kernel
theorem dX9_step_127 : decode cX9_step 127 = .ok (.getfield 112, 3) := by decide +kernel
theorem dX9_step_130 : decode cX9_step 130 = .ok (.isub, 1) := by decide +kernel
theorem dX9_step_131 : decode cX9_step 131 = .ok (.iastore, 1) := by decide +kernel
theorem dX9_step_132 : decode cX9_step 132 = .ok (.aload_n 0, 1) := by decide +kernel
theorem dX9_step_133 : decode cX9_step 133 = .ok (.iconst 0, 1) := by decide +kernel
theorem dX9_step_134 : decode cX9_step 134 = .ok (.aload_n 0, 1) := by decide +kernel
theorem dX9_step_135 : decode cX9_step 135 = .ok (.getfield 25, 3) := by decide +kernel
theorem dX9_step_138 : decode cX9_step 138 = .ok (.iconst 0, 1) := by decide +kernel
theorem dX9_step_139 : decode cX9_step 139 = .ok (.iaload, 1) := by decide +kernel
theorem dX9_step_140 : decode cX9_step 140 = .ok (.sipush 500, 3) := by decide +kernel
theorem dX9_step_143 : decode cX9_step 143 = .ok (.isub, 1) := by decide +kernel
theorem dX9_step_144 : decode cX9_step 144 = .ok (.invokestatic 109, 3) := by decide +kernel
theorem dX9_step_147 : decode cX9_step 147 = .ok (.invokevirtual 115, 3) := by decide +kernel
theorem dX9_step_150 : decode cX9_step 150 = .ok (.iconst 0, 1) := by decide +kernel
theorem dX9_step_151 : decode cX9_step 151 = .ok (.istore_n 3, 1) := by decide +kernel
theorem dX9_step_152 : decode cX9_step 152 = .ok (.iload_n 3, 1) := by decide +kernel
theorem dX9_step_153 : decode cX9_step 153 = .ok (.iconst 4, 1) := by decide +kernel
theorem dX9_step_154 : decode cX9_step 154 = .ok (.if_icmp .ge 24, 3) := by decide +kernel
theorem dX9_step_157 : decode cX9_step 157 = .ok (.aload_n 0, 1) := by decide +kernel
theorem dX9_step_158 : decode cX9_step 158 = .ok (.getfield 32, 3) := by decide +kernel
theorem dX9_step_161 : decode cX9_step 161 = .ok (.iload_n 3, 1) := by decide +kernel
theorem dX9_step_162 : decode cX9_step 162 = .ok (.dup2, 1) := by decide +kernel
theorem dX9_step_163 : decode cX9_step 163 = .ok (.iaload, 1) := by decide +kernel
theorem dX9_step_164 : decode cX9_step 164 = .ok (.aload_n 0, 1) := by decide +kernel
theorem dX9_step_165 : decode cX9_step 165 = .ok (.getfield 52, 3) := by decide +kernel
theorem dX9_step_168 : decode cX9_step 168 = .ok (.iload_n 3, 1) := by decide +kernel
theorem dX9_step_169 : decode cX9_step 169 = .ok (.iaload, 1) := by decide +kernel
theorem dX9_step_170 : decode cX9_step 170 = .ok (.iadd, 1) := by decide +kernel
theorem dX9_step_171 : decode cX9_step 171 = .ok (.iastore, 1) := by decide +kernel
theorem dX9_step_172 : decode cX9_step 172 = .ok (.iinc 3 1, 3) := by decide +kernel
theorem dX9_step_175 : decode cX9_step 175 = .ok (.goto (-23), 3) := by decide +kernel
theorem dX9_step_178 : decode cX9_step 178 = .ok (.iconst 0, 1) := by decide +kernel
theorem dX9_step_179 : decode cX9_step 179 = .ok (.istore_n 3, 1) := by decide +kernel
theorem dX9_step_180 : decode cX9_step 180 = .ok (.iconst 0, 1) := by decide +kernel
theorem dX9_step_181 : decode cX9_step 181 = .ok (.istore 4, 2) := by decide +kernel
theorem dX9_step_183 : decode cX9_step 183 = .ok (.iload 4, 2) := by decide +kernel
theorem dX9_step_185 : decode cX9_step 185 = .ok (.aload_n 0, 1) := by decide +kernel
theorem dX9_step_186 : decode cX9_step 186 = .ok (.getfield 66, 3) := by decide +kernel
theorem dX9_step_189 : decode cX9_step 189 = .ok (.if_icmp .ge 37, 3) := by decide +kernel
theorem dX9_step_192 : decode cX9_step 192 = .ok (.aload_n 0, 1) := by decide +kernel
theorem dX9_step_193 : decode cX9_step 193 = .ok (.getfield 19, 3) := by decide +kernel
theorem dX9_step_196 : decode cX9_step 196 = .ok (.iload 4, 2) := by decide +kernel
theorem dX9_step_198 : decode cX9_step 198 = .ok (.aaload, 1) := by decide +kernel
theorem dX9_step_199 : decode cX9_step 199 = .ok (.iconst 1, 1) := by decide +kernel
theorem dX9_step_200 : decode cX9_step 200 = .ok (.iaload, 1) := by decide +kernel
theorem dX9_step_201 : decode cX9_step 201 = .ok (.iconst 1, 1) := by decide +kernel
theorem dX9_step_202 : decode cX9_step 202 = .ok (.if_icmp .ne 18, 3) := by decide +kernel
theorem dX9_step_205 : decode cX9_step 205 = .ok (.iload_n 3, 1) := by decide +kernel
theorem dX9_step_206 : decode cX9_step 206 = .ok (.aload_n 0, 1) := by decide +kernel
theorem dX9_step_207 : decode cX9_step 207 = .ok (.aload_n 0, 1) := by decide +kernel
theorem dX9_step_208 : decode cX9_step 208 = .ok (.getfield 19, 3) := by decide +kernel
theorem dX9_step_211 : decode cX9_step 211 = .ok (.iload 4, 2) := by decide +kernel
theorem dX9_step_213 : decode cX9_step 213 = .ok (.aaload, 1) := by decide +kernel
theorem dX9_step_214 : decode cX9_step 214 = .ok (.iload_n 1, 1) := by decide +kernel
theorem dX9_step_215 : decode cX9_step 215 = .ok (.invokevirtual 118, 3) := by decide +kernel
theorem dX9_step_218 : decode cX9_step 218 = .ok (.iadd, 1) := by decide +kernel
theorem dX9_step_219 : decode cX9_step 219 = .ok (.istore_n 3, 1) := by decide +kernel
theorem dX9_step_220 : decode cX9_step 220 = .ok (.iinc 4 1, 3) := by decide +kernel
theorem dX9_step_223 : decode cX9_step 223 = .ok (.goto (-40), 3) := by decide +kernel
theorem dX9_step_226 : decode cX9_step 226 = .ok (.aload_n 0, 1) := by decide +kernel
theorem dX9_step_227 : decode cX9_step 227 = .ok (.getfield 41, 3) := by decide +kernel
theorem dX9_step_230 : decode cX9_step 230 = .ok (.aload_n 0, 1) := by decide +kernel
theorem dX9_step_231 : decode cX9_step 231 = .ok (.getfield 81, 3) := by decide +kernel
theorem dX9_step_234 : decode cX9_step 234 = .ok (.iconst 4, 1) := by decide +kernel
theorem dX9_step_235 : decode cX9_step 235 = .ok (.irem, 1) := by decide +kernel
theorem dX9_step_236 : decode cX9_step 236 = .ok (.iload_n 3, 1) := by decide +kernel
theorem dX9_step_237 : decode cX9_step 237 = .ok (.iastore, 1) := by decide +kernel
theorem dX9_step_238 : decode cX9_step 238 = .ok (.iconst 0, 1) := by decide +kernel
theorem dX9_step_239 : decode cX9_step 239 = .ok (.istore 4, 2) := by decide +kernel
theorem dX9_step_241 : decode cX9_step 241 = .ok (.iload 4, 2) := by decide +kernel
theorem dX9_step_243 : decode cX9_step 243 = .ok (.aload_n 0, 1) := by decide +kernel
theorem dX9_step_244 : decode cX9_step 244 = .ok (.getfield 69, 3) := by decide +kernel
theorem dX9_step_247 : decode cX9_step 247 = .ok (.if_icmp .ge 20, 3) := by decide +kernel
theorem dX9_step_250 : decode cX9_step 250 = .ok (.aload_n 0, 1) := by decide +kernel
theorem dX9_step_251 : decode cX9_step 251 = .ok (.aload_n 0, 1) := by decide +kernel
theorem dX9_step_252 : decode cX9_step 252 = .ok (.getfield 22, 3) := by decide +kernel
theorem dX9_step_255 : decode cX9_step 255 = .ok (.iload 4, 2) := by decide +kernel
theorem dX9_step_257 : decode cX9_step 257 = .ok (.aaload, 1) := by decide +kernel
theorem dX9_step_258 : decode cX9_step 258 = .ok (.invokevirtual 122, 3) := by decide +kernel
theorem dX9_step_261 : decode cX9_step 261 = .ok (.iinc 4 1, 3) := by decide +kernel
theorem dX9_step_264 : decode cX9_step 264 = .ok (.goto (-23), 3) := by decide +kernel
theorem dX9_step_267 : decode cX9_step 267 = .ok (.aload_n 0, 1) := by decide +kernel
theorem dX9_step_268 : decode cX9_step 268 = .ok (.invokevirtual 125, 3) := by decide +kernel
theorem dX9_step_271 : decode cX9_step 271 = .ok (.return_, 1) := by decide +kernel
theorem dX9_pass_0 : decode cX9_pass 0 = .ok (.aload_n 0, 1) := by decide +kernel
theorem dX9_pass_1 : decode cX9_pass 1 = .ok (.getfield 11, 3) := by decide +kernel
theorem dX9_pass_4 : decode cX9_pass 4 = .ok (.aload_n 1, 1) := by decide +kernel
theorem dX9_pass_5 : decode cX9_pass 5 = .ok (.iconst 0, 1) := by decide +kernel
theorem dX9_pass_6 : decode cX9_pass 6 = .ok (.iaload, 1) := by decide +kernel
theorem dX9_pass_7 : decode cX9_pass 7 = .ok (.aaload, 1) := by decide +kernel
theorem dX9_pass_8 : decode cX9_pass 8 = .ok (.astore_n 2, 1) := by decide +kernel
theorem dX9_pass_9 : decode cX9_pass 9 = .ok (.aload_n 0, 1) := by decide +kernel
theorem dX9_pass_10 : decode cX9_pass 10 = .ok (.getfield 11, 3) := by decide +kernel
theorem dX9_pass_13 : decode cX9_pass 13 = .ok (.aload_n 1, 1) := by decide +kernel
theorem dX9_pass_14 : decode cX9_pass 14 = .ok (.iconst 1, 1) := by decide +kernel
theorem dX9_pass_15 : decode cX9_pass 15 = .ok (.iaload, 1) := by decide +kernel
theorem dX9_pass_16 : decode cX9_pass 16 = .ok (.aaload, 1) := by decide +kernel
theorem dX9_pass_17 : decode cX9_pass 17 = .ok (.astore_n 3, 1) := by decide +kernel
theorem dX9_pass_18 : decode cX9_pass 18 = .ok (.aload_n 2, 1) := by decide +kernel
theorem dX9_pass_19 : decode cX9_pass 19 = .ok (.invokestatic 128, 3) := by decide +kernel
theorem dX9_pass_22 : decode cX9_pass 22 = .ok (.aload_n 3, 1) := by decide +kernel
theorem dX9_pass_23 : decode cX9_pass 23 = .ok (.invokestatic 128, 3) := by decide +kernel
theorem dX9_pass_26 : decode cX9_pass 26 = .ok (.isub, 1) := by decide +kernel
theorem dX9_pass_27 : decode cX9_pass 27 = .ok (.istore 4, 2) := by decide +kernel
theorem dX9_pass_29 : decode cX9_pass 29 = .ok (.iload 4, 2) := by decide +kernel
theorem dX9_pass_31 : decode cX9_pass 31 = .ok (.ifCond .lt 7, 3) := by decide +kernel
theorem dX9_pass_34 : decode cX9_pass 34 = .ok (.aload_n 2, 1) := by decide +kernel
theorem dX9_pass_35 : decode cX9_pass 35 = .ok (.goto 4, 3) := by decide +kernel
theorem dX9_pass_38 : decode cX9_pass 38 = .ok (.aload_n 3, 1) := by decide +kernel
theorem dX9_pass_39 : decode cX9_pass 39 = .ok (.astore 5, 2) := by decide +kernel
theorem dX9_pass_41 : decode cX9_pass 41 = .ok (.iload 4, 2) := by decide +kernel
theorem dX9_pass_43 : decode cX9_pass 43 = .ok (.ifCond .lt 7, 3) := by decide +kernel
theorem dX9_pass_46 : decode cX9_pass 46 = .ok (.aload_n 3, 1) := by decide +kernel
theorem dX9_pass_47 : decode cX9_pass 47 = .ok (.goto 4, 3) := by decide +kernel
theorem dX9_pass_50 : decode cX9_pass 50 = .ok (.aload_n 2, 1) := by decide +kernel
theorem dX9_pass_51 : decode cX9_pass 51 = .ok (.astore 6, 2) := by decide +kernel
theorem dX9_pass_53 : decode cX9_pass 53 = .ok (.aload_n 0, 1) := by decide +kernel
theorem dX9_pass_54 : decode cX9_pass 54 = .ok (.aload 5, 2) := by decide +kernel
theorem dX9_pass_56 : decode cX9_pass 56 = .ok (.iload 4, 2) := by decide +kernel
theorem dX9_pass_58 : decode cX9_pass 58 = .ok (.invokestatic 131, 3) := by decide +kernel
theorem dX9_pass_61 : decode cX9_pass 61 = .ok (.aload_n 1, 1) := by decide +kernel
theorem dX9_pass_62 : decode cX9_pass 62 = .ok (.iconst 2, 1) := by decide +kernel
theorem dX9_pass_63 : decode cX9_pass 63 = .ok (.iaload, 1) := by decide +kernel
theorem dX9_pass_64 : decode cX9_pass 64 = .ok (.imul, 1) := by decide +kernel
theorem dX9_pass_65 : decode cX9_pass 65 = .ok (.bipush 20, 2) := by decide +kernel
theorem dX9_pass_67 : decode cX9_pass 67 = .ok (.idiv, 1) := by decide +kernel
theorem dX9_pass_68 : decode cX9_pass 68 = .ok (.invokevirtual 135, 3) := by decide +kernel
theorem dX9_pass_71 : decode cX9_pass 71 = .ok (.aload_n 0, 1) := by decide +kernel
theorem dX9_pass_72 : decode cX9_pass 72 = .ok (.aload 6, 2) := by decide +kernel
theorem dX9_pass_74 : decode cX9_pass 74 = .ok (.invokevirtual 139, 3) := by decide +kernel
theorem dX9_pass_77 : decode cX9_pass 77 = .ok (.aload_n 1, 1) := by decide +kernel
theorem dX9_pass_78 : decode cX9_pass 78 = .ok (.iconst 3, 1) := by decide +kernel
theorem dX9_pass_79 : decode cX9_pass 79 = .ok (.iload 4, 2) := by decide +kernel
theorem dX9_pass_81 : decode cX9_pass 81 = .ok (.ifCond .lt 12, 3) := by decide +kernel
theorem dX9_pass_84 : decode cX9_pass 84 = .ok (.aload_n 0, 1) := by decide +kernel
theorem dX9_pass_85 : decode cX9_pass 85 = .ok (.getfield 52, 3) := by decide +kernel
theorem dX9_pass_88 : decode cX9_pass 88 = .ok (.iconst 0, 1) := by decide +kernel
theorem dX9_pass_89 : decode cX9_pass 89 = .ok (.iaload, 1) := by decide +kernel
theorem dX9_pass_90 : decode cX9_pass 90 = .ok (.goto 10, 3) := by decide +kernel
theorem dX9_pass_93 : decode cX9_pass 93 = .ok (.aload_n 0, 1) := by decide +kernel
theorem dX9_pass_94 : decode cX9_pass 94 = .ok (.getfield 52, 3) := by decide +kernel
theorem dX9_pass_97 : decode cX9_pass 97 = .ok (.iconst 0, 1) := by decide +kernel
theorem dX9_pass_98 : decode cX9_pass 98 = .ok (.iaload, 1) := by decide +kernel
theorem dX9_pass_99 : decode cX9_pass 99 = .ok (.ineg, 1) := by decide +kernel
theorem dX9_pass_100 : decode cX9_pass 100 = .ok (.iastore, 1) := by decide +kernel
theorem dX9_pass_101 : decode cX9_pass 101 = .ok (.aload_n 2, 1) := by decide +kernel
theorem dX9_pass_102 : decode cX9_pass 102 = .ok (.invokestatic 90, 3) := by decide +kernel
theorem dX9_pass_105 : decode cX9_pass 105 = .ok (.aload_n 3, 1) := by decide +kernel
theorem dX9_pass_106 : decode cX9_pass 106 = .ok (.invokestatic 90, 3) := by decide +kernel
theorem dX9_pass_109 : decode cX9_pass 109 = .ok (.isub, 1) := by decide +kernel
theorem dX9_pass_110 : decode cX9_pass 110 = .ok (.aload_n 1, 1) := by decide +kernel
theorem dX9_pass_111 : decode cX9_pass 111 = .ok (.iconst 2, 1) := by decide +kernel
theorem dX9_pass_112 : decode cX9_pass 112 = .ok (.iaload, 1) := by decide +kernel
theorem dX9_pass_113 : decode cX9_pass 113 = .ok (.imul, 1) := by decide +kernel
theorem dX9_pass_114 : decode cX9_pass 114 = .ok (.istore 7, 2) := by decide +kernel
theorem dX9_pass_116 : decode cX9_pass 116 = .ok (.aload_n 2, 1) := by decide +kernel
theorem dX9_pass_117 : decode cX9_pass 117 = .ok (.iconst 1, 1) := by decide +kernel
theorem dX9_pass_118 : decode cX9_pass 118 = .ok (.dup2, 1) := by decide +kernel
theorem dX9_pass_119 : decode cX9_pass 119 = .ok (.iaload, 1) := by decide +kernel
theorem dX9_pass_120 : decode cX9_pass 120 = .ok (.iload 7, 2) := by decide +kernel
theorem dX9_pass_122 : decode cX9_pass 122 = .ok (.isub, 1) := by decide +kernel
theorem dX9_pass_123 : decode cX9_pass 123 = .ok (.iastore, 1) := by decide +kernel
theorem dX9_pass_124 : decode cX9_pass 124 = .ok (.aload_n 3, 1) := by decide +kernel
theorem dX9_pass_125 : decode cX9_pass 125 = .ok (.iconst 1, 1) := by decide +kernel
theorem dX9_pass_126 : decode cX9_pass 126 = .ok (.dup2, 1) := by decide +kernel
theorem dX9_pass_127 : decode cX9_pass 127 = .ok (.iaload, 1) := by decide +kernel
theorem dX9_pass_128 : decode cX9_pass 128 = .ok (.iload 7, 2) := by decide +kernel
theorem dX9_pass_130 : decode cX9_pass 130 = .ok (.iadd, 1) := by decide +kernel
theorem dX9_pass_131 : decode cX9_pass 131 = .ok (.iastore, 1) := by decide +kernel
theorem dX9_pass_132 : decode cX9_pass 132 = .ok (.iload 4, 2) := by decide +kernel
theorem dX9_pass_134 : decode cX9_pass 134 = .ok (.invokestatic 131, 3) := by decide +kernel
theorem dX9_pass_137 : decode cX9_pass 137 = .ok (.bipush 50, 2) := by decide +kernel
theorem dX9_pass_139 : decode cX9_pass 139 = .ok (.if_icmp .lt 16, 3) := by decide +kernel
theorem dX9_pass_142 : decode cX9_pass 142 = .ok (.aload_n 1, 1) := by decide +kernel
theorem dX9_pass_143 : decode cX9_pass 143 = .ok (.iconst 2, 1) := by decide +kernel
theorem dX9_pass_144 : decode cX9_pass 144 = .ok (.bipush 9, 2) := by decide +kernel
theorem dX9_pass_146 : decode cX9_pass 146 = .ok (.aload_n 1, 1) := by decide +kernel
theorem dX9_pass_147 : decode cX9_pass 147 = .ok (.iconst 2, 1) := by decide +kernel
theorem dX9_pass_148 : decode cX9_pass 148 = .ok (.iaload, 1) := by decide +kernel
theorem dX9_pass_149 : decode cX9_pass 149 = .ok (.iconst 1, 1) := by decide +kernel
theorem dX9_pass_150 : decode cX9_pass 150 = .ok (.iadd, 1) := by decide +kernel
theorem dX9_pass_151 : decode cX9_pass 151 = .ok (.invokestatic 84, 3) := by decide +kernel
theorem dX9_pass_154 : decode cX9_pass 154 = .ok (.iastore, 1) := by decide +kernel
theorem dX9_pass_155 : decode cX9_pass 155 = .ok (.return_, 1) := by decide +kernel
theorem dX9_produce_0 : decode cX9_produce 0 = .ok (.aload_n 0, 1) := by decide +kernel
theorem dX9_produce_1 : decode cX9_produce 1 = .ok (.getfield 11, 3) := by decide +kernel
theorem dX9_produce_4 : decode cX9_produce 4 = .ok (.aload_n 1, 1) := by decide +kernel
theorem dX9_produce_5 : decode cX9_produce 5 = .ok (.iconst 0, 1) := by decide +kernel
theorem dX9_produce_6 : decode cX9_produce 6 = .ok (.iaload, 1) := by decide +kernel
theorem dX9_produce_7 : decode cX9_produce 7 = .ok (.aaload, 1) := by decide +kernel
theorem dX9_produce_8 : decode cX9_produce 8 = .ok (.astore_n 2, 1) := by decide +kernel
theorem dX9_produce_9 : decode cX9_produce 9 = .ok (.aload_n 2, 1) := by decide +kernel
theorem dX9_produce_10 : decode cX9_produce 10 = .ok (.invokestatic 90, 3) := by decide +kernel
theorem dX9_produce_13 : decode cX9_produce 13 = .ok (.istore_n 3, 1) := by decide +kernel
theorem dX9_produce_14 : decode cX9_produce 14 = .ok (.aload_n 0, 1) := by decide +kernel
theorem dX9_produce_15 : decode cX9_produce 15 = .ok (.aload_n 2, 1) := by decide +kernel
theorem dX9_produce_16 : decode cX9_produce 16 = .ok (.iconst 0, 1) := by decide +kernel
theorem dX9_produce_17 : decode cX9_produce 17 = .ok (.aload_n 2, 1) := by decide +kernel
theorem dX9_produce_18 : decode cX9_produce 18 = .ok (.invokestatic 128, 3) := by decide +kernel
theorem dX9_produce_21 : decode cX9_produce 21 = .ok (.bipush 40, 2) := by decide +kernel
theorem dX9_produce_23 : decode cX9_produce 23 = .ok (.isub, 1) := by decide +kernel
theorem dX9_produce_24 : decode cX9_produce 24 = .ok (.iconst 3, 1) := by decide +kernel
theorem dX9_produce_25 : decode cX9_produce 25 = .ok (.aload_n 1, 1) := by decide +kernel
theorem dX9_produce_26 : decode cX9_produce 26 = .ok (.iconst 3, 1) := by decide +kernel
theorem dX9_produce_27 : decode cX9_produce 27 = .ok (.iaload, 1) := by decide +kernel
theorem dX9_produce_28 : decode cX9_produce 28 = .ok (.imul, 1) := by decide +kernel
theorem dX9_produce_29 : decode cX9_produce 29 = .ok (.isub, 1) := by decide +kernel
theorem dX9_produce_30 : decode cX9_produce 30 = .ok (.invokestatic 109, 3) := by decide +kernel
theorem dX9_produce_33 : decode cX9_produce 33 = .ok (.aload_n 1, 1) := by decide +kernel
theorem dX9_produce_34 : decode cX9_produce 34 = .ok (.iconst 2, 1) := by decide +kernel
theorem dX9_produce_35 : decode cX9_produce 35 = .ok (.iaload, 1) := by decide +kernel
theorem dX9_produce_36 : decode cX9_produce 36 = .ok (.imul, 1) := by decide +kernel
theorem dX9_produce_37 : decode cX9_produce 37 = .ok (.bipush 20, 2) := by decide +kernel
theorem dX9_produce_39 : decode cX9_produce 39 = .ok (.idiv, 1) := by decide +kernel
theorem dX9_produce_40 : decode cX9_produce 40 = .ok (.invokevirtual 135, 3) := by decide +kernel
theorem dX9_produce_43 : decode cX9_produce 43 = .ok (.aload_n 0, 1) := by decide +kernel
theorem dX9_produce_44 : decode cX9_produce 44 = .ok (.getfield 52, 3) := by decide +kernel
theorem dX9_produce_47 : decode cX9_produce 47 = .ok (.iconst 0, 1) := by decide +kernel
theorem dX9_produce_48 : decode cX9_produce 48 = .ok (.iaload, 1) := by decide +kernel
theorem dX9_produce_49 : decode cX9_produce 49 = .ok (.istore 4, 2) := by decide +kernel
theorem dX9_produce_51 : decode cX9_produce 51 = .ok (.iload 4, 2) := by decide +kernel
theorem dX9_produce_53 : decode cX9_produce 53 = .ok (.iload 4, 2) := by decide +kernel
theorem dX9_produce_55 : decode cX9_produce 55 = .ok (.iconst 0, 1) := by decide +kernel
theorem dX9_produce_56 : decode cX9_produce 56 = .ok (.iload_n 3, 1) := by decide +kernel
theorem dX9_produce_57 : decode cX9_produce 57 = .ok (.bipush 100, 2) := by decide +kernel
theorem dX9_produce_59 : decode cX9_produce 59 = .ok (.isub, 1) := by decide +kernel
theorem dX9_produce_60 : decode cX9_produce 60 = .ok (.invokestatic 109, 3) := by decide +kernel
theorem dX9_produce_63 : decode cX9_produce 63 = .ok (.imul, 1) := by decide +kernel
theorem dX9_produce_64 : decode cX9_produce 64 = .ok (.sipush 400, 3) := by decide +kernel
theorem dX9_produce_67 : decode cX9_produce 67 = .ok (.idiv, 1) := by decide +kernel
theorem dX9_produce_68 : decode cX9_produce 68 = .ok (.invokestatic 84, 3) := by decide +kernel
theorem dX9_produce_71 : decode cX9_produce 71 = .ok (.istore 5, 2) := by decide +kernel
theorem dX9_produce_73 : decode cX9_produce 73 = .ok (.iload 4, 2) := by decide +kernel
theorem dX9_produce_75 : decode cX9_produce 75 = .ok (.iload 5, 2) := by decide +kernel
theorem dX9_produce_77 : decode cX9_produce 77 = .ok (.isub, 1) := by decide +kernel
theorem dX9_produce_78 : decode cX9_produce 78 = .ok (.istore 6, 2) := by decide +kernel
theorem dX9_produce_80 : decode cX9_produce 80 = .ok (.aload_n 0, 1) := by decide +kernel
theorem dX9_produce_81 : decode cX9_produce 81 = .ok (.getfield 25, 3) := by decide +kernel
theorem dX9_produce_84 : decode cX9_produce 84 = .ok (.iconst 0, 1) := by decide +kernel
theorem dX9_produce_85 : decode cX9_produce 85 = .ok (.dup2, 1) := by decide +kernel
theorem dX9_produce_86 : decode cX9_produce 86 = .ok (.iaload, 1) := by decide +kernel
theorem dX9_produce_87 : decode cX9_produce 87 = .ok (.iload 6, 2) := by decide +kernel
theorem dX9_produce_89 : decode cX9_produce 89 = .ok (.iadd, 1) := by decide +kernel
theorem dX9_produce_90 : decode cX9_produce 90 = .ok (.iastore, 1) := by decide +kernel
theorem dX9_produce_91 : decode cX9_produce 91 = .ok (.aload_n 0, 1) := by decide +kernel
theorem dX9_produce_92 : decode cX9_produce 92 = .ok (.getfield 25, 3) := by decide +kernel
theorem dX9_produce_95 : decode cX9_produce 95 = .ok (.iconst 1, 1) := by decide +kernel
theorem dX9_produce_96 : decode cX9_produce 96 = .ok (.dup2, 1) := by decide +kernel
theorem dX9_produce_97 : decode cX9_produce 97 = .ok (.iaload, 1) := by decide +kernel
theorem dX9_produce_98 : decode cX9_produce 98 = .ok (.iload 6, 2) := by decide +kernel
theorem dX9_produce_100 : decode cX9_produce 100 = .ok (.bipush 100, 2) := by decide +kernel
theorem dX9_produce_102 : decode cX9_produce 102 = .ok (.iload_n 3, 1) := by decide +kernel
theorem dX9_produce_103 : decode cX9_produce 103 = .ok (.invokestatic 84, 3) := by decide +kernel
theorem dX9_produce_106 : decode cX9_produce 106 = .ok (.imul, 1) := by decide +kernel
theorem dX9_produce_107 : decode cX9_produce 107 = .ok (.iadd, 1) := by decide +kernel
theorem dX9_produce_108 : decode cX9_produce 108 = .ok (.iastore, 1) := by decide +kernel
theorem dX9_produce_109 : decode cX9_produce 109 = .ok (.aload_n 0, 1) := by decide +kernel
theorem dX9_produce_110 : decode cX9_produce 110 = .ok (.getfield 25, 3) := by decide +kernel
theorem dX9_produce_113 : decode cX9_produce 113 = .ok (.iconst 2, 1) := by decide +kernel
theorem dX9_produce_114 : decode cX9_produce 114 = .ok (.dup2, 1) := by decide +kernel
theorem dX9_produce_115 : decode cX9_produce 115 = .ok (.iaload, 1) := by decide +kernel
theorem dX9_produce_116 : decode cX9_produce 116 = .ok (.aload_n 0, 1) := by decide +kernel
theorem dX9_produce_117 : decode cX9_produce 117 = .ok (.getfield 52, 3) := by decide +kernel
theorem dX9_produce_120 : decode cX9_produce 120 = .ok (.iconst 2, 1) := by decide +kernel
theorem dX9_produce_121 : decode cX9_produce 121 = .ok (.iaload, 1) := by decide +kernel
theorem dX9_produce_122 : decode cX9_produce 122 = .ok (.iadd, 1) := by decide +kernel
theorem dX9_produce_123 : decode cX9_produce 123 = .ok (.iastore, 1) := by decide +kernel
theorem dX9_produce_124 : decode cX9_produce 124 = .ok (.aload_n 0, 1) := by decide +kernel
theorem dX9_produce_125 : decode cX9_produce 125 = .ok (.getfield 25, 3) := by decide +kernel
theorem dX9_produce_128 : decode cX9_produce 128 = .ok (.iconst 3, 1) := by decide +kernel
theorem dX9_produce_129 : decode cX9_produce 129 = .ok (.dup2, 1) := by decide +kernel
theorem dX9_produce_130 : decode cX9_produce 130 = .ok (.iaload, 1) := by decide +kernel
theorem dX9_produce_131 : decode cX9_produce 131 = .ok (.aload_n 0, 1) := by decide +kernel
theorem dX9_produce_132 : decode cX9_produce 132 = .ok (.getfield 52, 3) := by decide +kernel
theorem dX9_produce_135 : decode cX9_produce 135 = .ok (.iconst 3, 1) := by decide +kernel
theorem dX9_produce_136 : decode cX9_produce 136 = .ok (.iaload, 1) := by decide +kernel
theorem dX9_produce_137 : decode cX9_produce 137 = .ok (.iadd, 1) := by decide +kernel
theorem dX9_produce_138 : decode cX9_produce 138 = .ok (.iastore, 1) := by decide +kernel
theorem dX9_produce_139 : decode cX9_produce 139 = .ok (.bipush 10, 2) := by decide +kernel
theorem dX9_produce_141 : decode cX9_produce 141 = .ok (.aload_n 0, 1) := by decide +kernel
theorem dX9_produce_142 : decode cX9_produce 142 = .ok (.getfield 52, 3) := by decide +kernel
theorem dX9_produce_145 : decode cX9_produce 145 = .ok (.iconst 2, 1) := by decide +kernel
theorem dX9_produce_146 : decode cX9_produce 146 = .ok (.iaload, 1) := by decide +kernel
theorem dX9_produce_147 : decode cX9_produce 147 = .ok (.imul, 1) := by decide +kernel
theorem dX9_produce_148 : decode cX9_produce 148 = .ok (.bipush 30, 2) := by decide +kernel
theorem dX9_produce_150 : decode cX9_produce 150 = .ok (.iload 6, 2) := by decide +kernel
theorem dX9_produce_152 : decode cX9_produce 152 = .ok (.imul, 1) := by decide +kernel
theorem dX9_produce_153 : decode cX9_produce 153 = .ok (.if_icmp .le 10, 3) := by decide +kernel
theorem dX9_produce_156 : decode cX9_produce 156 = .ok (.aload_n 1, 1) := by decide +kernel
theorem dX9_produce_157 : decode cX9_produce 157 = .ok (.iconst 4, 1) := by decide +kernel
theorem dX9_produce_158 : decode cX9_produce 158 = .ok (.dup2, 1) := by decide +kernel
theorem dX9_produce_159 : decode cX9_produce 159 = .ok (.iaload, 1) := by decide +kernel
theorem dX9_produce_160 : decode cX9_produce 160 = .ok (.iconst 1, 1) := by decide +kernel
theorem dX9_produce_161 : decode cX9_produce 161 = .ok (.iadd, 1) := by decide +kernel
theorem dX9_produce_162 : decode cX9_produce 162 = .ok (.iastore, 1) := by decide +kernel
theorem dX9_produce_163 : decode cX9_produce 163 = .ok (.aload_n 1, 1) := by decide +kernel
theorem dX9_produce_164 : decode cX9_produce 164 = .ok (.iconst 4, 1) := by decide +kernel
theorem dX9_produce_165 : decode cX9_produce 165 = .ok (.iaload, 1) := by decide +kernel
theorem dX9_produce_166 : decode cX9_produce 166 = .ok (.iconst 5, 1) := by decide +kernel
theorem dX9_produce_167 : decode cX9_produce 167 = .ok (.if_icmp .ne 20, 3) := by decide +kernel
theorem dX9_produce_170 : decode cX9_produce 170 = .ok (.aload_n 1, 1) := by decide +kernel
theorem dX9_produce_171 : decode cX9_produce 171 = .ok (.iconst 4, 1) := by decide +kernel
theorem dX9_produce_172 : decode cX9_produce 172 = .ok (.iconst 0, 1) := by decide +kernel
theorem dX9_produce_173 : decode cX9_produce 173 = .ok (.iastore, 1) := by decide +kernel
theorem dX9_produce_174 : decode cX9_produce 174 = .ok (.aload_n 1, 1) := by decide +kernel
theorem dX9_produce_175 : decode cX9_produce 175 = .ok (.iconst 3, 1) := by decide +kernel
theorem dX9_produce_176 : decode cX9_produce 176 = .ok (.bipush 9, 2) := by decide +kernel
theorem dX9_produce_178 : decode cX9_produce 178 = .ok (.aload_n 1, 1) := by decide +kernel
theorem dX9_produce_179 : decode cX9_produce 179 = .ok (.iconst 3, 1) := by decide +kernel
theorem dX9_produce_180 : decode cX9_produce 180 = .ok (.iaload, 1) := by decide +kernel
theorem dX9_produce_181 : decode cX9_produce 181 = .ok (.iconst 1, 1) := by decide +kernel
theorem dX9_produce_182 : decode cX9_produce 182 = .ok (.iadd, 1) := by decide +kernel
theorem dX9_produce_183 : decode cX9_produce 183 = .ok (.invokestatic 84, 3) := by decide +kernel
theorem dX9_produce_186 : decode cX9_produce 186 = .ok (.iastore, 1) := by decide +kernel
theorem dX9_produce_187 : decode cX9_produce 187 = .ok (.aload_n 1, 1) := by decide +kernel
theorem dX9_produce_188 : decode cX9_produce 188 = .ok (.iconst 5, 1) := by decide +kernel
theorem dX9_produce_189 : decode cX9_produce 189 = .ok (.iload 4, 2) := by decide +kernel
theorem dX9_produce_191 : decode cX9_produce 191 = .ok (.iastore, 1) := by decide +kernel
theorem dX9_produce_192 : decode cX9_produce 192 = .ok (.aload_n 1, 1) := by decide +kernel
theorem dX9_produce_193 : decode cX9_produce 193 = .ok (.bipush 6, 2) := by decide +kernel
theorem dX9_produce_195 : decode cX9_produce 195 = .ok (.iload 5, 2) := by decide +kernel
theorem dX9_produce_197 : decode cX9_produce 197 = .ok (.iastore, 1) := by decide +kernel
theorem dX9_produce_198 : decode cX9_produce 198 = .ok (.aload_n 1, 1) := by decide +kernel
theorem dX9_produce_199 : decode cX9_produce 199 = .ok (.bipush 7, 2) := by decide +kernel
theorem dX9_produce_201 : decode cX9_produce 201 = .ok (.aload_n 0, 1) := by decide +kernel
theorem dX9_produce_202 : decode cX9_produce 202 = .ok (.getfield 52, 3) := by decide +kernel
theorem dX9_produce_205 : decode cX9_produce 205 = .ok (.iconst 3, 1) := by decide +kernel
theorem dX9_produce_206 : decode cX9_produce 206 = .ok (.iaload, 1) := by decide +kernel
theorem dX9_produce_207 : decode cX9_produce 207 = .ok (.iastore, 1) := by decide +kernel
theorem dX9_produce_208 : decode cX9_produce 208 = .ok (.aload_n 1, 1) := by decide +kernel
theorem dX9_produce_209 : decode cX9_produce 209 = .ok (.bipush 8, 2) := by decide +kernel
theorem dX9_produce_211 : decode cX9_produce 211 = .ok (.dup2, 1) := by decide +kernel
theorem dX9_produce_212 : decode cX9_produce 212 = .ok (.iaload, 1) := by decide +kernel
theorem dX9_produce_213 : decode cX9_produce 213 = .ok (.iload 4, 2) := by decide +kernel
theorem dX9_produce_215 : decode cX9_produce 215 = .ok (.iadd, 1) := by decide +kernel
theorem dX9_produce_216 : decode cX9_produce 216 = .ok (.iastore, 1) := by decide +kernel
theorem dX9_produce_217 : decode cX9_produce 217 = .ok (.iload 5, 2) := by decide +kernel
theorem dX9_produce_219 : decode cX9_produce 219 = .ok (.ireturn, 1) := by decide +kernel
theorem dX9_drive_0 : decode cX9_drive 0 = .ok (.aload_n 0, 1) := by decide +kernel
theorem dX9_drive_1 : decode cX9_drive 1 = .ok (.getfield 48, 3) := by decide +kernel
theorem dX9_drive_4 : decode cX9_drive 4 = .ok (.ifCond .eq 14, 3) := by decide +kernel
theorem dX9_drive_7 : decode cX9_drive 7 = .ok (.aload_n 0, 1) := by decide +kernel
theorem dX9_drive_8 : decode cX9_drive 8 = .ok (.getfield 44, 3) := by decide +kernel
theorem dX9_drive_11 : decode cX9_drive 11 = .ok (.iload_n 1, 1) := by decide +kernel
theorem dX9_drive_12 : decode cX9_drive 12 = .ok (.invokestatic 84, 3) := by decide +kernel
theorem dX9_drive_15 : decode cX9_drive 15 = .ok (.goto 4, 3) := by decide +kernel
theorem dX9_drive_18 : decode cX9_drive 18 = .ok (.iconst 0, 1) := by decide +kernel
theorem dX9_drive_19 : decode cX9_drive 19 = .ok (.istore_n 2, 1) := by decide +kernel
theorem dX9_drive_20 : decode cX9_drive 20 = .ok (.aload_n 0, 1) := by decide +kernel
theorem dX9_drive_21 : decode cX9_drive 21 = .ok (.iconst 2, 1) := by decide +kernel
theorem dX9_drive_22 : decode cX9_drive 22 = .ok (.iload_n 2, 1) := by decide +kernel
theorem dX9_drive_23 : decode cX9_drive 23 = .ok (.imul, 1) := by decide +kernel
theorem dX9_drive_24 : decode cX9_drive 24 = .ok (.putfield 142, 3) := by decide +kernel
theorem dX9_drive_27 : decode cX9_drive 27 = .ok (.aload_n 0, 1) := by decide +kernel
theorem dX9_drive_28 : decode cX9_drive 28 = .ok (.dup, 1) := by decide +kernel
theorem dX9_drive_29 : decode cX9_drive 29 = .ok (.getfield 145, 3) := by decide +kernel
theorem dX9_drive_32 : decode cX9_drive 32 = .ok (.aload_n 0, 1) := by decide +kernel
theorem dX9_drive_33 : decode cX9_drive 33 = .ok (.getfield 142, 3) := by decide +kernel
theorem dX9_drive_36 : decode cX9_drive 36 = .ok (.iadd, 1) := by decide +kernel
theorem dX9_drive_37 : decode cX9_drive 37 = .ok (.putfield 145, 3) := by decide +kernel
theorem dX9_drive_40 : decode cX9_drive 40 = .ok (.aload_n 0, 1) := by decide +kernel
theorem dX9_drive_41 : decode cX9_drive 41 = .ok (.dup, 1) := by decide +kernel
theorem dX9_drive_42 : decode cX9_drive 42 = .ok (.getfield 148, 3) := by decide +kernel
theorem dX9_drive_45 : decode cX9_drive 45 = .ok (.iload_n 2, 1) := by decide +kernel
theorem dX9_drive_46 : decode cX9_drive 46 = .ok (.iadd, 1) := by decide +kernel
theorem dX9_drive_47 : decode cX9_drive 47 = .ok (.putfield 148, 3) := by decide +kernel
theorem dX9_drive_50 : decode cX9_drive 50 = .ok (.aload_n 0, 1) := by decide +kernel
theorem dX9_drive_51 : decode cX9_drive 51 = .ok (.dup, 1) := by decide +kernel
theorem dX9_drive_52 : decode cX9_drive 52 = .ok (.getfield 151, 3) := by decide +kernel
theorem dX9_drive_55 : decode cX9_drive 55 = .ok (.iload_n 1, 1) := by decide +kernel
theorem dX9_drive_56 : decode cX9_drive 56 = .ok (.iload_n 2, 1) := by decide +kernel
theorem dX9_drive_57 : decode cX9_drive 57 = .ok (.isub, 1) := by decide +kernel
theorem dX9_drive_58 : decode cX9_drive 58 = .ok (.iadd, 1) := by decide +kernel
theorem dX9_drive_59 : decode cX9_drive 59 = .ok (.putfield 151, 3) := by decide +kernel
theorem dX9_drive_62 : decode cX9_drive 62 = .ok (.aload_n 0, 1) := by decide +kernel
theorem dX9_drive_63 : decode cX9_drive 63 = .ok (.getfield 44, 3) := by decide +kernel
theorem dX9_drive_66 : decode cX9_drive 66 = .ok (.ifCond .le 18, 3) := by decide +kernel
theorem dX9_drive_69 : decode cX9_drive 69 = .ok (.iload_n 1, 1) := by decide +kernel
theorem dX9_drive_70 : decode cX9_drive 70 = .ok (.iconst 2, 1) := by decide +kernel
theorem dX9_drive_71 : decode cX9_drive 71 = .ok (.aload_n 0, 1) := by decide +kernel
theorem dX9_drive_72 : decode cX9_drive 72 = .ok (.getfield 44, 3) := by decide +kernel
theorem dX9_drive_75 : decode cX9_drive 75 = .ok (.imul, 1) := by decide +kernel
theorem dX9_drive_76 : decode cX9_drive 76 = .ok (.if_icmp .le 8, 3) := by decide +kernel
theorem dX9_drive_79 : decode cX9_drive 79 = .ok (.aload_n 0, 1) := by decide +kernel
theorem dX9_drive_80 : decode cX9_drive 80 = .ok (.iconst 0, 1) := by decide +kernel
theorem dX9_drive_81 : decode cX9_drive 81 = .ok (.putfield 48, 3) := by decide +kernel
theorem dX9_drive_84 : decode cX9_drive 84 = .ok (.return_, 1) := by decide +kernel
theorem dX9_inject_0 : decode cX9_inject 0 = .ok (.iload_n 2, 1) := by decide +kernel
theorem dX9_inject_1 : decode cX9_inject 1 = .ok (.ifCond .ne 11, 3) := by decide +kernel
theorem dX9_inject_4 : decode cX9_inject 4 = .ok (.iconst 4, 1) := by decide +kernel
theorem dX9_inject_5 : decode cX9_inject 5 = .ok (.aload_n 1, 1) := by decide +kernel
theorem dX9_inject_6 : decode cX9_inject 6 = .ok (.iconst 2, 1) := by decide +kernel
theorem dX9_inject_7 : decode cX9_inject 7 = .ok (.iaload, 1) := by decide +kernel
theorem dX9_inject_8 : decode cX9_inject 8 = .ok (.imul, 1) := by decide +kernel
theorem dX9_inject_9 : decode cX9_inject 9 = .ok (.goto 17, 3) := by decide +kernel
theorem dX9_inject_12 : decode cX9_inject 12 = .ok (.iload_n 2, 1) := by decide +kernel
theorem dX9_inject_13 : decode cX9_inject 13 = .ok (.iconst 1, 1) := by decide +kernel
theorem dX9_inject_14 : decode cX9_inject 14 = .ok (.if_icmp .ne 11, 3) := by decide +kernel
theorem dX9_inject_17 : decode cX9_inject 17 = .ok (.iconst 2, 1) := by decide +kernel
theorem dX9_inject_18 : decode cX9_inject 18 = .ok (.aload_n 1, 1) := by decide +kernel
theorem dX9_inject_19 : decode cX9_inject 19 = .ok (.iconst 2, 1) := by decide +kernel
theorem dX9_inject_20 : decode cX9_inject 20 = .ok (.iaload, 1) := by decide +kernel
theorem dX9_inject_21 : decode cX9_inject 21 = .ok (.imul, 1) := by decide +kernel
theorem dX9_inject_22 : decode cX9_inject 22 = .ok (.goto 4, 3) := by decide +kernel
theorem dX9_inject_25 : decode cX9_inject 25 = .ok (.iconst 0, 1) := by decide +kernel
theorem dX9_inject_26 : decode cX9_inject 26 = .ok (.istore_n 3, 1) := by decide +kernel
theorem dX9_inject_27 : decode cX9_inject 27 = .ok (.aload_n 0, 1) := by decide +kernel
theorem dX9_inject_28 : decode cX9_inject 28 = .ok (.getfield 11, 3) := by decide +kernel
theorem dX9_inject_31 : decode cX9_inject 31 = .ok (.aload_n 1, 1) := by decide +kernel
theorem dX9_inject_32 : decode cX9_inject 32 = .ok (.iconst 0, 1) := by decide +kernel
theorem dX9_inject_33 : decode cX9_inject 33 = .ok (.iaload, 1) := by decide +kernel
theorem dX9_inject_34 : decode cX9_inject 34 = .ok (.aaload, 1) := by decide +kernel
theorem dX9_inject_35 : decode cX9_inject 35 = .ok (.astore 4, 2) := by decide +kernel
theorem dX9_inject_37 : decode cX9_inject 37 = .ok (.aload 4, 2) := by decide +kernel
theorem dX9_inject_39 : decode cX9_inject 39 = .ok (.invokestatic 128, 3) := by decide +kernel
theorem dX9_inject_42 : decode cX9_inject 42 = .ok (.istore 5, 2) := by decide +kernel
theorem dX9_inject_44 : decode cX9_inject 44 = .ok (.aload_n 0, 1) := by decide +kernel
theorem dX9_inject_45 : decode cX9_inject 45 = .ok (.iload_n 3, 1) := by decide +kernel
theorem dX9_inject_46 : decode cX9_inject 46 = .ok (.aload_n 0, 1) := by decide +kernel
theorem dX9_inject_47 : decode cX9_inject 47 = .ok (.getfield 25, 3) := by decide +kernel
theorem dX9_inject_50 : decode cX9_inject 50 = .ok (.iconst 0, 1) := by decide +kernel
theorem dX9_inject_51 : decode cX9_inject 51 = .ok (.iaload, 1) := by decide +kernel
theorem dX9_inject_52 : decode cX9_inject 52 = .ok (.invokestatic 84, 3) := by decide +kernel
theorem dX9_inject_55 : decode cX9_inject 55 = .ok (.invokevirtual 115, 3) := by decide +kernel
theorem dX9_inject_58 : decode cX9_inject 58 = .ok (.aload_n 0, 1) := by decide +kernel
theorem dX9_inject_59 : decode cX9_inject 59 = .ok (.aload 4, 2) := by decide +kernel
theorem dX9_inject_61 : decode cX9_inject 61 = .ok (.invokevirtual 139, 3) := by decide +kernel
theorem dX9_inject_64 : decode cX9_inject 64 = .ok (.aload_n 1, 1) := by decide +kernel
theorem dX9_inject_65 : decode cX9_inject 65 = .ok (.iconst 5, 1) := by decide +kernel
theorem dX9_inject_66 : decode cX9_inject 66 = .ok (.aload_n 0, 1) := by decide +kernel
theorem dX9_inject_67 : decode cX9_inject 67 = .ok (.getfield 52, 3) := by decide +kernel
theorem dX9_inject_70 : decode cX9_inject 70 = .ok (.iconst 0, 1) := by decide +kernel
theorem dX9_inject_71 : decode cX9_inject 71 = .ok (.iaload, 1) := by decide +kernel
theorem dX9_inject_72 : decode cX9_inject 72 = .ok (.iastore, 1) := by decide +kernel
theorem dX9_inject_73 : decode cX9_inject 73 = .ok (.aload_n 1, 1) := by decide +kernel
theorem dX9_inject_74 : decode cX9_inject 74 = .ok (.bipush 7, 2) := by decide +kernel
theorem dX9_inject_76 : decode cX9_inject 76 = .ok (.aload_n 0, 1) := by decide +kernel
theorem dX9_inject_77 : decode cX9_inject 77 = .ok (.getfield 52, 3) := by decide +kernel
theorem dX9_inject_80 : decode cX9_inject 80 = .ok (.iconst 3, 1) := by decide +kernel
theorem dX9_inject_81 : decode cX9_inject 81 = .ok (.iaload, 1) := by decide +kernel
theorem dX9_inject_82 : decode cX9_inject 82 = .ok (.iastore, 1) := by decide +kernel
theorem dX9_inject_83 : decode cX9_inject 83 = .ok (.aload_n 1, 1) := by decide +kernel
theorem dX9_inject_84 : decode cX9_inject 84 = .ok (.bipush 8, 2) := by decide +kernel
theorem dX9_inject_86 : decode cX9_inject 86 = .ok (.dup2, 1) := by decide +kernel
theorem dX9_inject_87 : decode cX9_inject 87 = .ok (.iaload, 1) := by decide +kernel
theorem dX9_inject_88 : decode cX9_inject 88 = .ok (.aload_n 0, 1) := by decide +kernel
theorem dX9_inject_89 : decode cX9_inject 89 = .ok (.getfield 52, 3) := by decide +kernel
theorem dX9_inject_92 : decode cX9_inject 92 = .ok (.iconst 0, 1) := by decide +kernel
theorem dX9_inject_93 : decode cX9_inject 93 = .ok (.iaload, 1) := by decide +kernel
theorem dX9_inject_94 : decode cX9_inject 94 = .ok (.iadd, 1) := by decide +kernel
theorem dX9_inject_95 : decode cX9_inject 95 = .ok (.iastore, 1) := by decide +kernel
theorem dX9_inject_96 : decode cX9_inject 96 = .ok (.aload 4, 2) := by decide +kernel
theorem dX9_inject_98 : decode cX9_inject 98 = .ok (.invokestatic 128, 3) := by decide +kernel
theorem dX9_inject_101 : decode cX9_inject 101 = .ok (.iload 5, 2) := by decide +kernel
theorem dX9_inject_103 : decode cX9_inject 103 = .ok (.isub, 1) := by decide +kernel
theorem dX9_inject_104 : decode cX9_inject 104 = .ok (.istore 6, 2) := by decide +kernel
theorem dX9_inject_106 : decode cX9_inject 106 = .ok (.iload 6, 2) := by decide +kernel
theorem dX9_inject_108 : decode cX9_inject 108 = .ok (.iconst 5, 1) := by decide +kernel
theorem dX9_inject_109 : decode cX9_inject 109 = .ok (.if_icmp .lt 8, 3) := by decide +kernel
theorem dX9_inject_112 : decode cX9_inject 112 = .ok (.iload 6, 2) := by decide +kernel
theorem dX9_inject_114 : decode cX9_inject 114 = .ok (.goto 4, 3) := by decide +kernel
theorem dX9_inject_117 : decode cX9_inject 117 = .ok (.iconst 0, 1) := by decide +kernel
theorem dX9_inject_118 : decode cX9_inject 118 = .ok (.ireturn, 1) := by decide +kernel
theorem dX9_flow_0 : decode cX9_flow 0 = .ok (.aload_n 0, 1) := by decide +kernel
theorem dX9_flow_1 : decode cX9_flow 1 = .ok (.aload_n 0, 1) := by decide +kernel
theorem dX9_flow_2 : decode cX9_flow 2 = .ok (.getfield 11, 3) := by decide +kernel
theorem dX9_flow_5 : decode cX9_flow 5 = .ok (.aload_n 1, 1) := by decide +kernel
theorem dX9_flow_6 : decode cX9_flow 6 = .ok (.iconst 4, 1) := by decide +kernel
theorem dX9_flow_7 : decode cX9_flow 7 = .ok (.iaload, 1) := by decide +kernel
theorem dX9_flow_8 : decode cX9_flow 8 = .ok (.aaload, 1) := by decide +kernel
theorem dX9_flow_9 : decode cX9_flow 9 = .ok (.iconst 0, 1) := by decide +kernel
theorem dX9_flow_10 : decode cX9_flow 10 = .ok (.aload_n 0, 1) := by decide +kernel
theorem dX9_flow_11 : decode cX9_flow 11 = .ok (.getfield 11, 3) := by decide +kernel
theorem dX9_flow_14 : decode cX9_flow 14 = .ok (.aload_n 1, 1) := by decide +kernel
theorem dX9_flow_15 : decode cX9_flow 15 = .ok (.iconst 4, 1) := by decide +kernel
theorem dX9_flow_16 : decode cX9_flow 16 = .ok (.iaload, 1) := by decide +kernel
theorem dX9_flow_17 : decode cX9_flow 17 = .ok (.aaload, 1) := by decide +kernel
theorem dX9_flow_18 : decode cX9_flow 18 = .ok (.invokestatic 128, 3) := by decide +kernel
theorem dX9_flow_21 : decode cX9_flow 21 = .ok (.aload_n 1, 1) := by decide +kernel
theorem dX9_flow_22 : decode cX9_flow 22 = .ok (.iconst 5, 1) := by decide +kernel
theorem dX9_flow_23 : decode cX9_flow 23 = .ok (.iaload, 1) := by decide +kernel
theorem dX9_flow_24 : decode cX9_flow 24 = .ok (.isub, 1) := by decide +kernel
theorem dX9_flow_25 : decode cX9_flow 25 = .ok (.invokestatic 109, 3) := by decide +kernel
theorem dX9_flow_28 : decode cX9_flow 28 = .ok (.iconst 5, 1) := by decide +kernel
theorem dX9_flow_29 : decode cX9_flow 29 = .ok (.idiv, 1) := by decide +kernel
theorem dX9_flow_30 : decode cX9_flow 30 = .ok (.invokevirtual 135, 3) := by decide +kernel
theorem dX9_flow_33 : decode cX9_flow 33 = .ok (.iconst 0, 1) := by decide +kernel
theorem dX9_flow_34 : decode cX9_flow 34 = .ok (.istore_n 2, 1) := by decide +kernel
theorem dX9_flow_35 : decode cX9_flow 35 = .ok (.iload_n 2, 1) := by decide +kernel
theorem dX9_flow_36 : decode cX9_flow 36 = .ok (.iconst 4, 1) := by decide +kernel
theorem dX9_flow_37 : decode cX9_flow 37 = .ok (.if_icmp .ge 24, 3) := by decide +kernel
theorem dX9_flow_40 : decode cX9_flow 40 = .ok (.aload_n 0, 1) := by decide +kernel
theorem dX9_flow_41 : decode cX9_flow 41 = .ok (.getfield 35, 3) := by decide +kernel
theorem dX9_flow_44 : decode cX9_flow 44 = .ok (.iload_n 2, 1) := by decide +kernel
theorem dX9_flow_45 : decode cX9_flow 45 = .ok (.dup2, 1) := by decide +kernel
theorem dX9_flow_46 : decode cX9_flow 46 = .ok (.iaload, 1) := by decide +kernel
theorem dX9_flow_47 : decode cX9_flow 47 = .ok (.aload_n 0, 1) := by decide +kernel
theorem dX9_flow_48 : decode cX9_flow 48 = .ok (.getfield 52, 3) := by decide +kernel
theorem dX9_flow_51 : decode cX9_flow 51 = .ok (.iload_n 2, 1) := by decide +kernel
theorem dX9_flow_52 : decode cX9_flow 52 = .ok (.iaload, 1) := by decide +kernel
theorem dX9_flow_53 : decode cX9_flow 53 = .ok (.iadd, 1) := by decide +kernel
theorem dX9_flow_54 : decode cX9_flow 54 = .ok (.iastore, 1) := by decide +kernel
theorem dX9_flow_55 : decode cX9_flow 55 = .ok (.iinc 2 1, 3) := by decide +kernel
theorem dX9_flow_58 : decode cX9_flow 58 = .ok (.goto (-23), 3) := by decide +kernel
theorem dX9_flow_61 : decode cX9_flow 61 = .ok (.aload_n 1, 1) := by decide +kernel
theorem dX9_flow_62 : decode cX9_flow 62 = .ok (.iconst 0, 1) := by decide +kernel
theorem dX9_flow_63 : decode cX9_flow 63 = .ok (.aload_n 0, 1) := by decide +kernel
theorem dX9_flow_64 : decode cX9_flow 64 = .ok (.getfield 52, 3) := by decide +kernel
theorem dX9_flow_67 : decode cX9_flow 67 = .ok (.iconst 0, 1) := by decide +kernel
theorem dX9_flow_68 : decode cX9_flow 68 = .ok (.iaload, 1) := by decide +kernel
theorem dX9_flow_69 : decode cX9_flow 69 = .ok (.iastore, 1) := by decide +kernel
theorem dX9_flow_70 : decode cX9_flow 70 = .ok (.aload_n 1, 1) := by decide +kernel
theorem dX9_flow_71 : decode cX9_flow 71 = .ok (.iconst 1, 1) := by decide +kernel
theorem dX9_flow_72 : decode cX9_flow 72 = .ok (.iconst 0, 1) := by decide +kernel
theorem dX9_flow_73 : decode cX9_flow 73 = .ok (.aload_n 1, 1) := by decide +kernel
theorem dX9_flow_74 : decode cX9_flow 74 = .ok (.bipush 6, 2) := by decide +kernel
theorem dX9_flow_76 : decode cX9_flow 76 = .ok (.iaload, 1) := by decide +kernel
theorem dX9_flow_77 : decode cX9_flow 77 = .ok (.aload_n 0, 1) := by decide +kernel
theorem dX9_flow_78 : decode cX9_flow 78 = .ok (.getfield 52, 3) := by decide +kernel
theorem dX9_flow_81 : decode cX9_flow 81 = .ok (.iconst 0, 1) := by decide +kernel
theorem dX9_flow_82 : decode cX9_flow 82 = .ok (.iaload, 1) := by decide +kernel
theorem dX9_flow_83 : decode cX9_flow 83 = .ok (.isub, 1) := by decide +kernel
theorem dX9_flow_84 : decode cX9_flow 84 = .ok (.invokestatic 109, 3) := by decide +kernel
theorem dX9_flow_87 : decode cX9_flow 87 = .ok (.iastore, 1) := by decide +kernel
theorem dX9_flow_88 : decode cX9_flow 88 = .ok (.aload_n 1, 1) := by decide +kernel
theorem dX9_flow_89 : decode cX9_flow 89 = .ok (.iconst 2, 1) := by decide +kernel
theorem dX9_flow_90 : decode cX9_flow 90 = .ok (.dup2, 1) := by decide +kernel
theorem dX9_flow_91 : decode cX9_flow 91 = .ok (.iaload, 1) := by decide +kernel
theorem dX9_flow_92 : decode cX9_flow 92 = .ok (.aload_n 1, 1) := by decide +kernel
theorem dX9_flow_93 : decode cX9_flow 93 = .ok (.iconst 0, 1) := by decide +kernel
theorem dX9_flow_94 : decode cX9_flow 94 = .ok (.iaload, 1) := by decide +kernel
theorem dX9_flow_95 : decode cX9_flow 95 = .ok (.iadd, 1) := by decide +kernel
theorem dX9_flow_96 : decode cX9_flow 96 = .ok (.iastore, 1) := by decide +kernel
theorem dX9_flow_97 : decode cX9_flow 97 = .ok (.aload_n 1, 1) := by decide +kernel
theorem dX9_flow_98 : decode cX9_flow 98 = .ok (.iconst 3, 1) := by decide +kernel
theorem dX9_flow_99 : decode cX9_flow 99 = .ok (.dup2, 1) := by decide +kernel
theorem dX9_flow_100 : decode cX9_flow 100 = .ok (.iaload, 1) := by decide +kernel
theorem dX9_flow_101 : decode cX9_flow 101 = .ok (.aload_n 1, 1) := by decide +kernel
theorem dX9_flow_102 : decode cX9_flow 102 = .ok (.iconst 1, 1) := by decide +kernel
theorem dX9_flow_103 : decode cX9_flow 103 = .ok (.iaload, 1) := by decide +kernel
theorem dX9_flow_104 : decode cX9_flow 104 = .ok (.iadd, 1) := by decide +kernel
theorem dX9_flow_105 : decode cX9_flow 105 = .ok (.iastore, 1) := by decide +kernel
theorem dX9_flow_106 : decode cX9_flow 106 = .ok (.return_, 1) := by decide +kernel
theorem dX9_share_0 : decode cX9_share 0 = .ok (.iconst 0, 1) := by decide +kernel
theorem dX9_share_1 : decode cX9_share 1 = .ok (.istore_n 2, 1) := by decide +kernel
theorem dX9_share_2 : decode cX9_share 2 = .ok (.iconst 0, 1) := by decide +kernel
theorem dX9_share_3 : decode cX9_share 3 = .ok (.istore_n 3, 1) := by decide +kernel
theorem dX9_share_4 : decode cX9_share 4 = .ok (.iload_n 3, 1) := by decide +kernel
theorem dX9_share_5 : decode cX9_share 5 = .ok (.aload_n 0, 1) := by decide +kernel
theorem dX9_share_6 : decode cX9_share 6 = .ok (.getfield 60, 3) := by decide +kernel
theorem dX9_share_9 : decode cX9_share 9 = .ok (.if_icmp .ge 36, 3) := by decide +kernel
theorem dX9_share_12 : decode cX9_share 12 = .ok (.iload_n 2, 1) := by decide +kernel
theorem dX9_share_13 : decode cX9_share 13 = .ok (.aload_n 0, 1) := by decide +kernel
theorem dX9_share_14 : decode cX9_share 14 = .ok (.getfield 11, 3) := by decide +kernel
theorem dX9_share_17 : decode cX9_share 17 = .ok (.iload_n 3, 1) := by decide +kernel
theorem dX9_share_18 : decode cX9_share 18 = .ok (.aaload, 1) := by decide +kernel
theorem dX9_share_19 : decode cX9_share 19 = .ok (.iconst 5, 1) := by decide +kernel
theorem dX9_share_20 : decode cX9_share 20 = .ok (.iaload, 1) := by decide +kernel
theorem dX9_share_21 : decode cX9_share 21 = .ok (.iload_n 1, 1) := by decide +kernel
theorem dX9_share_22 : decode cX9_share 22 = .ok (.if_icmp .ne 14, 3) := by decide +kernel
theorem dX9_share_25 : decode cX9_share 25 = .ok (.aload_n 0, 1) := by decide +kernel
theorem dX9_share_26 : decode cX9_share 26 = .ok (.getfield 11, 3) := by decide +kernel
theorem dX9_share_29 : decode cX9_share 29 = .ok (.iload_n 3, 1) := by decide +kernel
theorem dX9_share_30 : decode cX9_share 30 = .ok (.aaload, 1) := by decide +kernel
theorem dX9_share_31 : decode cX9_share 31 = .ok (.iconst 4, 1) := by decide +kernel
theorem dX9_share_32 : decode cX9_share 32 = .ok (.iaload, 1) := by decide +kernel
theorem dX9_share_33 : decode cX9_share 33 = .ok (.goto 4, 3) := by decide +kernel
theorem dX9_share_36 : decode cX9_share 36 = .ok (.iconst 0, 1) := by decide +kernel
theorem dX9_share_37 : decode cX9_share 37 = .ok (.iadd, 1) := by decide +kernel
theorem dX9_share_38 : decode cX9_share 38 = .ok (.istore_n 2, 1) := by decide +kernel
theorem dX9_share_39 : decode cX9_share 39 = .ok (.iinc 3 1, 3) := by decide +kernel
theorem dX9_share_42 : decode cX9_share 42 = .ok (.goto (-38), 3) := by decide +kernel
theorem dX9_share_45 : decode cX9_share 45 = .ok (.iload_n 2, 1) := by decide +kernel
theorem dX9_share_46 : decode cX9_share 46 = .ok (.ireturn, 1) := by decide +kernel
theorem dX9_pay_0 : decode cX9_pay 0 = .ok (.iconst 3, 1) := by decide +kernel
theorem dX9_pay_1 : decode cX9_pay 1 = .ok (.aload_n 0, 1) := by decide +kernel
theorem dX9_pay_2 : decode cX9_pay 2 = .ok (.getfield 142, 3) := by decide +kernel
theorem dX9_pay_5 : decode cX9_pay 5 = .ok (.imul, 1) := by decide +kernel
theorem dX9_pay_6 : decode cX9_pay 6 = .ok (.aload_n 0, 1) := by decide +kernel
theorem dX9_pay_7 : decode cX9_pay 7 = .ok (.getfield 112, 3) := by decide +kernel
theorem dX9_pay_10 : decode cX9_pay 10 = .ok (.bipush 100, 2) := by decide +kernel
theorem dX9_pay_12 : decode cX9_pay 12 = .ok (.idiv, 1) := by decide +kernel
theorem dX9_pay_13 : decode cX9_pay 13 = .ok (.iadd, 1) := by decide +kernel
theorem dX9_pay_14 : decode cX9_pay 14 = .ok (.istore_n 1, 1) := by decide +kernel
theorem dX9_pay_15 : decode cX9_pay 15 = .ok (.aload_n 0, 1) := by decide +kernel
theorem dX9_pay_16 : decode cX9_pay 16 = .ok (.iconst 0, 1) := by decide +kernel
theorem dX9_pay_17 : decode cX9_pay 17 = .ok (.invokevirtual 154, 3) := by decide +kernel
theorem dX9_pay_20 : decode cX9_pay 20 = .ok (.aload_n 0, 1) := by decide +kernel
theorem dX9_pay_21 : decode cX9_pay 21 = .ok (.iconst 1, 1) := by decide +kernel
theorem dX9_pay_22 : decode cX9_pay 22 = .ok (.invokevirtual 154, 3) := by decide +kernel
theorem dX9_pay_25 : decode cX9_pay 25 = .ok (.iadd, 1) := by decide +kernel
theorem dX9_pay_26 : decode cX9_pay 26 = .ok (.istore_n 2, 1) := by decide +kernel
theorem dX9_pay_27 : decode cX9_pay 27 = .ok (.iload_n 2, 1) := by decide +kernel
theorem dX9_pay_28 : decode cX9_pay 28 = .ok (.ifCond .ne 7, 3) := by decide +kernel
theorem dX9_pay_31 : decode cX9_pay 31 = .ok (.iconst 0, 1) := by decide +kernel
theorem dX9_pay_32 : decode cX9_pay 32 = .ok (.goto 12, 3) := by decide +kernel
theorem dX9_pay_35 : decode cX9_pay 35 = .ok (.iload_n 1, 1) := by decide +kernel
theorem dX9_pay_36 : decode cX9_pay 36 = .ok (.aload_n 0, 1) := by decide +kernel
theorem dX9_pay_37 : decode cX9_pay 37 = .ok (.iconst 0, 1) := by decide +kernel
theorem dX9_pay_38 : decode cX9_pay 38 = .ok (.invokevirtual 154, 3) := by decide +kernel
theorem dX9_pay_41 : decode cX9_pay 41 = .ok (.imul, 1) := by decide +kernel
theorem dX9_pay_42 : decode cX9_pay 42 = .ok (.iload_n 2, 1) := by decide +kernel
theorem dX9_pay_43 : decode cX9_pay 43 = .ok (.idiv, 1) := by decide +kernel
theorem dX9_pay_44 : decode cX9_pay 44 = .ok (.istore_n 3, 1) := by decide +kernel
theorem dX9_pay_45 : decode cX9_pay 45 = .ok (.aload_n 0, 1) := by decide +kernel
theorem dX9_pay_46 : decode cX9_pay 46 = .ok (.getfield 38, 3) := by decide +kernel
theorem dX9_pay_49 : decode cX9_pay 49 = .ok (.iconst 0, 1) := by decide +kernel
theorem dX9_pay_50 : decode cX9_pay 50 = .ok (.dup2, 1) := by decide +kernel
theorem dX9_pay_51 : decode cX9_pay 51 = .ok (.iaload, 1) := by decide +kernel
theorem dX9_pay_52 : decode cX9_pay 52 = .ok (.iload_n 3, 1) := by decide +kernel
theorem dX9_pay_53 : decode cX9_pay 53 = .ok (.iadd, 1) := by decide +kernel
theorem dX9_pay_54 : decode cX9_pay 54 = .ok (.iastore, 1) := by decide +kernel
theorem dX9_pay_55 : decode cX9_pay 55 = .ok (.aload_n 0, 1) := by decide +kernel
theorem dX9_pay_56 : decode cX9_pay 56 = .ok (.getfield 38, 3) := by decide +kernel
theorem dX9_pay_59 : decode cX9_pay 59 = .ok (.iconst 1, 1) := by decide +kernel
theorem dX9_pay_60 : decode cX9_pay 60 = .ok (.dup2, 1) := by decide +kernel
theorem dX9_pay_61 : decode cX9_pay 61 = .ok (.iaload, 1) := by decide +kernel
theorem dX9_pay_62 : decode cX9_pay 62 = .ok (.iload_n 1, 1) := by decide +kernel
theorem dX9_pay_63 : decode cX9_pay 63 = .ok (.iload_n 3, 1) := by decide +kernel
theorem dX9_pay_64 : decode cX9_pay 64 = .ok (.isub, 1) := by decide +kernel
theorem dX9_pay_65 : decode cX9_pay 65 = .ok (.iadd, 1) := by decide +kernel
theorem dX9_pay_66 : decode cX9_pay 66 = .ok (.iastore, 1) := by decide +kernel
theorem dX9_pay_67 : decode cX9_pay 67 = .ok (.iconst 0, 1) := by decide +kernel
theorem dX9_pay_68 : decode cX9_pay 68 = .ok (.istore 4, 2) := by decide +kernel
theorem dX9_pay_70 : decode cX9_pay 70 = .ok (.iload 4, 2) := by decide +kernel
theorem dX9_pay_72 : decode cX9_pay 72 = .ok (.aload_n 0, 1) := by decide +kernel
theorem dX9_pay_73 : decode cX9_pay 73 = .ok (.getfield 69, 3) := by decide +kernel
theorem dX9_pay_76 : decode cX9_pay 76 = .ok (.if_icmp .ge 69, 3) := by decide +kernel
theorem dX9_pay_79 : decode cX9_pay 79 = .ok (.aload_n 0, 1) := by decide +kernel
theorem dX9_pay_80 : decode cX9_pay 80 = .ok (.getfield 11, 3) := by decide +kernel
theorem dX9_pay_83 : decode cX9_pay 83 = .ok (.aload_n 0, 1) := by decide +kernel
theorem dX9_pay_84 : decode cX9_pay 84 = .ok (.getfield 22, 3) := by decide +kernel
theorem dX9_pay_87 : decode cX9_pay 87 = .ok (.iload 4, 2) := by decide +kernel
theorem dX9_pay_89 : decode cX9_pay 89 = .ok (.aaload, 1) := by decide +kernel
theorem dX9_pay_90 : decode cX9_pay 90 = .ok (.iconst 4, 1) := by decide +kernel
theorem dX9_pay_91 : decode cX9_pay 91 = .ok (.iaload, 1) := by decide +kernel
theorem dX9_pay_92 : decode cX9_pay 92 = .ok (.aaload, 1) := by decide +kernel
theorem dX9_pay_93 : decode cX9_pay 93 = .ok (.iconst 5, 1) := by decide +kernel
theorem dX9_pay_94 : decode cX9_pay 94 = .ok (.iaload, 1) := by decide +kernel
theorem dX9_pay_95 : decode cX9_pay 95 = .ok (.istore 5, 2) := by decide +kernel
theorem dX9_pay_97 : decode cX9_pay 97 = .ok (.aload_n 0, 1) := by decide +kernel
theorem dX9_pay_98 : decode cX9_pay 98 = .ok (.getfield 38, 3) := by decide +kernel
theorem dX9_pay_101 : decode cX9_pay 101 = .ok (.iload 5, 2) := by decide +kernel
theorem dX9_pay_103 : decode cX9_pay 103 = .ok (.dup2, 1) := by decide +kernel
theorem dX9_pay_104 : decode cX9_pay 104 = .ok (.iaload, 1) := by decide +kernel
theorem dX9_pay_105 : decode cX9_pay 105 = .ok (.iconst 2, 1) := by decide +kernel
theorem dX9_pay_106 : decode cX9_pay 106 = .ok (.aload_n 0, 1) := by decide +kernel
theorem dX9_pay_107 : decode cX9_pay 107 = .ok (.getfield 22, 3) := by decide +kernel
theorem dX9_pay_110 : decode cX9_pay 110 = .ok (.iload 4, 2) := by decide +kernel
theorem dX9_pay_112 : decode cX9_pay 112 = .ok (.aaload, 1) := by decide +kernel
theorem dX9_pay_113 : decode cX9_pay 113 = .ok (.iconst 1, 1) := by decide +kernel
theorem dX9_pay_114 : decode cX9_pay 114 = .ok (.iaload, 1) := by decide +kernel
theorem dX9_pay_115 : decode cX9_pay 115 = .ok (.imul, 1) := by decide +kernel
theorem dX9_pay_116 : decode cX9_pay 116 = .ok (.isub, 1) := by decide +kernel
theorem dX9_pay_117 : decode cX9_pay 117 = .ok (.iastore, 1) := by decide +kernel
theorem dX9_pay_118 : decode cX9_pay 118 = .ok (.aload_n 0, 1) := by decide +kernel
theorem dX9_pay_119 : decode cX9_pay 119 = .ok (.getfield 38, 3) := by decide +kernel
theorem dX9_pay_122 : decode cX9_pay 122 = .ok (.iconst 1, 1) := by decide +kernel
theorem dX9_pay_123 : decode cX9_pay 123 = .ok (.iload 5, 2) := by decide +kernel
theorem dX9_pay_125 : decode cX9_pay 125 = .ok (.isub, 1) := by decide +kernel
theorem dX9_pay_126 : decode cX9_pay 126 = .ok (.dup2, 1) := by decide +kernel
theorem dX9_pay_127 : decode cX9_pay 127 = .ok (.iaload, 1) := by decide +kernel
theorem dX9_pay_128 : decode cX9_pay 128 = .ok (.aload_n 0, 1) := by decide +kernel
theorem dX9_pay_129 : decode cX9_pay 129 = .ok (.getfield 22, 3) := by decide +kernel
theorem dX9_pay_132 : decode cX9_pay 132 = .ok (.iload 4, 2) := by decide +kernel
theorem dX9_pay_134 : decode cX9_pay 134 = .ok (.aaload, 1) := by decide +kernel
theorem dX9_pay_135 : decode cX9_pay 135 = .ok (.iconst 1, 1) := by decide +kernel
theorem dX9_pay_136 : decode cX9_pay 136 = .ok (.iaload, 1) := by decide +kernel
theorem dX9_pay_137 : decode cX9_pay 137 = .ok (.isub, 1) := by decide +kernel
theorem dX9_pay_138 : decode cX9_pay 138 = .ok (.iastore, 1) := by decide +kernel
theorem dX9_pay_139 : decode cX9_pay 139 = .ok (.iinc 4 1, 3) := by decide +kernel
theorem dX9_pay_142 : decode cX9_pay 142 = .ok (.goto (-72), 3) := by decide +kernel
theorem dX9_pay_145 : decode cX9_pay 145 = .ok (.return_, 1) := by decide +kernel
theorem dX9_run_0 : decode cX9_run 0 = .ok (.iconst 0, 1) := by decide +kernel
theorem dX9_run_1 : decode cX9_run 1 = .ok (.istore_n 2, 1) := by decide +kernel
theorem dX9_run_2 : decode cX9_run 2 = .ok (.iconst 0, 1) := by decide +kernel
theorem dX9_run_3 : decode cX9_run 3 = .ok (.istore_n 3, 1) := by decide +kernel
theorem dX9_run_4 : decode cX9_run 4 = .ok (.iload_n 3, 1) := by decide +kernel
theorem dX9_run_5 : decode cX9_run 5 = .ok (.iload_n 1, 1) := by decide +kernel
theorem dX9_run_6 : decode cX9_run 6 = .ok (.if_icmp .ge 20, 3) := by decide +kernel
theorem dX9_run_9 : decode cX9_run 9 = .ok (.aload_n 0, 1) := by decide +kernel
theorem dX9_run_10 : decode cX9_run 10 = .ok (.invokevirtual 157, 3) := by decide +kernel
theorem dX9_run_13 : decode cX9_run 13 = .ok (.iload_n 2, 1) := by decide +kernel
theorem dX9_run_14 : decode cX9_run 14 = .ok (.aload_n 0, 1) := by decide +kernel
theorem dX9_run_15 : decode cX9_run 15 = .ok (.getfield 142, 3) := by decide +kernel
theorem dX9_run_18 : decode cX9_run 18 = .ok (.iadd, 1) := by decide +kernel
theorem dX9_run_19 : decode cX9_run 19 = .ok (.istore_n 2, 1) := by decide +kernel
theorem dX9_run_20 : decode cX9_run 20 = .ok (.iinc 3 1, 3) := by decide +kernel
theorem dX9_run_23 : decode cX9_run 23 = .ok (.goto (-19), 3) := by decide +kernel
theorem dX9_run_26 : decode cX9_run 26 = .ok (.iload_n 2, 1) := by decide +kernel
theorem dX9_run_27 : decode cX9_run 27 = .ok (.ireturn, 1) := by decide +kernel
theorem dX9_sum_0 : decode cX9_sum 0 = .ok (.iconst 0, 1) := by decide +kernel
theorem dX9_sum_1 : decode cX9_sum 1 = .ok (.istore_n 2, 1) := by decide +kernel
theorem dX9_sum_2 : decode cX9_sum 2 = .ok (.iconst 0, 1) := by decide +kernel
theorem dX9_sum_3 : decode cX9_sum 3 = .ok (.istore_n 3, 1) := by decide +kernel
theorem dX9_sum_4 : decode cX9_sum 4 = .ok (.iload_n 3, 1) := by decide +kernel
theorem dX9_sum_5 : decode cX9_sum 5 = .ok (.aload_n 0, 1) := by decide +kernel
theorem dX9_sum_6 : decode cX9_sum 6 = .ok (.getfield 60, 3) := by decide +kernel
theorem dX9_sum_9 : decode cX9_sum 9 = .ok (.if_icmp .ge 20, 3) := by decide +kernel
theorem dX9_sum_12 : decode cX9_sum 12 = .ok (.iload_n 2, 1) := by decide +kernel
theorem dX9_sum_13 : decode cX9_sum 13 = .ok (.aload_n 0, 1) := by decide +kernel
theorem dX9_sum_14 : decode cX9_sum 14 = .ok (.getfield 11, 3) := by decide +kernel
theorem dX9_sum_17 : decode cX9_sum 17 = .ok (.iload_n 3, 1) := by decide +kernel
theorem dX9_sum_18 : decode cX9_sum 18 = .ok (.aaload, 1) := by decide +kernel
theorem dX9_sum_19 : decode cX9_sum 19 = .ok (.iload_n 1, 1) := by decide +kernel
theorem dX9_sum_20 : decode cX9_sum 20 = .ok (.iaload, 1) := by decide +kernel
theorem dX9_sum_21 : decode cX9_sum 21 = .ok (.iadd, 1) := by decide +kernel
theorem dX9_sum_22 : decode cX9_sum 22 = .ok (.istore_n 2, 1) := by decide +kernel
theorem dX9_sum_23 : decode cX9_sum 23 = .ok (.iinc 3 1, 3) := by decide +kernel
theorem dX9_sum_26 : decode cX9_sum 26 = .ok (.goto (-22), 3) := by decide +kernel
theorem dX9_sum_29 : decode cX9_sum 29 = .ok (.iload_n 2, 1) := by decide +kernel
theorem dX9_sum_30 : decode cX9_sum 30 = .ok (.ireturn, 1) := by decide +kernel
theorem dX9_lacks_0 : decode cX9_lacks 0 = .ok (.iconst 0, 1) := by decide +kernel
theorem dX9_lacks_1 : decode cX9_lacks 1 = .ok (.istore_n 1, 1) := by decide +kernel
theorem dX9_lacks_2 : decode cX9_lacks 2 = .ok (.iconst 0, 1) := by decide +kernel
theorem dX9_lacks_3 : decode cX9_lacks 3 = .ok (.istore_n 2, 1) := by decide +kernel
theorem dX9_lacks_4 : decode cX9_lacks 4 = .ok (.iload_n 2, 1) := by decide +kernel
theorem dX9_lacks_5 : decode cX9_lacks 5 = .ok (.aload_n 0, 1) := by decide +kernel
theorem dX9_lacks_6 : decode cX9_lacks 6 = .ok (.getfield 69, 3) := by decide +kernel
theorem dX9_lacks_9 : decode cX9_lacks 9 = .ok (.if_icmp .ge 20, 3) := by decide +kernel
theorem dX9_lacks_12 : decode cX9_lacks 12 = .ok (.iload_n 1, 1) := by decide +kernel
theorem dX9_lacks_13 : decode cX9_lacks 13 = .ok (.aload_n 0, 1) := by decide +kernel
theorem dX9_lacks_14 : decode cX9_lacks 14 = .ok (.getfield 22, 3) := by decide +kernel
theorem dX9_lacks_17 : decode cX9_lacks 17 = .ok (.iload_n 2, 1) := by decide +kernel
theorem dX9_lacks_18 : decode cX9_lacks 18 = .ok (.aaload, 1) := by decide +kernel
theorem dX9_lacks_19 : decode cX9_lacks 19 = .ok (.iconst 3, 1) := by decide +kernel
theorem dX9_lacks_20 : decode cX9_lacks 20 = .ok (.iaload, 1) := by decide +kernel
theorem dX9_lacks_21 : decode cX9_lacks 21 = .ok (.iadd, 1) := by decide +kernel
theorem dX9_lacks_22 : decode cX9_lacks 22 = .ok (.istore_n 1, 1) := by decide +kernel
theorem dX9_lacks_23 : decode cX9_lacks 23 = .ok (.iinc 2 1, 3) := by decide +kernel
theorem dX9_lacks_26 : decode cX9_lacks 26 = .ok (.goto (-22), 3) := by decide +kernel
theorem dX9_lacks_29 : decode cX9_lacks 29 = .ok (.iload_n 1, 1) := by decide +kernel
theorem dX9_lacks_30 : decode cX9_lacks 30 = .ok (.ireturn, 1) := by decide +kernel
