theorem dL_block_0 : decode cL_block 0 = .ok (.aload 6, 2) := by decide +kernel
theorem dL_block_2 : decode cL_block 2 = .ok (.iconst 0, 1) := by decide +kernel
theorem dL_block_3 : decode cL_block 3 = .ok (.aload_n 0, 1) := by decide +kernel
theorem dL_block_4 : decode cL_block 4 = .ok (.iload_n 1, 1) := by decide +kernel
theorem dL_block_5 : decode cL_block 5 = .ok (.iload_n 2, 1) := by decide +kernel
theorem dL_block_6 : decode cL_block 6 = .ok (.iload_n 3, 1) := by decide +kernel
theorem dL_block_7 : decode cL_block 7 = .ok (.iload 4, 2) := by decide +kernel
theorem dL_block_9 : decode cL_block 9 = .ok (.iload 5, 2) := by decide +kernel
theorem dL_block_11 : decode cL_block 11 = .ok (.invokevirtual 7, 3) := by decide +kernel
theorem dL_block_14 : decode cL_block 14 = .ok (.i2l, 1) := by decide +kernel
theorem dL_block_15 : decode cL_block 15 = .ok (.lastore, 1) := by decide +kernel
theorem dL_block_16 : decode cL_block 16 = .ok (.goto 11, 3) := by decide +kernel
theorem dL_block_19 : decode cL_block 19 = .ok (.astore 7, 2) := by decide +kernel
theorem dL_block_21 : decode cL_block 21 = .ok (.iconst 1, 1) := by decide +kernel
theorem dL_block_22 : decode cL_block 22 = .ok (.ireturn, 1) := by decide +kernel
theorem dL_block_23 : decode cL_block 23 = .ok (.astore 7, 2) := by decide +kernel
theorem dL_block_25 : decode cL_block 25 = .ok (.iconst 2, 1) := by decide +kernel
theorem dL_block_26 : decode cL_block 26 = .ok (.ireturn, 1) := by decide +kernel
theorem dL_block_27 : decode cL_block 27 = .ok (.iconst 0, 1) := by decide +kernel
theorem dL_block_28 : decode cL_block 28 = .ok (.ireturn, 1) := by decide +kernel
theorem dL_face_0 : decode cL_face 0 = .ok (.aload 4, 2) := by decide +kernel
theorem dL_face_2 : decode cL_face 2 = .ok (.iconst 0, 1) := by decide +kernel
theorem dL_face_3 : decode cL_face 3 = .ok (.aload_n 0, 1) := by decide +kernel
theorem dL_face_4 : decode cL_face 4 = .ok (.iload_n 1, 1) := by decide +kernel
theorem dL_face_5 : decode cL_face 5 = .ok (.iload_n 2, 1) := by decide +kernel
theorem dL_face_6 : decode cL_face 6 = .ok (.iload_n 3, 1) := by decide +kernel
theorem dL_face_7 : decode cL_face 7 = .ok (.invokevirtual 17, 3) := by decide +kernel
theorem dL_face_10 : decode cL_face 10 = .ok (.i2l, 1) := by decide +kernel
theorem dL_face_11 : decode cL_face 11 = .ok (.lastore, 1) := by decide +kernel
theorem dL_face_12 : decode cL_face 12 = .ok (.goto 15, 3) := by decide +kernel
theorem dL_face_15 : decode cL_face 15 = .ok (.astore 5, 2) := by decide +kernel
theorem dL_face_17 : decode cL_face 17 = .ok (.iconst 1, 1) := by decide +kernel
theorem dL_face_18 : decode cL_face 18 = .ok (.ireturn, 1) := by decide +kernel
theorem dL_face_19 : decode cL_face 19 = .ok (.astore 5, 2) := by decide +kernel
theorem dL_face_21 : decode cL_face 21 = .ok (.iconst 2, 1) := by decide +kernel
theorem dL_face_22 : decode cL_face 22 = .ok (.ireturn, 1) := by decide +kernel
theorem dL_face_23 : decode cL_face 23 = .ok (.astore 5, 2) := by decide +kernel
theorem dL_face_25 : decode cL_face 25 = .ok (.iconst 3, 1) := by decide +kernel
theorem dL_face_26 : decode cL_face 26 = .ok (.ireturn, 1) := by decide +kernel
theorem dL_face_27 : decode cL_face 27 = .ok (.iconst 0, 1) := by decide +kernel
theorem dL_face_28 : decode cL_face 28 = .ok (.ireturn, 1) := by decide +kernel
theorem dL_well_0 : decode cL_well 0 = .ok (.aload_n 3, 1) := by decide +kernel
theorem dL_well_1 : decode cL_well 1 = .ok (.iconst 0, 1) := by decide +kernel
theorem dL_well_2 : decode cL_well 2 = .ok (.aload_n 0, 1) := by decide +kernel
theorem dL_well_3 : decode cL_well 3 = .ok (.iload_n 1, 1) := by decide +kernel
theorem dL_well_4 : decode cL_well 4 = .ok (.iload_n 2, 1) := by decide +kernel
theorem dL_well_5 : decode cL_well 5 = .ok (.invokevirtual 23, 3) := by decide +kernel
theorem dL_well_8 : decode cL_well 8 = .ok (.i2l, 1) := by decide +kernel
theorem dL_well_9 : decode cL_well 9 = .ok (.lastore, 1) := by decide +kernel
theorem dL_well_10 : decode cL_well 10 = .ok (.goto 11, 3) := by decide +kernel
theorem dL_well_13 : decode cL_well 13 = .ok (.astore 4, 2) := by decide +kernel
theorem dL_well_15 : decode cL_well 15 = .ok (.iconst 1, 1) := by decide +kernel
theorem dL_well_16 : decode cL_well 16 = .ok (.ireturn, 1) := by decide +kernel
theorem dL_well_17 : decode cL_well 17 = .ok (.astore 4, 2) := by decide +kernel
theorem dL_well_19 : decode cL_well 19 = .ok (.iconst 2, 1) := by decide +kernel
theorem dL_well_20 : decode cL_well 20 = .ok (.ireturn, 1) := by decide +kernel
theorem dL_well_21 : decode cL_well 21 = .ok (.iconst 0, 1) := by decide +kernel
theorem dL_well_22 : decode cL_well 22 = .ok (.ireturn, 1) := by decide +kernel
theorem dL_spring_0 : decode cL_spring 0 = .ok (.aload 4, 2) := by decide +kernel
theorem dL_spring_2 : decode cL_spring 2 = .ok (.iconst 0, 1) := by decide +kernel
theorem dL_spring_3 : decode cL_spring 3 = .ok (.aload_n 0, 1) := by decide +kernel
theorem dL_spring_4 : decode cL_spring 4 = .ok (.iload_n 1, 1) := by decide +kernel
theorem dL_spring_5 : decode cL_spring 5 = .ok (.iload_n 2, 1) := by decide +kernel
theorem dL_spring_6 : decode cL_spring 6 = .ok (.iload_n 3, 1) := by decide +kernel
theorem dL_spring_7 : decode cL_spring 7 = .ok (.invokevirtual 27, 3) := by decide +kernel
theorem dL_spring_10 : decode cL_spring 10 = .ok (.i2l, 1) := by decide +kernel
theorem dL_spring_11 : decode cL_spring 11 = .ok (.lastore, 1) := by decide +kernel
theorem dL_spring_12 : decode cL_spring 12 = .ok (.goto 15, 3) := by decide +kernel
theorem dL_spring_15 : decode cL_spring 15 = .ok (.astore 5, 2) := by decide +kernel
theorem dL_spring_17 : decode cL_spring 17 = .ok (.iconst 1, 1) := by decide +kernel
theorem dL_spring_18 : decode cL_spring 18 = .ok (.ireturn, 1) := by decide +kernel
theorem dL_spring_19 : decode cL_spring 19 = .ok (.astore 5, 2) := by decide +kernel
theorem dL_spring_21 : decode cL_spring 21 = .ok (.iconst 2, 1) := by decide +kernel
theorem dL_spring_22 : decode cL_spring 22 = .ok (.ireturn, 1) := by decide +kernel
theorem dL_spring_23 : decode cL_spring 23 = .ok (.astore 5, 2) := by decide +kernel
theorem dL_spring_25 : decode cL_spring 25 = .ok (.iconst 3, 1) := by decide +kernel
theorem dL_spring_26 : decode cL_spring 26 = .ok (.ireturn, 1) := by decide +kernel
theorem dL_spring_27 : decode cL_spring 27 = .ok (.iconst 0, 1) := by decide +kernel
theorem dL_spring_28 : decode cL_spring 28 = .ok (.ireturn, 1) := by decide +kernel
theorem dL_valve_0 : decode cL_valve 0 = .ok (.aload_n 3, 1) := by decide +kernel
theorem dL_valve_1 : decode cL_valve 1 = .ok (.iconst 0, 1) := by decide +kernel
theorem dL_valve_2 : decode cL_valve 2 = .ok (.aload_n 0, 1) := by decide +kernel
theorem dL_valve_3 : decode cL_valve 3 = .ok (.iload_n 1, 1) := by decide +kernel
theorem dL_valve_4 : decode cL_valve 4 = .ok (.iload_n 2, 1) := by decide +kernel
theorem dL_valve_5 : decode cL_valve 5 = .ok (.invokevirtual 30, 3) := by decide +kernel
theorem dL_valve_8 : decode cL_valve 8 = .ok (.i2l, 1) := by decide +kernel
theorem dL_valve_9 : decode cL_valve 9 = .ok (.lastore, 1) := by decide +kernel
theorem dL_valve_10 : decode cL_valve 10 = .ok (.goto 11, 3) := by decide +kernel
theorem dL_valve_13 : decode cL_valve 13 = .ok (.astore 4, 2) := by decide +kernel
theorem dL_valve_15 : decode cL_valve 15 = .ok (.iconst 1, 1) := by decide +kernel
theorem dL_valve_16 : decode cL_valve 16 = .ok (.ireturn, 1) := by decide +kernel
theorem dL_valve_17 : decode cL_valve 17 = .ok (.astore 4, 2) := by decide +kernel
theorem dL_valve_19 : decode cL_valve 19 = .ok (.iconst 2, 1) := by decide +kernel
theorem dL_valve_20 : decode cL_valve 20 = .ok (.ireturn, 1) := by decide +kernel
theorem dL_valve_21 : decode cL_valve 21 = .ok (.iconst 0, 1) := by decide +kernel
theorem dL_valve_22 : decode cL_valve 22 = .ok (.ireturn, 1) := by decide +kernel
theorem dL_trace_0 : decode cL_trace 0 = .ok (.aload_n 3, 1) := by decide +kernel
theorem dL_trace_1 : decode cL_trace 1 = .ok (.iconst 0, 1) := by decide +kernel
theorem dL_trace_2 : decode cL_trace 2 = .ok (.aload_n 0, 1) := by decide +kernel
theorem dL_trace_3 : decode cL_trace 3 = .ok (.iload_n 1, 1) := by decide +kernel
theorem dL_trace_4 : decode cL_trace 4 = .ok (.iload_n 2, 1) := by decide +kernel
theorem dL_trace_5 : decode cL_trace 5 = .ok (.invokevirtual 34, 3) := by decide +kernel
theorem dL_trace_8 : decode cL_trace 8 = .ok (.i2l, 1) := by decide +kernel
theorem dL_trace_9 : decode cL_trace 9 = .ok (.lastore, 1) := by decide +kernel
theorem dL_trace_10 : decode cL_trace 10 = .ok (.goto 15, 3) := by decide +kernel
theorem dL_trace_13 : decode cL_trace 13 = .ok (.astore 4, 2) := by decide +kernel
theorem dL_trace_15 : decode cL_trace 15 = .ok (.iconst 1, 1) := by decide +kernel
theorem dL_trace_16 : decode cL_trace 16 = .ok (.ireturn, 1) := by decide +kernel
theorem dL_trace_17 : decode cL_trace 17 = .ok (.astore 4, 2) := by decide +kernel
theorem dL_trace_19 : decode cL_trace 19 = .ok (.iconst 2, 1) := by decide +kernel
theorem dL_trace_20 : decode cL_trace 20 = .ok (.ireturn, 1) := by decide +kernel
theorem dL_trace_21 : decode cL_trace 21 = .ok (.astore 4, 2) := by decide +kernel
theorem dL_trace_23 : decode cL_trace 23 = .ok (.iconst 3, 1) := by decide +kernel
theorem dL_trace_24 : decode cL_trace 24 = .ok (.ireturn, 1) := by decide +kernel
theorem dL_trace_25 : decode cL_trace 25 = .ok (.iconst 0, 1) := by decide +kernel
theorem dL_trace_26 : decode cL_trace 26 = .ok (.ireturn, 1) := by decide +kernel
theorem dL_clean_0 : decode cL_clean 0 = .ok (.aload_n 2, 1) := by decide +kernel
theorem dL_clean_1 : decode cL_clean 1 = .ok (.iconst 0, 1) := by decide +kernel
theorem dL_clean_2 : decode cL_clean 2 = .ok (.aload_n 0, 1) := by decide +kernel
theorem dL_clean_3 : decode cL_clean 3 = .ok (.iload_n 1, 1) := by decide +kernel
theorem dL_clean_4 : decode cL_clean 4 = .ok (.invokevirtual 37, 3) := by decide +kernel
theorem dL_clean_7 : decode cL_clean 7 = .ok (.i2l, 1) := by decide +kernel
theorem dL_clean_8 : decode cL_clean 8 = .ok (.lastore, 1) := by decide +kernel
theorem dL_clean_9 : decode cL_clean 9 = .ok (.goto 9, 3) := by decide +kernel
theorem dL_clean_12 : decode cL_clean 12 = .ok (.astore_n 3, 1) := by decide +kernel
theorem dL_clean_13 : decode cL_clean 13 = .ok (.iconst 1, 1) := by decide +kernel
theorem dL_clean_14 : decode cL_clean 14 = .ok (.ireturn, 1) := by decide +kernel
theorem dL_clean_15 : decode cL_clean 15 = .ok (.astore_n 3, 1) := by decide +kernel
theorem dL_clean_16 : decode cL_clean 16 = .ok (.iconst 2, 1) := by decide +kernel
theorem dL_clean_17 : decode cL_clean 17 = .ok (.ireturn, 1) := by decide +kernel
theorem dL_clean_18 : decode cL_clean 18 = .ok (.iconst 0, 1) := by decide +kernel
theorem dL_clean_19 : decode cL_clean 19 = .ok (.ireturn, 1) := by decide +kernel
theorem dL_turbine_0 : decode cL_turbine 0 = .ok (.aload_n 2, 1) := by decide +kernel
theorem dL_turbine_1 : decode cL_turbine 1 = .ok (.iconst 0, 1) := by decide +kernel
theorem dL_turbine_2 : decode cL_turbine 2 = .ok (.aload_n 0, 1) := by decide +kernel
theorem dL_turbine_3 : decode cL_turbine 3 = .ok (.iload_n 1, 1) := by decide +kernel
theorem dL_turbine_4 : decode cL_turbine 4 = .ok (.invokevirtual 41, 3) := by decide +kernel
theorem dL_turbine_7 : decode cL_turbine 7 = .ok (.i2l, 1) := by decide +kernel
theorem dL_turbine_8 : decode cL_turbine 8 = .ok (.lastore, 1) := by decide +kernel
theorem dL_turbine_9 : decode cL_turbine 9 = .ok (.goto 6, 3) := by decide +kernel
theorem dL_turbine_12 : decode cL_turbine 12 = .ok (.astore_n 3, 1) := by decide +kernel
theorem dL_turbine_13 : decode cL_turbine 13 = .ok (.iconst 1, 1) := by decide +kernel
theorem dL_turbine_14 : decode cL_turbine 14 = .ok (.ireturn, 1) := by decide +kernel
theorem dL_turbine_15 : decode cL_turbine 15 = .ok (.iconst 0, 1) := by decide +kernel
theorem dL_turbine_16 : decode cL_turbine 16 = .ok (.ireturn, 1) := by decide +kernel
theorem dL_town_0 : decode cL_town 0 = .ok (.aload_n 2, 1) := by decide +kernel
theorem dL_town_1 : decode cL_town 1 = .ok (.iconst 0, 1) := by decide +kernel
theorem dL_town_2 : decode cL_town 2 = .ok (.aload_n 0, 1) := by decide +kernel
theorem dL_town_3 : decode cL_town 3 = .ok (.iload_n 1, 1) := by decide +kernel
theorem dL_town_4 : decode cL_town 4 = .ok (.invokevirtual 44, 3) := by decide +kernel
theorem dL_town_7 : decode cL_town 7 = .ok (.i2l, 1) := by decide +kernel
theorem dL_town_8 : decode cL_town 8 = .ok (.lastore, 1) := by decide +kernel
theorem dL_town_9 : decode cL_town 9 = .ok (.goto 6, 3) := by decide +kernel
theorem dL_town_12 : decode cL_town 12 = .ok (.astore_n 3, 1) := by decide +kernel
theorem dL_town_13 : decode cL_town 13 = .ok (.iconst 1, 1) := by decide +kernel
theorem dL_town_14 : decode cL_town 14 = .ok (.ireturn, 1) := by decide +kernel
theorem dL_town_15 : decode cL_town 15 = .ok (.iconst 0, 1) := by decide +kernel
theorem dL_town_16 : decode cL_town 16 = .ok (.ireturn, 1) := by decide +kernel
theorem dL_run_0 : decode cL_run 0 = .ok (.aload_n 2, 1) := by decide +kernel
theorem dL_run_1 : decode cL_run 1 = .ok (.iconst 0, 1) := by decide +kernel
theorem dL_run_2 : decode cL_run 2 = .ok (.aload_n 0, 1) := by decide +kernel
theorem dL_run_3 : decode cL_run 3 = .ok (.iload_n 1, 1) := by decide +kernel
theorem dL_run_4 : decode cL_run 4 = .ok (.invokevirtual 47, 3) := by decide +kernel
theorem dL_run_7 : decode cL_run 7 = .ok (.i2l, 1) := by decide +kernel
theorem dL_run_8 : decode cL_run 8 = .ok (.lastore, 1) := by decide +kernel
theorem dL_run_9 : decode cL_run 9 = .ok (.goto 6, 3) := by decide +kernel
theorem dL_run_12 : decode cL_run 12 = .ok (.astore_n 3, 1) := by decide +kernel
theorem dL_run_13 : decode cL_run 13 = .ok (.iconst 1, 1) := by decide +kernel
theorem dL_run_14 : decode cL_run 14 = .ok (.ireturn, 1) := by decide +kernel
theorem dL_run_15 : decode cL_run 15 = .ok (.iconst 0, 1) := by decide +kernel
theorem dL_run_16 : decode cL_run 16 = .ok (.ireturn, 1) := by decide +kernel
theorem dL_ofBlock_0 : decode cL_ofBlock 0 = .ok (.aload_n 3, 1) := by decide +kernel
theorem dL_ofBlock_1 : decode cL_ofBlock 1 = .ok (.iconst 0, 1) := by decide +kernel
theorem dL_ofBlock_2 : decode cL_ofBlock 2 = .ok (.aload_n 0, 1) := by decide +kernel
theorem dL_ofBlock_3 : decode cL_ofBlock 3 = .ok (.iload_n 1, 1) := by decide +kernel
theorem dL_ofBlock_4 : decode cL_ofBlock 4 = .ok (.iload_n 2, 1) := by decide +kernel
theorem dL_ofBlock_5 : decode cL_ofBlock 5 = .ok (.invokevirtual 50, 3) := by decide +kernel
theorem dL_ofBlock_8 : decode cL_ofBlock 8 = .ok (.i2l, 1) := by decide +kernel
theorem dL_ofBlock_9 : decode cL_ofBlock 9 = .ok (.lastore, 1) := by decide +kernel
theorem dL_ofBlock_10 : decode cL_ofBlock 10 = .ok (.goto 11, 3) := by decide +kernel
theorem dL_ofBlock_13 : decode cL_ofBlock 13 = .ok (.astore 4, 2) := by decide +kernel
theorem dL_ofBlock_15 : decode cL_ofBlock 15 = .ok (.iconst 1, 1) := by decide +kernel
theorem dL_ofBlock_16 : decode cL_ofBlock 16 = .ok (.ireturn, 1) := by decide +kernel
theorem dL_ofBlock_17 : decode cL_ofBlock 17 = .ok (.astore 4, 2) := by decide +kernel
theorem dL_ofBlock_19 : decode cL_ofBlock 19 = .ok (.iconst 2, 1) := by decide +kernel
theorem dL_ofBlock_20 : decode cL_ofBlock 20 = .ok (.ireturn, 1) := by decide +kernel
theorem dL_ofBlock_21 : decode cL_ofBlock 21 = .ok (.iconst 0, 1) := by decide +kernel
theorem dL_ofBlock_22 : decode cL_ofBlock 22 = .ok (.ireturn, 1) := by decide +kernel
theorem dL_ofWell_0 : decode cL_ofWell 0 = .ok (.aload_n 3, 1) := by decide +kernel
theorem dL_ofWell_1 : decode cL_ofWell 1 = .ok (.iconst 0, 1) := by decide +kernel
theorem dL_ofWell_2 : decode cL_ofWell 2 = .ok (.aload_n 0, 1) := by decide +kernel
theorem dL_ofWell_3 : decode cL_ofWell 3 = .ok (.iload_n 1, 1) := by decide +kernel
theorem dL_ofWell_4 : decode cL_ofWell 4 = .ok (.iload_n 2, 1) := by decide +kernel
theorem dL_ofWell_5 : decode cL_ofWell 5 = .ok (.invokevirtual 53, 3) := by decide +kernel
theorem dL_ofWell_8 : decode cL_ofWell 8 = .ok (.i2l, 1) := by decide +kernel
theorem dL_ofWell_9 : decode cL_ofWell 9 = .ok (.lastore, 1) := by decide +kernel
theorem dL_ofWell_10 : decode cL_ofWell 10 = .ok (.goto 11, 3) := by decide +kernel
theorem dL_ofWell_13 : decode cL_ofWell 13 = .ok (.astore 4, 2) := by decide +kernel
theorem dL_ofWell_15 : decode cL_ofWell 15 = .ok (.iconst 1, 1) := by decide +kernel
theorem dL_ofWell_16 : decode cL_ofWell 16 = .ok (.ireturn, 1) := by decide +kernel
theorem dL_ofWell_17 : decode cL_ofWell 17 = .ok (.astore 4, 2) := by decide +kernel
theorem dL_ofWell_19 : decode cL_ofWell 19 = .ok (.iconst 2, 1) := by decide +kernel
theorem dL_ofWell_20 : decode cL_ofWell 20 = .ok (.ireturn, 1) := by decide +kernel
theorem dL_ofWell_21 : decode cL_ofWell 21 = .ok (.iconst 0, 1) := by decide +kernel
theorem dL_ofWell_22 : decode cL_ofWell 22 = .ok (.ireturn, 1) := by decide +kernel
theorem dL_ofSpring_0 : decode cL_ofSpring 0 = .ok (.aload_n 3, 1) := by decide +kernel
theorem dL_ofSpring_1 : decode cL_ofSpring 1 = .ok (.iconst 0, 1) := by decide +kernel
theorem dL_ofSpring_2 : decode cL_ofSpring 2 = .ok (.aload_n 0, 1) := by decide +kernel
theorem dL_ofSpring_3 : decode cL_ofSpring 3 = .ok (.iload_n 1, 1) := by decide +kernel
theorem dL_ofSpring_4 : decode cL_ofSpring 4 = .ok (.iload_n 2, 1) := by decide +kernel
theorem dL_ofSpring_5 : decode cL_ofSpring 5 = .ok (.invokevirtual 56, 3) := by decide +kernel
theorem dL_ofSpring_8 : decode cL_ofSpring 8 = .ok (.i2l, 1) := by decide +kernel
theorem dL_ofSpring_9 : decode cL_ofSpring 9 = .ok (.lastore, 1) := by decide +kernel
theorem dL_ofSpring_10 : decode cL_ofSpring 10 = .ok (.goto 11, 3) := by decide +kernel
theorem dL_ofSpring_13 : decode cL_ofSpring 13 = .ok (.astore 4, 2) := by decide +kernel
theorem dL_ofSpring_15 : decode cL_ofSpring 15 = .ok (.iconst 1, 1) := by decide +kernel
theorem dL_ofSpring_16 : decode cL_ofSpring 16 = .ok (.ireturn, 1) := by decide +kernel
theorem dL_ofSpring_17 : decode cL_ofSpring 17 = .ok (.astore 4, 2) := by decide +kernel
theorem dL_ofSpring_19 : decode cL_ofSpring 19 = .ok (.iconst 2, 1) := by decide +kernel
theorem dL_ofSpring_20 : decode cL_ofSpring 20 = .ok (.ireturn, 1) := by decide +kernel
theorem dL_ofSpring_21 : decode cL_ofSpring 21 = .ok (.iconst 0, 1) := by decide +kernel
theorem dL_ofSpring_22 : decode cL_ofSpring 22 = .ok (.ireturn, 1) := by decide +kernel
theorem dL_ofFace_0 : decode cL_ofFace 0 = .ok (.aload_n 3, 1) := by decide +kernel
theorem dL_ofFace_1 : decode cL_ofFace 1 = .ok (.iconst 0, 1) := by decide +kernel
theorem dL_ofFace_2 : decode cL_ofFace 2 = .ok (.aload_n 0, 1) := by decide +kernel
theorem dL_ofFace_3 : decode cL_ofFace 3 = .ok (.iload_n 1, 1) := by decide +kernel
theorem dL_ofFace_4 : decode cL_ofFace 4 = .ok (.iload_n 2, 1) := by decide +kernel
theorem dL_ofFace_5 : decode cL_ofFace 5 = .ok (.invokevirtual 59, 3) := by decide +kernel
theorem dL_ofFace_8 : decode cL_ofFace 8 = .ok (.i2l, 1) := by decide +kernel
theorem dL_ofFace_9 : decode cL_ofFace 9 = .ok (.lastore, 1) := by decide +kernel
theorem dL_ofFace_10 : decode cL_ofFace 10 = .ok (.goto 7, 3) := by decide +kernel
theorem dL_ofFace_13 : decode cL_ofFace 13 = .ok (.astore 4, 2) := by decide +kernel
theorem dL_ofFace_15 : decode cL_ofFace 15 = .ok (.iconst 1, 1) := by decide +kernel
theorem dL_ofFace_16 : decode cL_ofFace 16 = .ok (.ireturn, 1) := by decide +kernel
theorem dL_ofFace_17 : decode cL_ofFace 17 = .ok (.iconst 0, 1) := by decide +kernel
theorem dL_ofFace_18 : decode cL_ofFace 18 = .ok (.ireturn, 1) := by decide +kernel
theorem dL_pond_0 : decode cL_pond 0 = .ok (.aload_n 2, 1) := by decide +kernel
theorem dL_pond_1 : decode cL_pond 1 = .ok (.iconst 0, 1) := by decide +kernel
theorem dL_pond_2 : decode cL_pond 2 = .ok (.aload_n 0, 1) := by decide +kernel
theorem dL_pond_3 : decode cL_pond 3 = .ok (.iload_n 1, 1) := by decide +kernel
theorem dL_pond_4 : decode cL_pond 4 = .ok (.invokevirtual 62, 3) := by decide +kernel
theorem dL_pond_7 : decode cL_pond 7 = .ok (.i2l, 1) := by decide +kernel
theorem dL_pond_8 : decode cL_pond 8 = .ok (.lastore, 1) := by decide +kernel
theorem dL_pond_9 : decode cL_pond 9 = .ok (.goto 6, 3) := by decide +kernel
theorem dL_pond_12 : decode cL_pond 12 = .ok (.astore_n 3, 1) := by decide +kernel
theorem dL_pond_13 : decode cL_pond 13 = .ok (.iconst 1, 1) := by decide +kernel
theorem dL_pond_14 : decode cL_pond 14 = .ok (.ireturn, 1) := by decide +kernel
theorem dL_pond_15 : decode cL_pond 15 = .ok (.iconst 0, 1) := by decide +kernel
theorem dL_pond_16 : decode cL_pond 16 = .ok (.ireturn, 1) := by decide +kernel
theorem dL_ofOwner_0 : decode cL_ofOwner 0 = .ok (.aload_n 3, 1) := by decide +kernel
theorem dL_ofOwner_1 : decode cL_ofOwner 1 = .ok (.iconst 0, 1) := by decide +kernel
theorem dL_ofOwner_2 : decode cL_ofOwner 2 = .ok (.aload_n 0, 1) := by decide +kernel
theorem dL_ofOwner_3 : decode cL_ofOwner 3 = .ok (.iload_n 1, 1) := by decide +kernel
theorem dL_ofOwner_4 : decode cL_ofOwner 4 = .ok (.iload_n 2, 1) := by decide +kernel
theorem dL_ofOwner_5 : decode cL_ofOwner 5 = .ok (.invokevirtual 65, 3) := by decide +kernel
theorem dL_ofOwner_8 : decode cL_ofOwner 8 = .ok (.i2l, 1) := by decide +kernel
theorem dL_ofOwner_9 : decode cL_ofOwner 9 = .ok (.lastore, 1) := by decide +kernel
theorem dL_ofOwner_10 : decode cL_ofOwner 10 = .ok (.goto 11, 3) := by decide +kernel
theorem dL_ofOwner_13 : decode cL_ofOwner 13 = .ok (.astore 4, 2) := by decide +kernel
theorem dL_ofOwner_15 : decode cL_ofOwner 15 = .ok (.iconst 1, 1) := by decide +kernel
theorem dL_ofOwner_16 : decode cL_ofOwner 16 = .ok (.ireturn, 1) := by decide +kernel
theorem dL_ofOwner_17 : decode cL_ofOwner 17 = .ok (.astore 4, 2) := by decide +kernel
theorem dL_ofOwner_19 : decode cL_ofOwner 19 = .ok (.iconst 2, 1) := by decide +kernel
theorem dL_ofOwner_20 : decode cL_ofOwner 20 = .ok (.ireturn, 1) := by decide +kernel
theorem dL_ofOwner_21 : decode cL_ofOwner 21 = .ok (.iconst 0, 1) := by decide +kernel
theorem dL_ofOwner_22 : decode cL_ofOwner 22 = .ok (.ireturn, 1) := by decide +kernel
theorem dL_mass_0 : decode cL_mass 0 = .ok (.aload_n 2, 1) := by decide +kernel
theorem dL_mass_1 : decode cL_mass 1 = .ok (.iconst 0, 1) := by decide +kernel
theorem dL_mass_2 : decode cL_mass 2 = .ok (.aload_n 0, 1) := by decide +kernel
theorem dL_mass_3 : decode cL_mass 3 = .ok (.iload_n 1, 1) := by decide +kernel
theorem dL_mass_4 : decode cL_mass 4 = .ok (.invokevirtual 68, 3) := by decide +kernel
theorem dL_mass_7 : decode cL_mass 7 = .ok (.i2l, 1) := by decide +kernel
theorem dL_mass_8 : decode cL_mass 8 = .ok (.lastore, 1) := by decide +kernel
theorem dL_mass_9 : decode cL_mass 9 = .ok (.goto 6, 3) := by decide +kernel
theorem dL_mass_12 : decode cL_mass 12 = .ok (.astore_n 3, 1) := by decide +kernel
theorem dL_mass_13 : decode cL_mass 13 = .ok (.iconst 1, 1) := by decide +kernel
theorem dL_mass_14 : decode cL_mass 14 = .ok (.ireturn, 1) := by decide +kernel
theorem dL_mass_15 : decode cL_mass 15 = .ok (.iconst 0, 1) := by decide +kernel
theorem dL_mass_16 : decode cL_mass 16 = .ok (.ireturn, 1) := by decide +kernel
theorem dL_many_0 : decode cL_many 0 = .ok (.aload_n 2, 1) := by decide +kernel
theorem dL_many_1 : decode cL_many 1 = .ok (.iconst 0, 1) := by decide +kernel
theorem dL_many_2 : decode cL_many 2 = .ok (.aload_n 0, 1) := by decide +kernel
theorem dL_many_3 : decode cL_many 3 = .ok (.iload_n 1, 1) := by decide +kernel
theorem dL_many_4 : decode cL_many 4 = .ok (.invokevirtual 71, 3) := by decide +kernel
theorem dL_many_7 : decode cL_many 7 = .ok (.i2l, 1) := by decide +kernel
theorem dL_many_8 : decode cL_many 8 = .ok (.lastore, 1) := by decide +kernel
theorem dL_many_9 : decode cL_many 9 = .ok (.goto 6, 3) := by decide +kernel
theorem dL_many_12 : decode cL_many 12 = .ok (.astore_n 3, 1) := by decide +kernel
theorem dL_many_13 : decode cL_many 13 = .ok (.iconst 1, 1) := by decide +kernel
theorem dL_many_14 : decode cL_many 14 = .ok (.ireturn, 1) := by decide +kernel
theorem dL_many_15 : decode cL_many 15 = .ok (.iconst 0, 1) := by decide +kernel
theorem dL_many_16 : decode cL_many 16 = .ok (.ireturn, 1) := by decide +kernel
theorem dL_wouldGive_0 : decode cL_wouldGive 0 = .ok (.aload_n 2, 1) := by decide +kernel
theorem dL_wouldGive_1 : decode cL_wouldGive 1 = .ok (.iconst 0, 1) := by decide +kernel
theorem dL_wouldGive_2 : decode cL_wouldGive 2 = .ok (.aload_n 0, 1) := by decide +kernel
theorem dL_wouldGive_3 : decode cL_wouldGive 3 = .ok (.iload_n 1, 1) := by decide +kernel
theorem dL_wouldGive_4 : decode cL_wouldGive 4 = .ok (.invokevirtual 74, 3) := by decide +kernel
theorem dL_wouldGive_7 : decode cL_wouldGive 7 = .ok (.i2l, 1) := by decide +kernel
theorem dL_wouldGive_8 : decode cL_wouldGive 8 = .ok (.lastore, 1) := by decide +kernel
theorem dL_wouldGive_9 : decode cL_wouldGive 9 = .ok (.goto 6, 3) := by decide +kernel
theorem dL_wouldGive_12 : decode cL_wouldGive 12 = .ok (.astore_n 3, 1) := by decide +kernel
theorem dL_wouldGive_13 : decode cL_wouldGive 13 = .ok (.iconst 1, 1) := by decide +kernel
theorem dL_wouldGive_14 : decode cL_wouldGive 14 = .ok (.ireturn, 1) := by decide +kernel
theorem dL_wouldGive_15 : decode cL_wouldGive 15 = .ok (.iconst 0, 1) := by decide +kernel
theorem dL_wouldGive_16 : decode cL_wouldGive 16 = .ok (.ireturn, 1) := by decide +kernel
theorem dL_coldIn_0 : decode cL_coldIn 0 = .ok (.aload_n 3, 1) := by decide +kernel
theorem dL_coldIn_1 : decode cL_coldIn 1 = .ok (.iconst 0, 1) := by decide +kernel
theorem dL_coldIn_2 : decode cL_coldIn 2 = .ok (.aload_n 0, 1) := by decide +kernel
theorem dL_coldIn_3 : decode cL_coldIn 3 = .ok (.iload_n 1, 1) := by decide +kernel
theorem dL_coldIn_4 : decode cL_coldIn 4 = .ok (.iload_n 2, 1) := by decide +kernel
theorem dL_coldIn_5 : decode cL_coldIn 5 = .ok (.invokevirtual 77, 3) := by decide +kernel
theorem dL_coldIn_8 : decode cL_coldIn 8 = .ok (.i2l, 1) := by decide +kernel
theorem dL_coldIn_9 : decode cL_coldIn 9 = .ok (.lastore, 1) := by decide +kernel
theorem dL_coldIn_10 : decode cL_coldIn 10 = .ok (.goto 11, 3) := by decide +kernel
theorem dL_coldIn_13 : decode cL_coldIn 13 = .ok (.astore 4, 2) := by decide +kernel
theorem dL_coldIn_15 : decode cL_coldIn 15 = .ok (.iconst 1, 1) := by decide +kernel
theorem dL_coldIn_16 : decode cL_coldIn 16 = .ok (.ireturn, 1) := by decide +kernel
theorem dL_coldIn_17 : decode cL_coldIn 17 = .ok (.astore 4, 2) := by decide +kernel
theorem dL_coldIn_19 : decode cL_coldIn 19 = .ok (.iconst 2, 1) := by decide +kernel
theorem dL_coldIn_20 : decode cL_coldIn 20 = .ok (.ireturn, 1) := by decide +kernel
theorem dL_coldIn_21 : decode cL_coldIn 21 = .ok (.iconst 0, 1) := by decide +kernel
theorem dL_coldIn_22 : decode cL_coldIn 22 = .ok (.ireturn, 1) := by decide +kernel
theorem dL_causedBy_0 : decode cL_causedBy 0 = .ok (.aload 4, 2) := by decide +kernel
theorem dL_causedBy_2 : decode cL_causedBy 2 = .ok (.iconst 0, 1) := by decide +kernel
theorem dL_causedBy_3 : decode cL_causedBy 3 = .ok (.aload_n 0, 1) := by decide +kernel
theorem dL_causedBy_4 : decode cL_causedBy 4 = .ok (.iload_n 1, 1) := by decide +kernel
theorem dL_causedBy_5 : decode cL_causedBy 5 = .ok (.iload_n 2, 1) := by decide +kernel
theorem dL_causedBy_6 : decode cL_causedBy 6 = .ok (.iload_n 3, 1) := by decide +kernel
theorem dL_causedBy_7 : decode cL_causedBy 7 = .ok (.invokevirtual 80, 3) := by decide +kernel
theorem dL_causedBy_10 : decode cL_causedBy 10 = .ok (.i2l, 1) := by decide +kernel
theorem dL_causedBy_11 : decode cL_causedBy 11 = .ok (.lastore, 1) := by decide +kernel
theorem dL_causedBy_12 : decode cL_causedBy 12 = .ok (.goto 11, 3) := by decide +kernel
theorem dL_causedBy_15 : decode cL_causedBy 15 = .ok (.astore 5, 2) := by decide +kernel
theorem dL_causedBy_17 : decode cL_causedBy 17 = .ok (.iconst 1, 1) := by decide +kernel
theorem dL_causedBy_18 : decode cL_causedBy 18 = .ok (.ireturn, 1) := by decide +kernel
theorem dL_causedBy_19 : decode cL_causedBy 19 = .ok (.astore 5, 2) := by decide +kernel
theorem dL_causedBy_21 : decode cL_causedBy 21 = .ok (.iconst 2, 1) := by decide +kernel
theorem dL_causedBy_22 : decode cL_causedBy 22 = .ok (.ireturn, 1) := by decide +kernel
theorem dL_causedBy_23 : decode cL_causedBy 23 = .ok (.iconst 0, 1) := by decide +kernel
theorem dL_causedBy_24 : decode cL_causedBy 24 = .ok (.ireturn, 1) := by decide +kernel
theorem dL_bestValves_0 : decode cL_bestValves 0 = .ok (.aload_n 2, 1) := by decide +kernel
theorem dL_bestValves_1 : decode cL_bestValves 1 = .ok (.iconst 0, 1) := by decide +kernel
theorem dL_bestValves_2 : decode cL_bestValves 2 = .ok (.aload_n 0, 1) := by decide +kernel
theorem dL_bestValves_3 : decode cL_bestValves 3 = .ok (.iload_n 1, 1) := by decide +kernel
theorem dL_bestValves_4 : decode cL_bestValves 4 = .ok (.invokevirtual 83, 3) := by decide +kernel
theorem dL_bestValves_7 : decode cL_bestValves 7 = .ok (.i2l, 1) := by decide +kernel
theorem dL_bestValves_8 : decode cL_bestValves 8 = .ok (.lastore, 1) := by decide +kernel
theorem dL_bestValves_9 : decode cL_bestValves 9 = .ok (.goto 6, 3) := by decide +kernel
theorem dL_bestValves_12 : decode cL_bestValves 12 = .ok (.astore_n 3, 1) := by decide +kernel
theorem dL_bestValves_13 : decode cL_bestValves 13 = .ok (.iconst 1, 1) := by decide +kernel
theorem dL_bestValves_14 : decode cL_bestValves 14 = .ok (.ireturn, 1) := by decide +kernel
theorem dL_bestValves_15 : decode cL_bestValves 15 = .ok (.iconst 0, 1) := by decide +kernel
theorem dL_bestValves_16 : decode cL_bestValves 16 = .ok (.ireturn, 1) := by decide +kernel
set_option maxRecDepth 20000 in
theorem gL_block_X8_block : GoodIn wsL_block (wsV RL 7 RX8 yX8_block wsX8_block) := goodIn_app (goodIn_of _ (by decide +kernel)) ggL_block_X8_block
set_option maxRecDepth 20000 in
theorem gL_face_X8_face : GoodIn wsL_face (wsV RL 17 RX8 yX8_face wsX8_face) := goodIn_app (goodIn_of _ (by decide +kernel)) ggL_face_X8_face
set_option maxRecDepth 20000 in
theorem gL_well_X8_well : GoodIn wsL_well (wsV RL 23 RX8 yX8_well wsX8_well) := goodIn_app (goodIn_of _ (by decide +kernel)) ggL_well_X8_well
set_option maxRecDepth 20000 in
theorem gL_spring_X8_spring : GoodIn wsL_spring (wsV RL 27 RX8 yX8_spring wsX8_spring) := goodIn_app (goodIn_of _ (by decide +kernel)) ggL_spring_X8_spring
set_option maxRecDepth 20000 in
theorem gL_valve_X8_valve : GoodIn wsL_valve (wsV RL 30 RX8 yX8_valve wsX8_valve) := goodIn_app (goodIn_of _ (by decide +kernel)) ggL_valve_X8_valve
set_option maxRecDepth 20000 in
theorem gL_trace_X8_trace : GoodIn wsL_trace (wsV RL 34 RX8 yX8_trace wsX8_trace) := goodIn_app (goodIn_of _ (by decide +kernel)) ggL_trace_X8_trace
set_option maxRecDepth 20000 in
theorem gL_clean_X8_clean : GoodIn wsL_clean (wsV RL 37 RX8 yX8_clean wsX8_clean) := goodIn_app (goodIn_of _ (by decide +kernel)) ggL_clean_X8_clean
set_option maxRecDepth 20000 in
theorem gL_turbine_X8_turbine : GoodIn wsL_turbine (wsV RL 41 RX8 yX8_turbine wsX8_turbine) := goodIn_app (goodIn_of _ (by decide +kernel)) ggL_turbine_X8_turbine
set_option maxRecDepth 20000 in
theorem gL_town_X8_town : GoodIn wsL_town (wsV RL 44 RX8 yX8_town wsX8_town) := goodIn_app (goodIn_of _ (by decide +kernel)) ggL_town_X8_town
set_option maxRecDepth 20000 in
theorem gL_run_X8_run : GoodIn wsL_run (wsV RL 47 RX8 yX8_run wsX8_run) := goodIn_app (goodIn_of _ (by decide +kernel)) ggL_run_X8_run
set_option maxRecDepth 20000 in
theorem gL_ofBlock_X8_ofBlock : GoodIn wsL_ofBlock (wsV RL 50 RX8 yX8_ofBlock wsX8_ofBlock) := goodIn_app (goodIn_of _ (by decide +kernel)) ggL_ofBlock_X8_ofBlock
set_option maxRecDepth 20000 in
theorem gL_ofWell_X8_ofWell : GoodIn wsL_ofWell (wsV RL 53 RX8 yX8_ofWell wsX8_ofWell) := goodIn_app (goodIn_of _ (by decide +kernel)) ggL_ofWell_X8_ofWell
set_option maxRecDepth 20000 in
theorem gL_ofSpring_X8_ofSpring : GoodIn wsL_ofSpring (wsV RL 56 RX8 yX8_ofSpring wsX8_ofSpring) := goodIn_app (goodIn_of _ (by decide +kernel)) ggL_ofSpring_X8_ofSpring
set_option maxRecDepth 20000 in
theorem gL_ofFace_X8_ofFace : GoodIn wsL_ofFace (wsV RL 59 RX8 yX8_ofFace wsX8_ofFace) := goodIn_app (goodIn_of _ (by decide +kernel)) ggL_ofFace_X8_ofFace
set_option maxRecDepth 20000 in
theorem gL_pond_X8_pond : GoodIn wsL_pond (wsV RL 62 RX8 yX8_pond wsX8_pond) := goodIn_app (goodIn_of _ (by decide +kernel)) ggL_pond_X8_pond
set_option maxRecDepth 20000 in
theorem gL_ofOwner_X8_ofOwner : GoodIn wsL_ofOwner (wsV RL 65 RX8 yX8_ofOwner wsX8_ofOwner) := goodIn_app (goodIn_of _ (by decide +kernel)) ggL_ofOwner_X8_ofOwner
set_option maxRecDepth 20000 in
theorem gL_mass_X8_mass : GoodIn wsL_mass (wsV RL 68 RX8 yX8_mass wsX8_mass) := goodIn_app (goodIn_of _ (by decide +kernel)) ggL_mass_X8_mass
set_option maxRecDepth 20000 in
theorem gL_many_X8_many : GoodIn wsL_many (wsV RL 71 RX8 yX8_many wsX8_many) := goodIn_app (goodIn_of _ (by decide +kernel)) ggL_many_X8_many
set_option maxRecDepth 20000 in
theorem gL_wouldGive_X8_wouldGive : GoodIn wsL_wouldGive (wsV RL 74 RX8 yX8_wouldGive wsX8_wouldGive) := goodIn_app (goodIn_of _ (by decide +kernel)) ggL_wouldGive_X8_wouldGive
set_option maxRecDepth 20000 in
theorem gL_coldIn_X8_coldIn : GoodIn wsL_coldIn (wsV RL 77 RX8 yX8_coldIn wsX8_coldIn) := goodIn_app (goodIn_of _ (by decide +kernel)) ggL_coldIn_X8_coldIn
set_option maxRecDepth 20000 in
theorem gL_causedBy_X8_causedBy : GoodIn wsL_causedBy (wsV RL 80 RX8 yX8_causedBy wsX8_causedBy) := goodIn_app (goodIn_of _ (by decide +kernel)) ggL_causedBy_X8_causedBy
set_option maxRecDepth 20000 in
theorem gL_bestValves_X8_bestValves : GoodIn wsL_bestValves (wsV RL 83 RX8 yX8_bestValves wsX8_bestValves) := goodIn_app (goodIn_of _ (by decide +kernel)) ggL_bestValves_X8_bestValves
