theorem dL_tryScript_0 : decode cL_tryScript 0 = .ok (.aload_n 0, 1) := by decide +kernel
theorem dL_tryScript_1 : decode cL_tryScript 1 = .ok (.iload_n 1, 1) := by decide +kernel
theorem dL_tryScript_2 : decode cL_tryScript 2 = .ok (.lload_n 2, 1) := by decide +kernel
theorem dL_tryScript_3 : decode cL_tryScript 3 = .ok (.invokevirtual 7, 3) := by decide +kernel
theorem dL_tryScript_6 : decode cL_tryScript 6 = .ok (.ireturn, 1) := by decide +kernel
theorem dL_tryScript_7 : decode cL_tryScript 7 = .ok (.astore 4, 2) := by decide +kernel
theorem dL_tryScript_9 : decode cL_tryScript 9 = .ok (.ldc 15, 2) := by decide +kernel
theorem dL_tryScript_11 : decode cL_tryScript 11 = .ok (.ireturn, 1) := by decide +kernel
theorem dL_trySimulate_0 : decode cL_trySimulate 0 = .ok (.aload_n 0, 1) := by decide +kernel
theorem dL_trySimulate_1 : decode cL_trySimulate 1 = .ok (.lload_n 1, 1) := by decide +kernel
theorem dL_trySimulate_2 : decode cL_trySimulate 2 = .ok (.iload_n 3, 1) := by decide +kernel
theorem dL_trySimulate_3 : decode cL_trySimulate 3 = .ok (.invokevirtual 16, 3) := by decide +kernel
theorem dL_trySimulate_6 : decode cL_trySimulate 6 = .ok (.ireturn, 1) := by decide +kernel
theorem dL_trySimulate_7 : decode cL_trySimulate 7 = .ok (.astore 4, 2) := by decide +kernel
theorem dL_trySimulate_9 : decode cL_trySimulate 9 = .ok (.ldc 15, 2) := by decide +kernel
theorem dL_trySimulate_11 : decode cL_trySimulate 11 = .ok (.ireturn, 1) := by decide +kernel
theorem dL_tryAppend_0 : decode cL_tryAppend 0 = .ok (.aload_n 0, 1) := by decide +kernel
theorem dL_tryAppend_1 : decode cL_tryAppend 1 = .ok (.iload_n 1, 1) := by decide +kernel
theorem dL_tryAppend_2 : decode cL_tryAppend 2 = .ok (.invokevirtual 20, 3) := by decide +kernel
theorem dL_tryAppend_5 : decode cL_tryAppend 5 = .ok (.ireturn, 1) := by decide +kernel
theorem dL_tryAppend_6 : decode cL_tryAppend 6 = .ok (.astore_n 2, 1) := by decide +kernel
theorem dL_tryAppend_7 : decode cL_tryAppend 7 = .ok (.ldc 15, 2) := by decide +kernel
theorem dL_tryAppend_9 : decode cL_tryAppend 9 = .ok (.ireturn, 1) := by decide +kernel
theorem dL_tryAppend_10 : decode cL_tryAppend 10 = .ok (.astore_n 2, 1) := by decide +kernel
theorem dL_tryAppend_11 : decode cL_tryAppend 11 = .ok (.ldc 26, 2) := by decide +kernel
theorem dL_tryAppend_13 : decode cL_tryAppend 13 = .ok (.ireturn, 1) := by decide +kernel
theorem dL_tryLoad_0 : decode cL_tryLoad 0 = .ok (.aload_n 0, 1) := by decide +kernel
theorem dL_tryLoad_1 : decode cL_tryLoad 1 = .ok (.invokevirtual 27, 3) := by decide +kernel
theorem dL_tryLoad_4 : decode cL_tryLoad 4 = .ok (.ireturn, 1) := by decide +kernel
theorem dL_tryLoad_5 : decode cL_tryLoad 5 = .ok (.astore_n 1, 1) := by decide +kernel
theorem dL_tryLoad_6 : decode cL_tryLoad 6 = .ok (.ldc 26, 2) := by decide +kernel
theorem dL_tryLoad_8 : decode cL_tryLoad 8 = .ok (.ireturn, 1) := by decide +kernel
theorem dL_tryAbout_0 : decode cL_tryAbout 0 = .ok (.aload_n 0, 1) := by decide +kernel
theorem dL_tryAbout_1 : decode cL_tryAbout 1 = .ok (.iload_n 1, 1) := by decide +kernel
theorem dL_tryAbout_2 : decode cL_tryAbout 2 = .ok (.invokevirtual 31, 3) := by decide +kernel
theorem dL_tryAbout_5 : decode cL_tryAbout 5 = .ok (.ireturn, 1) := by decide +kernel
theorem dL_tryAbout_6 : decode cL_tryAbout 6 = .ok (.astore_n 2, 1) := by decide +kernel
theorem dL_tryAbout_7 : decode cL_tryAbout 7 = .ok (.ldc 15, 2) := by decide +kernel
theorem dL_tryAbout_9 : decode cL_tryAbout 9 = .ok (.ireturn, 1) := by decide +kernel
theorem dL_trySegment_0 : decode cL_trySegment 0 = .ok (.aload_n 0, 1) := by decide +kernel
theorem dL_trySegment_1 : decode cL_trySegment 1 = .ok (.iload_n 1, 1) := by decide +kernel
theorem dL_trySegment_2 : decode cL_trySegment 2 = .ok (.iload_n 2, 1) := by decide +kernel
theorem dL_trySegment_3 : decode cL_trySegment 3 = .ok (.invokevirtual 34, 3) := by decide +kernel
theorem dL_trySegment_6 : decode cL_trySegment 6 = .ok (.ireturn, 1) := by decide +kernel
theorem dL_trySegment_7 : decode cL_trySegment 7 = .ok (.astore_n 3, 1) := by decide +kernel
theorem dL_trySegment_8 : decode cL_trySegment 8 = .ok (.ldc 40, 2) := by decide +kernel
theorem dL_trySegment_10 : decode cL_trySegment 10 = .ok (.ireturn, 1) := by decide +kernel
theorem dL_trySegment_11 : decode cL_trySegment 11 = .ok (.astore_n 3, 1) := by decide +kernel
theorem dL_trySegment_12 : decode cL_trySegment 12 = .ok (.ldc 15, 2) := by decide +kernel
theorem dL_trySegment_14 : decode cL_trySegment 14 = .ok (.ireturn, 1) := by decide +kernel
theorem dL_tryHouse_0 : decode cL_tryHouse 0 = .ok (.aload_n 0, 1) := by decide +kernel
theorem dL_tryHouse_1 : decode cL_tryHouse 1 = .ok (.iload_n 1, 1) := by decide +kernel
theorem dL_tryHouse_2 : decode cL_tryHouse 2 = .ok (.iload_n 2, 1) := by decide +kernel
theorem dL_tryHouse_3 : decode cL_tryHouse 3 = .ok (.invokevirtual 41, 3) := by decide +kernel
theorem dL_tryHouse_6 : decode cL_tryHouse 6 = .ok (.ireturn, 1) := by decide +kernel
theorem dL_tryHouse_7 : decode cL_tryHouse 7 = .ok (.astore_n 3, 1) := by decide +kernel
theorem dL_tryHouse_8 : decode cL_tryHouse 8 = .ok (.ldc 40, 2) := by decide +kernel
theorem dL_tryHouse_10 : decode cL_tryHouse 10 = .ok (.ireturn, 1) := by decide +kernel
theorem dL_tryHouse_11 : decode cL_tryHouse 11 = .ok (.astore_n 3, 1) := by decide +kernel
theorem dL_tryHouse_12 : decode cL_tryHouse 12 = .ok (.ldc 15, 2) := by decide +kernel
theorem dL_tryHouse_14 : decode cL_tryHouse 14 = .ok (.ireturn, 1) := by decide +kernel
theorem dL_tryWagon_0 : decode cL_tryWagon 0 = .ok (.aload_n 0, 1) := by decide +kernel
theorem dL_tryWagon_1 : decode cL_tryWagon 1 = .ok (.iload_n 1, 1) := by decide +kernel
theorem dL_tryWagon_2 : decode cL_tryWagon 2 = .ok (.iload_n 2, 1) := by decide +kernel
theorem dL_tryWagon_3 : decode cL_tryWagon 3 = .ok (.invokevirtual 44, 3) := by decide +kernel
theorem dL_tryWagon_6 : decode cL_tryWagon 6 = .ok (.ireturn, 1) := by decide +kernel
theorem dL_tryWagon_7 : decode cL_tryWagon 7 = .ok (.astore_n 3, 1) := by decide +kernel
theorem dL_tryWagon_8 : decode cL_tryWagon 8 = .ok (.ldc 40, 2) := by decide +kernel
theorem dL_tryWagon_10 : decode cL_tryWagon 10 = .ok (.ireturn, 1) := by decide +kernel
theorem dL_tryWagon_11 : decode cL_tryWagon 11 = .ok (.astore_n 3, 1) := by decide +kernel
theorem dL_tryWagon_12 : decode cL_tryWagon 12 = .ok (.ldc 15, 2) := by decide +kernel
theorem dL_tryWagon_14 : decode cL_tryWagon 14 = .ok (.ireturn, 1) := by decide +kernel
theorem dL_tryBuild_0 : decode cL_tryBuild 0 = .ok (.aload_n 0, 1) := by decide +kernel
theorem dL_tryBuild_1 : decode cL_tryBuild 1 = .ok (.iload_n 1, 1) := by decide +kernel
theorem dL_tryBuild_2 : decode cL_tryBuild 2 = .ok (.iload_n 2, 1) := by decide +kernel
theorem dL_tryBuild_3 : decode cL_tryBuild 3 = .ok (.invokevirtual 47, 3) := by decide +kernel
theorem dL_tryBuild_6 : decode cL_tryBuild 6 = .ok (.ireturn, 1) := by decide +kernel
theorem dL_tryBuild_7 : decode cL_tryBuild 7 = .ok (.astore_n 3, 1) := by decide +kernel
theorem dL_tryBuild_8 : decode cL_tryBuild 8 = .ok (.ldc 40, 2) := by decide +kernel
theorem dL_tryBuild_10 : decode cL_tryBuild 10 = .ok (.ireturn, 1) := by decide +kernel
theorem dL_tryBuild_11 : decode cL_tryBuild 11 = .ok (.astore_n 3, 1) := by decide +kernel
theorem dL_tryBuild_12 : decode cL_tryBuild 12 = .ok (.ldc 15, 2) := by decide +kernel
theorem dL_tryBuild_14 : decode cL_tryBuild 14 = .ok (.ireturn, 1) := by decide +kernel
theorem dL_tryBuild_15 : decode cL_tryBuild 15 = .ok (.astore_n 3, 1) := by decide +kernel
theorem dL_tryBuild_16 : decode cL_tryBuild 16 = .ok (.ldc 26, 2) := by decide +kernel
theorem dL_tryBuild_18 : decode cL_tryBuild 18 = .ok (.ireturn, 1) := by decide +kernel
theorem dL_tryBring_0 : decode cL_tryBring 0 = .ok (.aload_n 0, 1) := by decide +kernel
theorem dL_tryBring_1 : decode cL_tryBring 1 = .ok (.iload_n 1, 1) := by decide +kernel
theorem dL_tryBring_2 : decode cL_tryBring 2 = .ok (.invokevirtual 50, 3) := by decide +kernel
theorem dL_tryBring_5 : decode cL_tryBring 5 = .ok (.ireturn, 1) := by decide +kernel
theorem dL_tryBring_6 : decode cL_tryBring 6 = .ok (.astore_n 2, 1) := by decide +kernel
theorem dL_tryBring_7 : decode cL_tryBring 7 = .ok (.ldc 40, 2) := by decide +kernel
theorem dL_tryBring_9 : decode cL_tryBring 9 = .ok (.ireturn, 1) := by decide +kernel
theorem dL_tryBring_10 : decode cL_tryBring 10 = .ok (.astore_n 2, 1) := by decide +kernel
theorem dL_tryBring_11 : decode cL_tryBring 11 = .ok (.ldc 26, 2) := by decide +kernel
theorem dL_tryBring_13 : decode cL_tryBring 13 = .ok (.ireturn, 1) := by decide +kernel
theorem dL_trySurface_0 : decode cL_trySurface 0 = .ok (.aload_n 0, 1) := by decide +kernel
theorem dL_trySurface_1 : decode cL_trySurface 1 = .ok (.iload_n 1, 1) := by decide +kernel
theorem dL_trySurface_2 : decode cL_trySurface 2 = .ok (.iload_n 2, 1) := by decide +kernel
theorem dL_trySurface_3 : decode cL_trySurface 3 = .ok (.invokevirtual 53, 3) := by decide +kernel
theorem dL_trySurface_6 : decode cL_trySurface 6 = .ok (.ireturn, 1) := by decide +kernel
theorem dL_trySurface_7 : decode cL_trySurface 7 = .ok (.astore_n 3, 1) := by decide +kernel
theorem dL_trySurface_8 : decode cL_trySurface 8 = .ok (.ldc 40, 2) := by decide +kernel
theorem dL_trySurface_10 : decode cL_trySurface 10 = .ok (.ireturn, 1) := by decide +kernel
theorem dL_trySurface_11 : decode cL_trySurface 11 = .ok (.astore_n 3, 1) := by decide +kernel
theorem dL_trySurface_12 : decode cL_trySurface 12 = .ok (.ldc 15, 2) := by decide +kernel
theorem dL_trySurface_14 : decode cL_trySurface 14 = .ok (.ireturn, 1) := by decide +kernel
theorem dL_tryLimit_0 : decode cL_tryLimit 0 = .ok (.aload_n 0, 1) := by decide +kernel
theorem dL_tryLimit_1 : decode cL_tryLimit 1 = .ok (.iload_n 1, 1) := by decide +kernel
theorem dL_tryLimit_2 : decode cL_tryLimit 2 = .ok (.iload_n 2, 1) := by decide +kernel
theorem dL_tryLimit_3 : decode cL_tryLimit 3 = .ok (.invokevirtual 56, 3) := by decide +kernel
theorem dL_tryLimit_6 : decode cL_tryLimit 6 = .ok (.ireturn, 1) := by decide +kernel
theorem dL_tryLimit_7 : decode cL_tryLimit 7 = .ok (.astore_n 3, 1) := by decide +kernel
theorem dL_tryLimit_8 : decode cL_tryLimit 8 = .ok (.ldc 40, 2) := by decide +kernel
theorem dL_tryLimit_10 : decode cL_tryLimit 10 = .ok (.ireturn, 1) := by decide +kernel
theorem dL_tryLimit_11 : decode cL_tryLimit 11 = .ok (.astore_n 3, 1) := by decide +kernel
theorem dL_tryLimit_12 : decode cL_tryLimit 12 = .ok (.ldc 15, 2) := by decide +kernel
theorem dL_tryLimit_14 : decode cL_tryLimit 14 = .ok (.ireturn, 1) := by decide +kernel
theorem dL_tryLimit_15 : decode cL_tryLimit 15 = .ok (.astore_n 3, 1) := by decide +kernel
theorem dL_tryLimit_16 : decode cL_tryLimit 16 = .ok (.ldc 26, 2) := by decide +kernel
theorem dL_tryLimit_18 : decode cL_tryLimit 18 = .ok (.ireturn, 1) := by decide +kernel
theorem dL_trySet_0 : decode cL_trySet 0 = .ok (.aload_n 0, 1) := by decide +kernel
theorem dL_trySet_1 : decode cL_trySet 1 = .ok (.iload_n 1, 1) := by decide +kernel
theorem dL_trySet_2 : decode cL_trySet 2 = .ok (.iload_n 2, 1) := by decide +kernel
theorem dL_trySet_3 : decode cL_trySet 3 = .ok (.invokevirtual 59, 3) := by decide +kernel
theorem dL_trySet_6 : decode cL_trySet 6 = .ok (.ireturn, 1) := by decide +kernel
theorem dL_trySet_7 : decode cL_trySet 7 = .ok (.astore_n 3, 1) := by decide +kernel
theorem dL_trySet_8 : decode cL_trySet 8 = .ok (.ldc 15, 2) := by decide +kernel
theorem dL_trySet_10 : decode cL_trySet 10 = .ok (.ireturn, 1) := by decide +kernel
theorem dL_tryDrive_0 : decode cL_tryDrive 0 = .ok (.aload_n 0, 1) := by decide +kernel
theorem dL_tryDrive_1 : decode cL_tryDrive 1 = .ok (.iload_n 1, 1) := by decide +kernel
theorem dL_tryDrive_2 : decode cL_tryDrive 2 = .ok (.iload_n 2, 1) := by decide +kernel
theorem dL_tryDrive_3 : decode cL_tryDrive 3 = .ok (.invokevirtual 62, 3) := by decide +kernel
theorem dL_tryDrive_6 : decode cL_tryDrive 6 = .ok (.ireturn, 1) := by decide +kernel
theorem dL_tryDrive_7 : decode cL_tryDrive 7 = .ok (.astore_n 3, 1) := by decide +kernel
theorem dL_tryDrive_8 : decode cL_tryDrive 8 = .ok (.ldc 40, 2) := by decide +kernel
theorem dL_tryDrive_10 : decode cL_tryDrive 10 = .ok (.ireturn, 1) := by decide +kernel
theorem dL_tryDrive_11 : decode cL_tryDrive 11 = .ok (.astore_n 3, 1) := by decide +kernel
theorem dL_tryDrive_12 : decode cL_tryDrive 12 = .ok (.ldc 26, 2) := by decide +kernel
theorem dL_tryDrive_14 : decode cL_tryDrive 14 = .ok (.ireturn, 1) := by decide +kernel
theorem dL_trySpray_0 : decode cL_trySpray 0 = .ok (.aload_n 0, 1) := by decide +kernel
theorem dL_trySpray_1 : decode cL_trySpray 1 = .ok (.iload_n 1, 1) := by decide +kernel
theorem dL_trySpray_2 : decode cL_trySpray 2 = .ok (.iload_n 2, 1) := by decide +kernel
theorem dL_trySpray_3 : decode cL_trySpray 3 = .ok (.invokevirtual 65, 3) := by decide +kernel
theorem dL_trySpray_6 : decode cL_trySpray 6 = .ok (.ireturn, 1) := by decide +kernel
theorem dL_trySpray_7 : decode cL_trySpray 7 = .ok (.astore_n 3, 1) := by decide +kernel
theorem dL_trySpray_8 : decode cL_trySpray 8 = .ok (.ldc 40, 2) := by decide +kernel
theorem dL_trySpray_10 : decode cL_trySpray 10 = .ok (.ireturn, 1) := by decide +kernel
theorem dL_trySpray_11 : decode cL_trySpray 11 = .ok (.astore_n 3, 1) := by decide +kernel
theorem dL_trySpray_12 : decode cL_trySpray 12 = .ok (.ldc 15, 2) := by decide +kernel
theorem dL_trySpray_14 : decode cL_trySpray 14 = .ok (.ireturn, 1) := by decide +kernel
theorem dL_trySpray_15 : decode cL_trySpray 15 = .ok (.astore_n 3, 1) := by decide +kernel
theorem dL_trySpray_16 : decode cL_trySpray 16 = .ok (.ldc 26, 2) := by decide +kernel
theorem dL_trySpray_18 : decode cL_trySpray 18 = .ok (.ireturn, 1) := by decide +kernel
theorem dL_tryFill_0 : decode cL_tryFill 0 = .ok (.aload_n 0, 1) := by decide +kernel
theorem dL_tryFill_1 : decode cL_tryFill 1 = .ok (.iload_n 1, 1) := by decide +kernel
theorem dL_tryFill_2 : decode cL_tryFill 2 = .ok (.invokevirtual 68, 3) := by decide +kernel
theorem dL_tryFill_5 : decode cL_tryFill 5 = .ok (.ireturn, 1) := by decide +kernel
theorem dL_tryFill_6 : decode cL_tryFill 6 = .ok (.astore_n 2, 1) := by decide +kernel
theorem dL_tryFill_7 : decode cL_tryFill 7 = .ok (.ldc 40, 2) := by decide +kernel
theorem dL_tryFill_9 : decode cL_tryFill 9 = .ok (.ireturn, 1) := by decide +kernel
theorem dL_tryFill_10 : decode cL_tryFill 10 = .ok (.astore_n 2, 1) := by decide +kernel
theorem dL_tryFill_11 : decode cL_tryFill 11 = .ok (.ldc 26, 2) := by decide +kernel
theorem dL_tryFill_13 : decode cL_tryFill 13 = .ok (.ireturn, 1) := by decide +kernel
theorem dL_tryPass_0 : decode cL_tryPass 0 = .ok (.aload_n 0, 1) := by decide +kernel
theorem dL_tryPass_1 : decode cL_tryPass 1 = .ok (.iload_n 1, 1) := by decide +kernel
theorem dL_tryPass_2 : decode cL_tryPass 2 = .ok (.invokevirtual 71, 3) := by decide +kernel
theorem dL_tryPass_5 : decode cL_tryPass 5 = .ok (.ireturn, 1) := by decide +kernel
theorem dL_tryPass_6 : decode cL_tryPass 6 = .ok (.astore_n 2, 1) := by decide +kernel
theorem dL_tryPass_7 : decode cL_tryPass 7 = .ok (.ldc 15, 2) := by decide +kernel
theorem dL_tryPass_9 : decode cL_tryPass 9 = .ok (.ireturn, 1) := by decide +kernel
theorem dL_tryUndo_0 : decode cL_tryUndo 0 = .ok (.aload_n 0, 1) := by decide +kernel
theorem dL_tryUndo_1 : decode cL_tryUndo 1 = .ok (.invokevirtual 74, 3) := by decide +kernel
theorem dL_tryUndo_4 : decode cL_tryUndo 4 = .ok (.ireturn, 1) := by decide +kernel
theorem dL_tryUndo_5 : decode cL_tryUndo 5 = .ok (.astore_n 1, 1) := by decide +kernel
theorem dL_tryUndo_6 : decode cL_tryUndo 6 = .ok (.ldc 26, 2) := by decide +kernel
theorem dL_tryUndo_8 : decode cL_tryUndo 8 = .ok (.ireturn, 1) := by decide +kernel
theorem dL_tryWhy_0 : decode cL_tryWhy 0 = .ok (.aload_n 0, 1) := by decide +kernel
theorem dL_tryWhy_1 : decode cL_tryWhy 1 = .ok (.iload_n 1, 1) := by decide +kernel
theorem dL_tryWhy_2 : decode cL_tryWhy 2 = .ok (.invokevirtual 77, 3) := by decide +kernel
theorem dL_tryWhy_5 : decode cL_tryWhy 5 = .ok (.ireturn, 1) := by decide +kernel
theorem dL_tryWhy_6 : decode cL_tryWhy 6 = .ok (.astore_n 2, 1) := by decide +kernel
theorem dL_tryWhy_7 : decode cL_tryWhy 7 = .ok (.ldc 40, 2) := by decide +kernel
theorem dL_tryWhy_9 : decode cL_tryWhy 9 = .ok (.ireturn, 1) := by decide +kernel
theorem dL_tryAhead_0 : decode cL_tryAhead 0 = .ok (.aload_n 0, 1) := by decide +kernel
theorem dL_tryAhead_1 : decode cL_tryAhead 1 = .ok (.iload_n 1, 1) := by decide +kernel
theorem dL_tryAhead_2 : decode cL_tryAhead 2 = .ok (.iload_n 2, 1) := by decide +kernel
theorem dL_tryAhead_3 : decode cL_tryAhead 3 = .ok (.invokevirtual 80, 3) := by decide +kernel
theorem dL_tryAhead_6 : decode cL_tryAhead 6 = .ok (.ireturn, 1) := by decide +kernel
theorem dL_tryAhead_7 : decode cL_tryAhead 7 = .ok (.astore_n 3, 1) := by decide +kernel
theorem dL_tryAhead_8 : decode cL_tryAhead 8 = .ok (.ldc 40, 2) := by decide +kernel
theorem dL_tryAhead_10 : decode cL_tryAhead 10 = .ok (.ireturn, 1) := by decide +kernel
theorem dL_tryAhead_11 : decode cL_tryAhead 11 = .ok (.astore_n 3, 1) := by decide +kernel
theorem dL_tryAhead_12 : decode cL_tryAhead 12 = .ok (.ldc 15, 2) := by decide +kernel
theorem dL_tryAhead_14 : decode cL_tryAhead 14 = .ok (.ireturn, 1) := by decide +kernel
theorem dL_tryWater_0 : decode cL_tryWater 0 = .ok (.aload_n 0, 1) := by decide +kernel
theorem dL_tryWater_1 : decode cL_tryWater 1 = .ok (.iload_n 1, 1) := by decide +kernel
theorem dL_tryWater_2 : decode cL_tryWater 2 = .ok (.invokevirtual 83, 3) := by decide +kernel
theorem dL_tryWater_5 : decode cL_tryWater 5 = .ok (.ireturn, 1) := by decide +kernel
theorem dL_tryWater_6 : decode cL_tryWater 6 = .ok (.astore_n 2, 1) := by decide +kernel
