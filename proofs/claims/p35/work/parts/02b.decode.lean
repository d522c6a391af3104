theorem dL_tryScript_0 : decode cL_tryScript 0 = .ok (.aload_n 0, 1) := by decide +kernel
theorem dL_tryScript_1 : decode cL_tryScript 1 = .ok (.iload_n 1, 1) := by decide +kernel
theorem dL_tryScript_2 : decode cL_tryScript 2 = .ok (.lload_n 2, 1) := by decide +kernel
theorem dL_tryScript_3 : decode cL_tryScript 3 = .ok (.invokevirtual 7, 3) := by decide +kernel
theorem dL_tryScript_6 : decode cL_tryScript 6 = .ok (.ireturn, 1) := by decide +kernel
theorem dL_tryScript_7 : decode cL_tryScript 7 = .ok (.astore 4, 2) := by decide +kernel
theorem dL_tryScript_9 : decode cL_tryScript 9 = .ok (.ldc 15, 2) := by decide +kernel
theorem dL_tryScript_11 : decode cL_tryScript 11 = .ok (.ireturn, 1) := by decide +kernel
theorem dL_trySimulate_0 : decode cL_trySimulate 0 = .ok (.aload_n 0, 1) := by decide +kernel
theorem dL_trySimulate_1 : decode cL_trySimulate 1 = .ok (.lload_n 1, 1) := by decide +kernel
theorem dL_trySimulate_2 : decode cL_trySimulate 2 = .ok (.iload_n 3, 1) := by decide +kernel
theorem dL_trySimulate_3 : decode cL_trySimulate 3 = .ok (.invokevirtual 16, 3) := by decide +kernel
theorem dL_trySimulate_6 : decode cL_trySimulate 6 = .ok (.ireturn, 1) := by decide +kernel
theorem dL_trySimulate_7 : decode cL_trySimulate 7 = .ok (.astore 4, 2) := by decide +kernel
theorem dL_trySimulate_9 : decode cL_trySimulate 9 = .ok (.ldc 15, 2) := by decide +kernel
theorem dL_trySimulate_11 : decode cL_trySimulate 11 = .ok (.ireturn, 1) := by decide +kernel
theorem dL_tryAppend_0 : decode cL_tryAppend 0 = .ok (.aload_n 0, 1) := by decide +kernel
theorem dL_tryAppend_1 : decode cL_tryAppend 1 = .ok (.iload_n 1, 1) := by decide +kernel
theorem dL_tryAppend_2 : decode cL_tryAppend 2 = .ok (.invokevirtual 20, 3) := by decide +kernel
theorem dL_tryAppend_5 : decode cL_tryAppend 5 = .ok (.ireturn, 1) := by decide +kernel
theorem dL_tryAppend_6 : decode cL_tryAppend 6 = .ok (.astore_n 2, 1) := by decide +kernel
theorem dL_tryAppend_7 : decode cL_tryAppend 7 = .ok (.ldc 15, 2) := by decide +kernel
theorem dL_tryAppend_9 : decode cL_tryAppend 9 = .ok (.ireturn, 1) := by decide +kernel
theorem dL_tryAppend_10 : decode cL_tryAppend 10 = .ok (.astore_n 2, 1) := by decide +kernel
theorem dL_tryAppend_11 : decode cL_tryAppend 11 = .ok (.ldc 26, 2) := by decide +kernel
theorem dL_tryAppend_13 : decode cL_tryAppend 13 = .ok (.ireturn, 1) := by decide +kernel
theorem dL_tryLoad_0 : decode cL_tryLoad 0 = .ok (.aload_n 0, 1) := by decide +kernel
theorem dL_tryLoad_1 : decode cL_tryLoad 1 = .ok (.invokevirtual 27, 3) := by decide +kernel
theorem dL_tryLoad_4 : decode cL_tryLoad 4 = .ok (.ireturn, 1) := by decide +kernel
theorem dL_tryLoad_5 : decode cL_tryLoad 5 = .ok (.astore_n 1, 1) := by decide +kernel
theorem dL_tryLoad_6 : decode cL_tryLoad 6 = .ok (.ldc 26, 2) := by decide +kernel
theorem dL_tryLoad_8 : decode cL_tryLoad 8 = .ok (.ireturn, 1) := by decide +kernel
theorem dL_tryAbout_0 : decode cL_tryAbout 0 = .ok (.aload_n 0, 1) := by decide +kernel
theorem dL_tryAbout_1 : decode cL_tryAbout 1 = .ok (.iload_n 1, 1) := by decide +kernel
theorem dL_tryAbout_2 : decode cL_tryAbout 2 = .ok (.invokevirtual 31, 3) := by decide +kernel
theorem dL_tryAbout_5 : decode cL_tryAbout 5 = .ok (.ireturn, 1) := by decide +kernel
theorem dL_tryAbout_6 : decode cL_tryAbout 6 = .ok (.astore_n 2, 1) := by decide +kernel
theorem dL_tryAbout_7 : decode cL_tryAbout 7 = .ok (.ldc 15, 2) := by decide +kernel
theorem dL_tryAbout_9 : decode cL_tryAbout 9 = .ok (.ireturn, 1) := by decide +kernel
theorem dL_tryCourse_0 : decode cL_tryCourse 0 = .ok (.aload_n 0, 1) := by decide +kernel
theorem dL_tryCourse_1 : decode cL_tryCourse 1 = .ok (.iload_n 1, 1) := by decide +kernel
theorem dL_tryCourse_2 : decode cL_tryCourse 2 = .ok (.iload_n 2, 1) := by decide +kernel
theorem dL_tryCourse_3 : decode cL_tryCourse 3 = .ok (.invokevirtual 34, 3) := by decide +kernel
theorem dL_tryCourse_6 : decode cL_tryCourse 6 = .ok (.ireturn, 1) := by decide +kernel
theorem dL_tryCourse_7 : decode cL_tryCourse 7 = .ok (.astore_n 3, 1) := by decide +kernel
theorem dL_tryCourse_8 : decode cL_tryCourse 8 = .ok (.ldc 40, 2) := by decide +kernel
theorem dL_tryCourse_10 : decode cL_tryCourse 10 = .ok (.ireturn, 1) := by decide +kernel
theorem dL_tryCourse_11 : decode cL_tryCourse 11 = .ok (.astore_n 3, 1) := by decide +kernel
theorem dL_tryCourse_12 : decode cL_tryCourse 12 = .ok (.ldc 15, 2) := by decide +kernel
theorem dL_tryCourse_14 : decode cL_tryCourse 14 = .ok (.ireturn, 1) := by decide +kernel
theorem dL_tryMason_0 : decode cL_tryMason 0 = .ok (.aload_n 0, 1) := by decide +kernel
theorem dL_tryMason_1 : decode cL_tryMason 1 = .ok (.iload_n 1, 1) := by decide +kernel
theorem dL_tryMason_2 : decode cL_tryMason 2 = .ok (.iload_n 2, 1) := by decide +kernel
theorem dL_tryMason_3 : decode cL_tryMason 3 = .ok (.invokevirtual 41, 3) := by decide +kernel
theorem dL_tryMason_6 : decode cL_tryMason 6 = .ok (.ireturn, 1) := by decide +kernel
theorem dL_tryMason_7 : decode cL_tryMason 7 = .ok (.astore_n 3, 1) := by decide +kernel
theorem dL_tryMason_8 : decode cL_tryMason 8 = .ok (.ldc 40, 2) := by decide +kernel
theorem dL_tryMason_10 : decode cL_tryMason 10 = .ok (.ireturn, 1) := by decide +kernel
theorem dL_tryMason_11 : decode cL_tryMason 11 = .ok (.astore_n 3, 1) := by decide +kernel
theorem dL_tryMason_12 : decode cL_tryMason 12 = .ok (.ldc 15, 2) := by decide +kernel
theorem dL_tryMason_14 : decode cL_tryMason 14 = .ok (.ireturn, 1) := by decide +kernel
theorem dL_tryStone_0 : decode cL_tryStone 0 = .ok (.aload_n 0, 1) := by decide +kernel
theorem dL_tryStone_1 : decode cL_tryStone 1 = .ok (.iload_n 1, 1) := by decide +kernel
theorem dL_tryStone_2 : decode cL_tryStone 2 = .ok (.iload_n 2, 1) := by decide +kernel
theorem dL_tryStone_3 : decode cL_tryStone 3 = .ok (.invokevirtual 44, 3) := by decide +kernel
theorem dL_tryStone_6 : decode cL_tryStone 6 = .ok (.ireturn, 1) := by decide +kernel
theorem dL_tryStone_7 : decode cL_tryStone 7 = .ok (.astore_n 3, 1) := by decide +kernel
theorem dL_tryStone_8 : decode cL_tryStone 8 = .ok (.ldc 40, 2) := by decide +kernel
theorem dL_tryStone_10 : decode cL_tryStone 10 = .ok (.ireturn, 1) := by decide +kernel
theorem dL_tryStone_11 : decode cL_tryStone 11 = .ok (.astore_n 3, 1) := by decide +kernel
theorem dL_tryStone_12 : decode cL_tryStone 12 = .ok (.ldc 15, 2) := by decide +kernel
theorem dL_tryStone_14 : decode cL_tryStone 14 = .ok (.ireturn, 1) := by decide +kernel
theorem dL_tryWhy_0 : decode cL_tryWhy 0 = .ok (.aload_n 0, 1) := by decide +kernel
theorem dL_tryWhy_1 : decode cL_tryWhy 1 = .ok (.iload_n 1, 1) := by decide +kernel
theorem dL_tryWhy_2 : decode cL_tryWhy 2 = .ok (.invokevirtual 47, 3) := by decide +kernel
theorem dL_tryWhy_5 : decode cL_tryWhy 5 = .ok (.ireturn, 1) := by decide +kernel
theorem dL_tryWhy_6 : decode cL_tryWhy 6 = .ok (.astore_n 2, 1) := by decide +kernel
theorem dL_tryWhy_7 : decode cL_tryWhy 7 = .ok (.ldc 40, 2) := by decide +kernel
theorem dL_tryWhy_9 : decode cL_tryWhy 9 = .ok (.ireturn, 1) := by decide +kernel
theorem dL_tryBuild_0 : decode cL_tryBuild 0 = .ok (.aload_n 0, 1) := by decide +kernel
theorem dL_tryBuild_1 : decode cL_tryBuild 1 = .ok (.iload_n 1, 1) := by decide +kernel
theorem dL_tryBuild_2 : decode cL_tryBuild 2 = .ok (.iload_n 2, 1) := by decide +kernel
theorem dL_tryBuild_3 : decode cL_tryBuild 3 = .ok (.iload_n 3, 1) := by decide +kernel
theorem dL_tryBuild_4 : decode cL_tryBuild 4 = .ok (.invokevirtual 50, 3) := by decide +kernel
theorem dL_tryBuild_7 : decode cL_tryBuild 7 = .ok (.ireturn, 1) := by decide +kernel
theorem dL_tryBuild_8 : decode cL_tryBuild 8 = .ok (.astore 4, 2) := by decide +kernel
theorem dL_tryBuild_10 : decode cL_tryBuild 10 = .ok (.ldc 15, 2) := by decide +kernel
theorem dL_tryBuild_12 : decode cL_tryBuild 12 = .ok (.ireturn, 1) := by decide +kernel
theorem dL_tryBuild_13 : decode cL_tryBuild 13 = .ok (.astore 4, 2) := by decide +kernel
theorem dL_tryBuild_15 : decode cL_tryBuild 15 = .ok (.ldc 26, 2) := by decide +kernel
theorem dL_tryBuild_17 : decode cL_tryBuild 17 = .ok (.ireturn, 1) := by decide +kernel
theorem dL_tryHire_0 : decode cL_tryHire 0 = .ok (.aload_n 0, 1) := by decide +kernel
theorem dL_tryHire_1 : decode cL_tryHire 1 = .ok (.iload_n 1, 1) := by decide +kernel
theorem dL_tryHire_2 : decode cL_tryHire 2 = .ok (.iload_n 2, 1) := by decide +kernel
theorem dL_tryHire_3 : decode cL_tryHire 3 = .ok (.invokevirtual 54, 3) := by decide +kernel
theorem dL_tryHire_6 : decode cL_tryHire 6 = .ok (.ireturn, 1) := by decide +kernel
theorem dL_tryHire_7 : decode cL_tryHire 7 = .ok (.astore_n 3, 1) := by decide +kernel
theorem dL_tryHire_8 : decode cL_tryHire 8 = .ok (.ldc 15, 2) := by decide +kernel
theorem dL_tryHire_10 : decode cL_tryHire 10 = .ok (.ireturn, 1) := by decide +kernel
theorem dL_tryHire_11 : decode cL_tryHire 11 = .ok (.astore_n 3, 1) := by decide +kernel
theorem dL_tryHire_12 : decode cL_tryHire 12 = .ok (.ldc 26, 2) := by decide +kernel
theorem dL_tryHire_14 : decode cL_tryHire 14 = .ok (.ireturn, 1) := by decide +kernel
theorem dL_tryRate_0 : decode cL_tryRate 0 = .ok (.aload_n 0, 1) := by decide +kernel
theorem dL_tryRate_1 : decode cL_tryRate 1 = .ok (.iload_n 1, 1) := by decide +kernel
theorem dL_tryRate_2 : decode cL_tryRate 2 = .ok (.iload_n 2, 1) := by decide +kernel
theorem dL_tryRate_3 : decode cL_tryRate 3 = .ok (.invokevirtual 57, 3) := by decide +kernel
theorem dL_tryRate_6 : decode cL_tryRate 6 = .ok (.ireturn, 1) := by decide +kernel
theorem dL_tryRate_7 : decode cL_tryRate 7 = .ok (.astore_n 3, 1) := by decide +kernel
theorem dL_tryRate_8 : decode cL_tryRate 8 = .ok (.ldc 40, 2) := by decide +kernel
theorem dL_tryRate_10 : decode cL_tryRate 10 = .ok (.ireturn, 1) := by decide +kernel
theorem dL_tryRate_11 : decode cL_tryRate 11 = .ok (.astore_n 3, 1) := by decide +kernel
theorem dL_tryRate_12 : decode cL_tryRate 12 = .ok (.ldc 15, 2) := by decide +kernel
theorem dL_tryRate_14 : decode cL_tryRate 14 = .ok (.ireturn, 1) := by decide +kernel
theorem dL_tryBound_0 : decode cL_tryBound 0 = .ok (.aload_n 0, 1) := by decide +kernel
theorem dL_tryBound_1 : decode cL_tryBound 1 = .ok (.iload_n 1, 1) := by decide +kernel
theorem dL_tryBound_2 : decode cL_tryBound 2 = .ok (.invokevirtual 60, 3) := by decide +kernel
theorem dL_tryBound_5 : decode cL_tryBound 5 = .ok (.ireturn, 1) := by decide +kernel
theorem dL_tryBound_6 : decode cL_tryBound 6 = .ok (.astore_n 2, 1) := by decide +kernel
theorem dL_tryBound_7 : decode cL_tryBound 7 = .ok (.ldc 15, 2) := by decide +kernel
theorem dL_tryBound_9 : decode cL_tryBound 9 = .ok (.ireturn, 1) := by decide +kernel
theorem dL_tryCut_0 : decode cL_tryCut 0 = .ok (.aload_n 0, 1) := by decide +kernel
theorem dL_tryCut_1 : decode cL_tryCut 1 = .ok (.iload_n 1, 1) := by decide +kernel
theorem dL_tryCut_2 : decode cL_tryCut 2 = .ok (.iload_n 2, 1) := by decide +kernel
theorem dL_tryCut_3 : decode cL_tryCut 3 = .ok (.iload_n 3, 1) := by decide +kernel
theorem dL_tryCut_4 : decode cL_tryCut 4 = .ok (.invokevirtual 63, 3) := by decide +kernel
theorem dL_tryCut_7 : decode cL_tryCut 7 = .ok (.ireturn, 1) := by decide +kernel
theorem dL_tryCut_8 : decode cL_tryCut 8 = .ok (.astore 4, 2) := by decide +kernel
theorem dL_tryCut_10 : decode cL_tryCut 10 = .ok (.ldc 40, 2) := by decide +kernel
theorem dL_tryCut_12 : decode cL_tryCut 12 = .ok (.ireturn, 1) := by decide +kernel
theorem dL_tryCut_13 : decode cL_tryCut 13 = .ok (.astore 4, 2) := by decide +kernel
theorem dL_tryCut_15 : decode cL_tryCut 15 = .ok (.ldc 15, 2) := by decide +kernel
theorem dL_tryCut_17 : decode cL_tryCut 17 = .ok (.ireturn, 1) := by decide +kernel
theorem dL_tryCut_18 : decode cL_tryCut 18 = .ok (.astore 4, 2) := by decide +kernel
theorem dL_tryCut_20 : decode cL_tryCut 20 = .ok (.ldc 26, 2) := by decide +kernel
theorem dL_tryCut_22 : decode cL_tryCut 22 = .ok (.ireturn, 1) := by decide +kernel
theorem dL_tryInspect_0 : decode cL_tryInspect 0 = .ok (.aload_n 0, 1) := by decide +kernel
theorem dL_tryInspect_1 : decode cL_tryInspect 1 = .ok (.iload_n 1, 1) := by decide +kernel
theorem dL_tryInspect_2 : decode cL_tryInspect 2 = .ok (.invokevirtual 66, 3) := by decide +kernel
theorem dL_tryInspect_5 : decode cL_tryInspect 5 = .ok (.ireturn, 1) := by decide +kernel
theorem dL_tryInspect_6 : decode cL_tryInspect 6 = .ok (.astore_n 2, 1) := by decide +kernel
theorem dL_tryInspect_7 : decode cL_tryInspect 7 = .ok (.ldc 40, 2) := by decide +kernel
theorem dL_tryInspect_9 : decode cL_tryInspect 9 = .ok (.ireturn, 1) := by decide +kernel
theorem dL_tryInspect_10 : decode cL_tryInspect 10 = .ok (.astore_n 2, 1) := by decide +kernel
theorem dL_tryInspect_11 : decode cL_tryInspect 11 = .ok (.ldc 26, 2) := by decide +kernel
theorem dL_tryInspect_13 : decode cL_tryInspect 13 = .ok (.ireturn, 1) := by decide +kernel
theorem dL_tryRecut_0 : decode cL_tryRecut 0 = .ok (.aload_n 0, 1) := by decide +kernel
theorem dL_tryRecut_1 : decode cL_tryRecut 1 = .ok (.iload_n 1, 1) := by decide +kernel
theorem dL_tryRecut_2 : decode cL_tryRecut 2 = .ok (.iload_n 2, 1) := by decide +kernel
theorem dL_tryRecut_3 : decode cL_tryRecut 3 = .ok (.iload_n 3, 1) := by decide +kernel
theorem dL_tryRecut_4 : decode cL_tryRecut 4 = .ok (.invokevirtual 69, 3) := by decide +kernel
theorem dL_tryRecut_7 : decode cL_tryRecut 7 = .ok (.ireturn, 1) := by decide +kernel
theorem dL_tryRecut_8 : decode cL_tryRecut 8 = .ok (.astore 4, 2) := by decide +kernel
theorem dL_tryRecut_10 : decode cL_tryRecut 10 = .ok (.ldc 40, 2) := by decide +kernel
theorem dL_tryRecut_12 : decode cL_tryRecut 12 = .ok (.ireturn, 1) := by decide +kernel
theorem dL_tryRecut_13 : decode cL_tryRecut 13 = .ok (.astore 4, 2) := by decide +kernel
theorem dL_tryRecut_15 : decode cL_tryRecut 15 = .ok (.ldc 26, 2) := by decide +kernel
theorem dL_tryRecut_17 : decode cL_tryRecut 17 = .ok (.ireturn, 1) := by decide +kernel
theorem dL_tryScrap_0 : decode cL_tryScrap 0 = .ok (.aload_n 0, 1) := by decide +kernel
theorem dL_tryScrap_1 : decode cL_tryScrap 1 = .ok (.iload_n 1, 1) := by decide +kernel
theorem dL_tryScrap_2 : decode cL_tryScrap 2 = .ok (.invokevirtual 72, 3) := by decide +kernel
theorem dL_tryScrap_5 : decode cL_tryScrap 5 = .ok (.ireturn, 1) := by decide +kernel
theorem dL_tryScrap_6 : decode cL_tryScrap 6 = .ok (.astore_n 2, 1) := by decide +kernel
theorem dL_tryScrap_7 : decode cL_tryScrap 7 = .ok (.ldc 40, 2) := by decide +kernel
theorem dL_tryScrap_9 : decode cL_tryScrap 9 = .ok (.ireturn, 1) := by decide +kernel
theorem dL_tryScrap_10 : decode cL_tryScrap 10 = .ok (.astore_n 2, 1) := by decide +kernel
theorem dL_tryScrap_11 : decode cL_tryScrap 11 = .ok (.ldc 26, 2) := by decide +kernel
theorem dL_tryScrap_13 : decode cL_tryScrap 13 = .ok (.ireturn, 1) := by decide +kernel
theorem dL_tryPlace_0 : decode cL_tryPlace 0 = .ok (.aload_n 0, 1) := by decide +kernel
theorem dL_tryPlace_1 : decode cL_tryPlace 1 = .ok (.iload_n 1, 1) := by decide +kernel
theorem dL_tryPlace_2 : decode cL_tryPlace 2 = .ok (.invokevirtual 75, 3) := by decide +kernel
theorem dL_tryPlace_5 : decode cL_tryPlace 5 = .ok (.ireturn, 1) := by decide +kernel
theorem dL_tryPlace_6 : decode cL_tryPlace 6 = .ok (.astore_n 2, 1) := by decide +kernel
theorem dL_tryPlace_7 : decode cL_tryPlace 7 = .ok (.ldc 40, 2) := by decide +kernel
theorem dL_tryPlace_9 : decode cL_tryPlace 9 = .ok (.ireturn, 1) := by decide +kernel
theorem dL_tryPlace_10 : decode cL_tryPlace 10 = .ok (.astore_n 2, 1) := by decide +kernel
theorem dL_tryPlace_11 : decode cL_tryPlace 11 = .ok (.ldc 26, 2) := by decide +kernel
theorem dL_tryPlace_13 : decode cL_tryPlace 13 = .ok (.ireturn, 1) := by decide +kernel
theorem dL_tryUndo_0 : decode cL_tryUndo 0 = .ok (.aload_n 0, 1) := by decide +kernel
theorem dL_tryUndo_1 : decode cL_tryUndo 1 = .ok (.invokevirtual 78, 3) := by decide +kernel
theorem dL_tryUndo_4 : decode cL_tryUndo 4 = .ok (.ireturn, 1) := by decide +kernel
theorem dL_tryUndo_5 : decode cL_tryUndo 5 = .ok (.astore_n 1, 1) := by decide +kernel
theorem dL_tryUndo_6 : decode cL_tryUndo 6 = .ok (.ldc 26, 2) := by decide +kernel
theorem dL_tryUndo_8 : decode cL_tryUndo 8 = .ok (.ireturn, 1) := by decide +kernel
theorem dL_tryFor_0 : decode cL_tryFor 0 = .ok (.aload_n 0, 1) := by decide +kernel
theorem dL_tryFor_1 : decode cL_tryFor 1 = .ok (.iload_n 1, 1) := by decide +kernel
theorem dL_tryFor_2 : decode cL_tryFor 2 = .ok (.invokevirtual 81, 3) := by decide +kernel
theorem dL_tryFor_5 : decode cL_tryFor 5 = .ok (.ireturn, 1) := by decide +kernel
theorem dL_tryFor_6 : decode cL_tryFor 6 = .ok (.astore_n 2, 1) := by decide +kernel
theorem dL_tryFor_7 : decode cL_tryFor 7 = .ok (.ldc 40, 2) := by decide +kernel
theorem dL_tryFor_9 : decode cL_tryFor 9 = .ok (.ireturn, 1) := by decide +kernel
theorem dL_tryCheapest_0 : decode cL_tryCheapest 0 = .ok (.aload_n 0, 1) := by decide +kernel
theorem dL_tryCheapest_1 : decode cL_tryCheapest 1 = .ok (.iload_n 1, 1) := by decide +kernel
theorem dL_tryCheapest_2 : decode cL_tryCheapest 2 = .ok (.invokevirtual 84, 3) := by decide +kernel
theorem dL_tryCheapest_5 : decode cL_tryCheapest 5 = .ok (.ireturn, 1) := by decide +kernel
theorem dL_tryCheapest_6 : decode cL_tryCheapest 6 = .ok (.astore_n 2, 1) := by decide +kernel
theorem dL_tryCheapest_7 : decode cL_tryCheapest 7 = .ok (.ldc 40, 2) := by decide +kernel
theorem dL_tryCheapest_9 : decode cL_tryCheapest 9 = .ok (.ireturn, 1) := by decide +kernel
theorem dL_tryEarn_0 : decode cL_tryEarn 0 = .ok (.aload_n 0, 1) := by decide +kernel
theorem dL_tryEarn_1 : decode cL_tryEarn 1 = .ok (.iload_n 1, 1) := by decide +kernel
theorem dL_tryEarn_2 : decode cL_tryEarn 2 = .ok (.invokevirtual 87, 3) := by decide +kernel
theorem dL_tryEarn_5 : decode cL_tryEarn 5 = .ok (.ireturn, 1) := by decide +kernel
theorem dL_tryEarn_6 : decode cL_tryEarn 6 = .ok (.astore_n 2, 1) := by decide +kernel
theorem dL_tryEarn_7 : decode cL_tryEarn 7 = .ok (.ldc 15, 2) := by decide +kernel
theorem dL_tryEarn_9 : decode cL_tryEarn 9 = .ok (.ireturn, 1) := by decide +kernel
theorem dL_trySave_0 : decode cL_trySave 0 = .ok (.aload_n 0, 1) := by decide +kernel
theorem dL_trySave_1 : decode cL_trySave 1 = .ok (.iload_n 1, 1) := by decide +kernel
theorem dL_trySave_2 : decode cL_trySave 2 = .ok (.invokevirtual 90, 3) := by decide +kernel
theorem dL_trySave_5 : decode cL_trySave 5 = .ok (.ireturn, 1) := by decide +kernel
theorem dL_trySave_6 : decode cL_trySave 6 = .ok (.astore_n 2, 1) := by decide +kernel
theorem dL_trySave_7 : decode cL_trySave 7 = .ok (.ldc 40, 2) := by decide +kernel
theorem dL_trySave_9 : decode cL_trySave 9 = .ok (.ireturn, 1) := by decide +kernel
theorem dL_tryRestore_0 : decode cL_tryRestore 0 = .ok (.aload_n 0, 1) := by decide +kernel
theorem dL_tryRestore_1 : decode cL_tryRestore 1 = .ok (.iload_n 1, 1) := by decide +kernel
theorem dL_tryRestore_2 : decode cL_tryRestore 2 = .ok (.invokevirtual 93, 3) := by decide +kernel
theorem dL_tryRestore_5 : decode cL_tryRestore 5 = .ok (.ireturn, 1) := by decide +kernel
theorem dL_tryRestore_6 : decode cL_tryRestore 6 = .ok (.astore_n 2, 1) := by decide +kernel
theorem dL_tryRestore_7 : decode cL_tryRestore 7 = .ok (.ldc 40, 2) := by decide +kernel
theorem dL_tryRestore_9 : decode cL_tryRestore 9 = .ok (.ireturn, 1) := by decide +kernel
theorem dL_tryRestore_10 : decode cL_tryRestore 10 = .ok (.astore_n 2, 1) := by decide +kernel
theorem dL_tryRestore_11 : decode cL_tryRestore 11 = .ok (.ldc 26, 2) := by decide +kernel
theorem dL_tryRestore_13 : decode cL_tryRestore 13 = .ok (.ireturn, 1) := by decide +kernel
theorem dL_call_0 : decode cL_call 0 = .ok (.iload_n 1, 1) := by decide +kernel
theorem dL_call_1 : decode cL_call 1 = .ok (.tableswitch 237 0 20 #[99, 105, 110, 116, 123, 130, 137, 143, 152, 159, 166, 172, 181, 187, 196, 202, 208, 213, 219, 225, 231], 99) := by decide +kernel
theorem dL_call_100 : decode cL_call 100 = .ok (.aload_n 0, 1) := by decide +kernel
theorem dL_call_101 : decode cL_call 101 = .ok (.iload_n 2, 1) := by decide +kernel
theorem dL_call_102 : decode cL_call 102 = .ok (.invokestatic 96, 3) := by decide +kernel
theorem dL_call_105 : decode cL_call 105 = .ok (.ireturn, 1) := by decide +kernel
theorem dL_call_106 : decode cL_call 106 = .ok (.aload_n 0, 1) := by decide +kernel
theorem dL_call_107 : decode cL_call 107 = .ok (.invokestatic 102, 3) := by decide +kernel
theorem dL_call_110 : decode cL_call 110 = .ok (.ireturn, 1) := by decide +kernel
theorem dL_call_111 : decode cL_call 111 = .ok (.aload_n 0, 1) := by decide +kernel
theorem dL_call_112 : decode cL_call 112 = .ok (.iload_n 2, 1) := by decide +kernel
theorem dL_call_113 : decode cL_call 113 = .ok (.invokestatic 106, 3) := by decide +kernel
theorem dL_call_116 : decode cL_call 116 = .ok (.ireturn, 1) := by decide +kernel
theorem dL_call_117 : decode cL_call 117 = .ok (.aload_n 0, 1) := by decide +kernel
theorem dL_call_118 : decode cL_call 118 = .ok (.iload_n 2, 1) := by decide +kernel
theorem dL_call_119 : decode cL_call 119 = .ok (.iload_n 3, 1) := by decide +kernel
theorem dL_call_120 : decode cL_call 120 = .ok (.invokestatic 109, 3) := by decide +kernel
theorem dL_call_123 : decode cL_call 123 = .ok (.ireturn, 1) := by decide +kernel
theorem dL_call_124 : decode cL_call 124 = .ok (.aload_n 0, 1) := by decide +kernel
theorem dL_call_125 : decode cL_call 125 = .ok (.iload_n 2, 1) := by decide +kernel
theorem dL_call_126 : decode cL_call 126 = .ok (.iload_n 3, 1) := by decide +kernel
theorem dL_call_127 : decode cL_call 127 = .ok (.invokestatic 113, 3) := by decide +kernel
theorem dL_call_130 : decode cL_call 130 = .ok (.ireturn, 1) := by decide +kernel
theorem dL_call_131 : decode cL_call 131 = .ok (.aload_n 0, 1) := by decide +kernel
theorem dL_call_132 : decode cL_call 132 = .ok (.iload_n 2, 1) := by decide +kernel
theorem dL_call_133 : decode cL_call 133 = .ok (.iload_n 3, 1) := by decide +kernel
theorem dL_call_134 : decode cL_call 134 = .ok (.invokestatic 116, 3) := by decide +kernel
theorem dL_call_137 : decode cL_call 137 = .ok (.ireturn, 1) := by decide +kernel
theorem dL_call_138 : decode cL_call 138 = .ok (.aload_n 0, 1) := by decide +kernel
theorem dL_call_139 : decode cL_call 139 = .ok (.iload_n 2, 1) := by decide +kernel
theorem dL_call_140 : decode cL_call 140 = .ok (.invokestatic 119, 3) := by decide +kernel
theorem dL_call_143 : decode cL_call 143 = .ok (.ireturn, 1) := by decide +kernel
theorem dL_call_144 : decode cL_call 144 = .ok (.aload_n 0, 1) := by decide +kernel
theorem dL_call_145 : decode cL_call 145 = .ok (.iload_n 2, 1) := by decide +kernel
theorem dL_call_146 : decode cL_call 146 = .ok (.iload_n 3, 1) := by decide +kernel
theorem dL_call_147 : decode cL_call 147 = .ok (.iload 4, 2) := by decide +kernel
theorem dL_call_149 : decode cL_call 149 = .ok (.invokestatic 122, 3) := by decide +kernel
theorem dL_call_152 : decode cL_call 152 = .ok (.ireturn, 1) := by decide +kernel
theorem dL_call_153 : decode cL_call 153 = .ok (.aload_n 0, 1) := by decide +kernel
theorem dL_call_154 : decode cL_call 154 = .ok (.iload_n 2, 1) := by decide +kernel
theorem dL_call_155 : decode cL_call 155 = .ok (.iload_n 3, 1) := by decide +kernel
theorem dL_call_156 : decode cL_call 156 = .ok (.invokestatic 126, 3) := by decide +kernel
theorem dL_call_159 : decode cL_call 159 = .ok (.ireturn, 1) := by decide +kernel
theorem dL_call_160 : decode cL_call 160 = .ok (.aload_n 0, 1) := by decide +kernel
theorem dL_call_161 : decode cL_call 161 = .ok (.iload_n 2, 1) := by decide +kernel
theorem dL_call_162 : decode cL_call 162 = .ok (.iload_n 3, 1) := by decide +kernel
theorem dL_call_163 : decode cL_call 163 = .ok (.invokestatic 129, 3) := by decide +kernel
theorem dL_call_166 : decode cL_call 166 = .ok (.ireturn, 1) := by decide +kernel
theorem dL_call_167 : decode cL_call 167 = .ok (.aload_n 0, 1) := by decide +kernel
theorem dL_call_168 : decode cL_call 168 = .ok (.iload_n 2, 1) := by decide +kernel
theorem dL_call_169 : decode cL_call 169 = .ok (.invokestatic 132, 3) := by decide +kernel
theorem dL_call_172 : decode cL_call 172 = .ok (.ireturn, 1) := by decide +kernel
theorem dL_call_173 : decode cL_call 173 = .ok (.aload_n 0, 1) := by decide +kernel
theorem dL_call_174 : decode cL_call 174 = .ok (.iload_n 2, 1) := by decide +kernel
theorem dL_call_175 : decode cL_call 175 = .ok (.iload_n 3, 1) := by decide +kernel
theorem dL_call_176 : decode cL_call 176 = .ok (.iload 4, 2) := by decide +kernel
theorem dL_call_178 : decode cL_call 178 = .ok (.invokestatic 135, 3) := by decide +kernel
theorem dL_call_181 : decode cL_call 181 = .ok (.ireturn, 1) := by decide +kernel
theorem dL_call_182 : decode cL_call 182 = .ok (.aload_n 0, 1) := by decide +kernel
theorem dL_call_183 : decode cL_call 183 = .ok (.iload_n 2, 1) := by decide +kernel
theorem dL_call_184 : decode cL_call 184 = .ok (.invokestatic 138, 3) := by decide +kernel
theorem dL_call_187 : decode cL_call 187 = .ok (.ireturn, 1) := by decide +kernel
theorem dL_call_188 : decode cL_call 188 = .ok (.aload_n 0, 1) := by decide +kernel
theorem dL_call_189 : decode cL_call 189 = .ok (.iload_n 2, 1) := by decide +kernel
theorem dL_call_190 : decode cL_call 190 = .ok (.iload_n 3, 1) := by decide +kernel
theorem dL_call_191 : decode cL_call 191 = .ok (.iload 4, 2) := by decide +kernel
theorem dL_call_193 : decode cL_call 193 = .ok (.invokestatic 141, 3) := by decide +kernel
theorem dL_call_196 : decode cL_call 196 = .ok (.ireturn, 1) := by decide +kernel
theorem dL_call_197 : decode cL_call 197 = .ok (.aload_n 0, 1) := by decide +kernel
theorem dL_call_198 : decode cL_call 198 = .ok (.iload_n 2, 1) := by decide +kernel
theorem dL_call_199 : decode cL_call 199 = .ok (.invokestatic 144, 3) := by decide +kernel
theorem dL_call_202 : decode cL_call 202 = .ok (.ireturn, 1) := by decide +kernel
theorem dL_call_203 : decode cL_call 203 = .ok (.aload_n 0, 1) := by decide +kernel
theorem dL_call_204 : decode cL_call 204 = .ok (.iload_n 2, 1) := by decide +kernel
theorem dL_call_205 : decode cL_call 205 = .ok (.invokestatic 147, 3) := by decide +kernel
theorem dL_call_208 : decode cL_call 208 = .ok (.ireturn, 1) := by decide +kernel
theorem dL_call_209 : decode cL_call 209 = .ok (.aload_n 0, 1) := by decide +kernel
theorem dL_call_210 : decode cL_call 210 = .ok (.invokestatic 150, 3) := by decide +kernel
theorem dL_call_213 : decode cL_call 213 = .ok (.ireturn, 1) := by decide +kernel
theorem dL_call_214 : decode cL_call 214 = .ok (.aload_n 0, 1) := by decide +kernel
theorem dL_call_215 : decode cL_call 215 = .ok (.iload_n 2, 1) := by decide +kernel
theorem dL_call_216 : decode cL_call 216 = .ok (.invokestatic 153, 3) := by decide +kernel
theorem dL_call_219 : decode cL_call 219 = .ok (.ireturn, 1) := by decide +kernel
theorem dL_call_220 : decode cL_call 220 = .ok (.aload_n 0, 1) := by decide +kernel
theorem dL_call_221 : decode cL_call 221 = .ok (.iload_n 2, 1) := by decide +kernel
theorem dL_call_222 : decode cL_call 222 = .ok (.invokestatic 156, 3) := by decide +kernel
theorem dL_call_225 : decode cL_call 225 = .ok (.ireturn, 1) := by decide +kernel
theorem dL_call_226 : decode cL_call 226 = .ok (.aload_n 0, 1) := by decide +kernel
theorem dL_call_227 : decode cL_call 227 = .ok (.iload_n 2, 1) := by decide +kernel
theorem dL_call_228 : decode cL_call 228 = .ok (.invokestatic 159, 3) := by decide +kernel
theorem dL_call_231 : decode cL_call 231 = .ok (.ireturn, 1) := by decide +kernel
theorem dL_call_232 : decode cL_call 232 = .ok (.aload_n 0, 1) := by decide +kernel
theorem dL_call_233 : decode cL_call 233 = .ok (.iload_n 2, 1) := by decide +kernel
theorem dL_call_234 : decode cL_call 234 = .ok (.invokestatic 162, 3) := by decide +kernel
theorem dL_call_237 : decode cL_call 237 = .ok (.ireturn, 1) := by decide +kernel
theorem dL_call_238 : decode cL_call 238 = .ok (.aload_n 0, 1) := by decide +kernel
theorem dL_call_239 : decode cL_call 239 = .ok (.iload_n 2, 1) := by decide +kernel
theorem dL_call_240 : decode cL_call 240 = .ok (.invokestatic 165, 3) := by decide +kernel
theorem dL_call_243 : decode cL_call 243 = .ok (.ireturn, 1) := by decide +kernel
theorem dL_cell_0 : decode cL_cell 0 = .ok (.iload_n 1, 1) := by decide +kernel
theorem dL_cell_1 : decode cL_cell 1 = .ok (.aload_n 0, 1) := by decide +kernel
theorem dL_cell_2 : decode cL_cell 2 = .ok (.arraylength, 1) := by decide +kernel
theorem dL_cell_3 : decode cL_cell 3 = .ok (.if_icmp .ge 9, 3) := by decide +kernel
theorem dL_cell_6 : decode cL_cell 6 = .ok (.aload_n 0, 1) := by decide +kernel
theorem dL_cell_7 : decode cL_cell 7 = .ok (.iload_n 1, 1) := by decide +kernel
theorem dL_cell_8 : decode cL_cell 8 = .ok (.iaload, 1) := by decide +kernel
theorem dL_cell_9 : decode cL_cell 9 = .ok (.goto 13, 3) := by decide +kernel
theorem dL_cell_12 : decode cL_cell 12 = .ok (.ldc 168, 2) := by decide +kernel
theorem dL_cell_14 : decode cL_cell 14 = .ok (.iload_n 1, 1) := by decide +kernel
theorem dL_cell_15 : decode cL_cell 15 = .ok (.iconst 3, 1) := by decide +kernel
theorem dL_cell_16 : decode cL_cell 16 = .ok (.iadd, 1) := by decide +kernel
theorem dL_cell_17 : decode cL_cell 17 = .ok (.imul, 1) := by decide +kernel
theorem dL_cell_18 : decode cL_cell 18 = .ok (.sipush 10331, 3) := by decide +kernel
theorem dL_cell_21 : decode cL_cell 21 = .ok (.iadd, 1) := by decide +kernel
theorem dL_cell_22 : decode cL_cell 22 = .ok (.ldc 169, 2) := by decide +kernel
theorem dL_cell_24 : decode cL_cell 24 = .ok (.iand, 1) := by decide +kernel
theorem dL_cell_25 : decode cL_cell 25 = .ok (.ireturn, 1) := by decide +kernel
theorem dL_about_0 : decode cL_about 0 = .ok (.aload_n 0, 1) := by decide +kernel
theorem dL_about_1 : decode cL_about 1 = .ok (.iconst 2, 1) := by decide +kernel
theorem dL_about_2 : decode cL_about 2 = .ok (.iload_n 1, 1) := by decide +kernel
theorem dL_about_3 : decode cL_about 3 = .ok (.iconst 0, 1) := by decide +kernel
theorem dL_about_4 : decode cL_about 4 = .ok (.iconst 0, 1) := by decide +kernel
theorem dL_about_5 : decode cL_about 5 = .ok (.iconst 0, 1) := by decide +kernel
theorem dL_about_6 : decode cL_about 6 = .ok (.invokestatic 170, 3) := by decide +kernel
theorem dL_about_9 : decode cL_about 9 = .ok (.ireturn, 1) := by decide +kernel
theorem dL_course_0 : decode cL_course 0 = .ok (.aload_n 0, 1) := by decide +kernel
theorem dL_course_1 : decode cL_course 1 = .ok (.iconst 3, 1) := by decide +kernel
theorem dL_course_2 : decode cL_course 2 = .ok (.iload_n 1, 1) := by decide +kernel
theorem dL_course_3 : decode cL_course 3 = .ok (.iload_n 2, 1) := by decide +kernel
theorem dL_course_4 : decode cL_course 4 = .ok (.iconst 0, 1) := by decide +kernel
theorem dL_course_5 : decode cL_course 5 = .ok (.iconst 0, 1) := by decide +kernel
theorem dL_course_6 : decode cL_course 6 = .ok (.invokestatic 170, 3) := by decide +kernel
theorem dL_course_9 : decode cL_course 9 = .ok (.ireturn, 1) := by decide +kernel
theorem dL_mason_0 : decode cL_mason 0 = .ok (.aload_n 0, 1) := by decide +kernel
theorem dL_mason_1 : decode cL_mason 1 = .ok (.iconst 4, 1) := by decide +kernel
theorem dL_mason_2 : decode cL_mason 2 = .ok (.iload_n 1, 1) := by decide +kernel
theorem dL_mason_3 : decode cL_mason 3 = .ok (.iload_n 2, 1) := by decide +kernel
theorem dL_mason_4 : decode cL_mason 4 = .ok (.iconst 0, 1) := by decide +kernel
theorem dL_mason_5 : decode cL_mason 5 = .ok (.iconst 0, 1) := by decide +kernel
theorem dL_mason_6 : decode cL_mason 6 = .ok (.invokestatic 170, 3) := by decide +kernel
theorem dL_mason_9 : decode cL_mason 9 = .ok (.ireturn, 1) := by decide +kernel
theorem dL_stone_0 : decode cL_stone 0 = .ok (.aload_n 0, 1) := by decide +kernel
theorem dL_stone_1 : decode cL_stone 1 = .ok (.iconst 5, 1) := by decide +kernel
theorem dL_stone_2 : decode cL_stone 2 = .ok (.iload_n 1, 1) := by decide +kernel
theorem dL_stone_3 : decode cL_stone 3 = .ok (.iload_n 2, 1) := by decide +kernel
theorem dL_stone_4 : decode cL_stone 4 = .ok (.iconst 0, 1) := by decide +kernel
theorem dL_stone_5 : decode cL_stone 5 = .ok (.iconst 0, 1) := by decide +kernel
theorem dL_stone_6 : decode cL_stone 6 = .ok (.invokestatic 170, 3) := by decide +kernel
theorem dL_stone_9 : decode cL_stone 9 = .ok (.ireturn, 1) := by decide +kernel
theorem dL_sum_0 : decode cL_sum 0 = .ok (.lconst 0, 1) := by decide +kernel
theorem dL_sum_1 : decode cL_sum 1 = .ok (.lstore_n 1, 1) := by decide +kernel
theorem dL_sum_2 : decode cL_sum 2 = .ok (.iconst 0, 1) := by decide +kernel
theorem dL_sum_3 : decode cL_sum 3 = .ok (.istore_n 3, 1) := by decide +kernel
theorem dL_sum_4 : decode cL_sum 4 = .ok (.iload_n 3, 1) := by decide +kernel
theorem dL_sum_5 : decode cL_sum 5 = .ok (.bipush 12, 2) := by decide +kernel
theorem dL_sum_7 : decode cL_sum 7 = .ok (.if_icmp .ge 22, 3) := by decide +kernel
theorem dL_sum_10 : decode cL_sum 10 = .ok (.ldc2_w 174, 3) := by decide +kernel
theorem dL_sum_13 : decode cL_sum 13 = .ok (.lload_n 1, 1) := by decide +kernel
theorem dL_sum_14 : decode cL_sum 14 = .ok (.lmul, 1) := by decide +kernel
theorem dL_sum_15 : decode cL_sum 15 = .ok (.aload_n 0, 1) := by decide +kernel
theorem dL_sum_16 : decode cL_sum 16 = .ok (.iload_n 3, 1) := by decide +kernel
theorem dL_sum_17 : decode cL_sum 17 = .ok (.invokestatic 176, 3) := by decide +kernel
theorem dL_sum_20 : decode cL_sum 20 = .ok (.i2l, 1) := by decide +kernel
theorem dL_sum_21 : decode cL_sum 21 = .ok (.ladd, 1) := by decide +kernel
theorem dL_sum_22 : decode cL_sum 22 = .ok (.lstore_n 1, 1) := by decide +kernel
theorem dL_sum_23 : decode cL_sum 23 = .ok (.iinc 3 1, 3) := by decide +kernel
theorem dL_sum_26 : decode cL_sum 26 = .ok (.goto (-22), 3) := by decide +kernel
theorem dL_sum_29 : decode cL_sum 29 = .ok (.iconst 0, 1) := by decide +kernel
theorem dL_sum_30 : decode cL_sum 30 = .ok (.istore_n 3, 1) := by decide +kernel
theorem dL_sum_31 : decode cL_sum 31 = .ok (.iload_n 3, 1) := by decide +kernel
theorem dL_sum_32 : decode cL_sum 32 = .ok (.aload_n 0, 1) := by decide +kernel
theorem dL_sum_33 : decode cL_sum 33 = .ok (.iconst 0, 1) := by decide +kernel
theorem dL_sum_34 : decode cL_sum 34 = .ok (.invokestatic 176, 3) := by decide +kernel
theorem dL_sum_37 : decode cL_sum 37 = .ok (.if_icmp .ge 40, 3) := by decide +kernel
theorem dL_sum_40 : decode cL_sum 40 = .ok (.iconst 0, 1) := by decide +kernel
theorem dL_sum_41 : decode cL_sum 41 = .ok (.istore 4, 2) := by decide +kernel
theorem dL_sum_43 : decode cL_sum 43 = .ok (.iload 4, 2) := by decide +kernel
theorem dL_sum_45 : decode cL_sum 45 = .ok (.bipush 7, 2) := by decide +kernel
theorem dL_sum_47 : decode cL_sum 47 = .ok (.if_icmp .ge 24, 3) := by decide +kernel
theorem dL_sum_50 : decode cL_sum 50 = .ok (.ldc2_w 174, 3) := by decide +kernel
theorem dL_sum_53 : decode cL_sum 53 = .ok (.lload_n 1, 1) := by decide +kernel
theorem dL_sum_54 : decode cL_sum 54 = .ok (.lmul, 1) := by decide +kernel
theorem dL_sum_55 : decode cL_sum 55 = .ok (.aload_n 0, 1) := by decide +kernel
theorem dL_sum_56 : decode cL_sum 56 = .ok (.iload_n 3, 1) := by decide +kernel
theorem dL_sum_57 : decode cL_sum 57 = .ok (.iload 4, 2) := by decide +kernel
theorem dL_sum_59 : decode cL_sum 59 = .ok (.invokestatic 178, 3) := by decide +kernel
theorem dL_sum_62 : decode cL_sum 62 = .ok (.i2l, 1) := by decide +kernel
theorem dL_sum_63 : decode cL_sum 63 = .ok (.ladd, 1) := by decide +kernel
theorem dL_sum_64 : decode cL_sum 64 = .ok (.lstore_n 1, 1) := by decide +kernel
theorem dL_sum_65 : decode cL_sum 65 = .ok (.iinc 4 1, 3) := by decide +kernel
theorem dL_sum_68 : decode cL_sum 68 = .ok (.goto (-25), 3) := by decide +kernel
theorem dL_sum_71 : decode cL_sum 71 = .ok (.iinc 3 1, 3) := by decide +kernel
theorem dL_sum_74 : decode cL_sum 74 = .ok (.goto (-43), 3) := by decide +kernel
theorem dL_sum_77 : decode cL_sum 77 = .ok (.iconst 0, 1) := by decide +kernel
theorem dL_sum_78 : decode cL_sum 78 = .ok (.istore_n 3, 1) := by decide +kernel
theorem dL_sum_79 : decode cL_sum 79 = .ok (.iload_n 3, 1) := by decide +kernel
theorem dL_sum_80 : decode cL_sum 80 = .ok (.aload_n 0, 1) := by decide +kernel
theorem dL_sum_81 : decode cL_sum 81 = .ok (.iconst 1, 1) := by decide +kernel
theorem dL_sum_82 : decode cL_sum 82 = .ok (.invokestatic 176, 3) := by decide +kernel
theorem dL_sum_85 : decode cL_sum 85 = .ok (.if_icmp .ge 40, 3) := by decide +kernel
theorem dL_sum_88 : decode cL_sum 88 = .ok (.iconst 0, 1) := by decide +kernel
theorem dL_sum_89 : decode cL_sum 89 = .ok (.istore 4, 2) := by decide +kernel
theorem dL_sum_91 : decode cL_sum 91 = .ok (.iload 4, 2) := by decide +kernel
theorem dL_sum_93 : decode cL_sum 93 = .ok (.bipush 6, 2) := by decide +kernel
theorem dL_sum_95 : decode cL_sum 95 = .ok (.if_icmp .ge 24, 3) := by decide +kernel
theorem dL_sum_98 : decode cL_sum 98 = .ok (.ldc2_w 174, 3) := by decide +kernel
theorem dL_sum_101 : decode cL_sum 101 = .ok (.lload_n 1, 1) := by decide +kernel
theorem dL_sum_102 : decode cL_sum 102 = .ok (.lmul, 1) := by decide +kernel
theorem dL_sum_103 : decode cL_sum 103 = .ok (.aload_n 0, 1) := by decide +kernel
theorem dL_sum_104 : decode cL_sum 104 = .ok (.iload_n 3, 1) := by decide +kernel
theorem dL_sum_105 : decode cL_sum 105 = .ok (.iload 4, 2) := by decide +kernel
theorem dL_sum_107 : decode cL_sum 107 = .ok (.invokestatic 180, 3) := by decide +kernel
theorem dL_sum_110 : decode cL_sum 110 = .ok (.i2l, 1) := by decide +kernel
theorem dL_sum_111 : decode cL_sum 111 = .ok (.ladd, 1) := by decide +kernel
theorem dL_sum_112 : decode cL_sum 112 = .ok (.lstore_n 1, 1) := by decide +kernel
theorem dL_sum_113 : decode cL_sum 113 = .ok (.iinc 4 1, 3) := by decide +kernel
theorem dL_sum_116 : decode cL_sum 116 = .ok (.goto (-25), 3) := by decide +kernel
theorem dL_sum_119 : decode cL_sum 119 = .ok (.iinc 3 1, 3) := by decide +kernel
theorem dL_sum_122 : decode cL_sum 122 = .ok (.goto (-43), 3) := by decide +kernel
theorem dL_sum_125 : decode cL_sum 125 = .ok (.iconst 0, 1) := by decide +kernel
theorem dL_sum_126 : decode cL_sum 126 = .ok (.istore_n 3, 1) := by decide +kernel
theorem dL_sum_127 : decode cL_sum 127 = .ok (.iload_n 3, 1) := by decide +kernel
theorem dL_sum_128 : decode cL_sum 128 = .ok (.aload_n 0, 1) := by decide +kernel
theorem dL_sum_129 : decode cL_sum 129 = .ok (.iconst 2, 1) := by decide +kernel
theorem dL_sum_130 : decode cL_sum 130 = .ok (.invokestatic 176, 3) := by decide +kernel
theorem dL_sum_133 : decode cL_sum 133 = .ok (.if_icmp .ge 40, 3) := by decide +kernel
theorem dL_sum_136 : decode cL_sum 136 = .ok (.iconst 0, 1) := by decide +kernel
theorem dL_sum_137 : decode cL_sum 137 = .ok (.istore 4, 2) := by decide +kernel
theorem dL_sum_139 : decode cL_sum 139 = .ok (.iload 4, 2) := by decide +kernel
theorem dL_sum_141 : decode cL_sum 141 = .ok (.bipush 6, 2) := by decide +kernel
theorem dL_sum_143 : decode cL_sum 143 = .ok (.if_icmp .ge 24, 3) := by decide +kernel
theorem dL_sum_146 : decode cL_sum 146 = .ok (.ldc2_w 174, 3) := by decide +kernel
theorem dL_sum_149 : decode cL_sum 149 = .ok (.lload_n 1, 1) := by decide +kernel
theorem dL_sum_150 : decode cL_sum 150 = .ok (.lmul, 1) := by decide +kernel
theorem dL_sum_151 : decode cL_sum 151 = .ok (.aload_n 0, 1) := by decide +kernel
theorem dL_sum_152 : decode cL_sum 152 = .ok (.iload_n 3, 1) := by decide +kernel
theorem dL_sum_153 : decode cL_sum 153 = .ok (.iload 4, 2) := by decide +kernel
theorem dL_sum_155 : decode cL_sum 155 = .ok (.invokestatic 182, 3) := by decide +kernel
theorem dL_sum_158 : decode cL_sum 158 = .ok (.i2l, 1) := by decide +kernel
theorem dL_sum_159 : decode cL_sum 159 = .ok (.ladd, 1) := by decide +kernel
theorem dL_sum_160 : decode cL_sum 160 = .ok (.lstore_n 1, 1) := by decide +kernel
theorem dL_sum_161 : decode cL_sum 161 = .ok (.iinc 4 1, 3) := by decide +kernel
theorem dL_sum_164 : decode cL_sum 164 = .ok (.goto (-25), 3) := by decide +kernel
theorem dL_sum_167 : decode cL_sum 167 = .ok (.iinc 3 1, 3) := by decide +kernel
theorem dL_sum_170 : decode cL_sum 170 = .ok (.goto (-43), 3) := by decide +kernel
theorem dL_sum_173 : decode cL_sum 173 = .ok (.lload_n 1, 1) := by decide +kernel
theorem dL_sum_174 : decode cL_sum 174 = .ok (.lreturn, 1) := by decide +kernel
theorem dL_numbers_0 : decode cL_numbers 0 = .ok (.iconst 1, 1) := by decide +kernel
theorem dL_numbers_1 : decode cL_numbers 1 = .ok (.istore_n 1, 1) := by decide +kernel
theorem dL_numbers_2 : decode cL_numbers 2 = .ok (.iconst 0, 1) := by decide +kernel
theorem dL_numbers_3 : decode cL_numbers 3 = .ok (.istore_n 2, 1) := by decide +kernel
theorem dL_numbers_4 : decode cL_numbers 4 = .ok (.iconst 0, 1) := by decide +kernel
theorem dL_numbers_5 : decode cL_numbers 5 = .ok (.istore_n 3, 1) := by decide +kernel
theorem dL_numbers_6 : decode cL_numbers 6 = .ok (.iconst 0, 1) := by decide +kernel
theorem dL_numbers_7 : decode cL_numbers 7 = .ok (.istore 4, 2) := by decide +kernel
theorem dL_numbers_9 : decode cL_numbers 9 = .ok (.iconst 1, 1) := by decide +kernel
theorem dL_numbers_10 : decode cL_numbers 10 = .ok (.istore 5, 2) := by decide +kernel
theorem dL_numbers_12 : decode cL_numbers 12 = .ok (.iconst 0, 1) := by decide +kernel
theorem dL_numbers_13 : decode cL_numbers 13 = .ok (.istore 6, 2) := by decide +kernel
theorem dL_numbers_15 : decode cL_numbers 15 = .ok (.iconst 0, 1) := by decide +kernel
theorem dL_numbers_16 : decode cL_numbers 16 = .ok (.istore 7, 2) := by decide +kernel
theorem dL_numbers_18 : decode cL_numbers 18 = .ok (.iload 7, 2) := by decide +kernel
theorem dL_numbers_20 : decode cL_numbers 20 = .ok (.aload_n 0, 1) := by decide +kernel
theorem dL_numbers_21 : decode cL_numbers 21 = .ok (.iconst 2, 1) := by decide +kernel
theorem dL_numbers_22 : decode cL_numbers 22 = .ok (.invokestatic 176, 3) := by decide +kernel
theorem dL_numbers_25 : decode cL_numbers 25 = .ok (.if_icmp .ge 97, 3) := by decide +kernel
theorem dL_numbers_28 : decode cL_numbers 28 = .ok (.iload 6, 2) := by decide +kernel
theorem dL_numbers_30 : decode cL_numbers 30 = .ok (.aload_n 0, 1) := by decide +kernel
theorem dL_numbers_31 : decode cL_numbers 31 = .ok (.iload 7, 2) := by decide +kernel
theorem dL_numbers_33 : decode cL_numbers 33 = .ok (.iconst 3, 1) := by decide +kernel
theorem dL_numbers_34 : decode cL_numbers 34 = .ok (.invokestatic 182, 3) := by decide +kernel
theorem dL_numbers_37 : decode cL_numbers 37 = .ok (.iconst 1, 1) := by decide +kernel
theorem dL_numbers_38 : decode cL_numbers 38 = .ok (.if_icmp .ne 7, 3) := by decide +kernel
theorem dL_numbers_41 : decode cL_numbers 41 = .ok (.iconst 1, 1) := by decide +kernel
theorem dL_numbers_42 : decode cL_numbers 42 = .ok (.goto 4, 3) := by decide +kernel
theorem dL_numbers_45 : decode cL_numbers 45 = .ok (.iconst 0, 1) := by decide +kernel
theorem dL_numbers_46 : decode cL_numbers 46 = .ok (.iadd, 1) := by decide +kernel
theorem dL_numbers_47 : decode cL_numbers 47 = .ok (.istore 6, 2) := by decide +kernel
theorem dL_numbers_49 : decode cL_numbers 49 = .ok (.iload_n 1, 1) := by decide +kernel
theorem dL_numbers_50 : decode cL_numbers 50 = .ok (.aload_n 0, 1) := by decide +kernel
theorem dL_numbers_51 : decode cL_numbers 51 = .ok (.iload 7, 2) := by decide +kernel
theorem dL_numbers_53 : decode cL_numbers 53 = .ok (.iconst 2, 1) := by decide +kernel
theorem dL_numbers_54 : decode cL_numbers 54 = .ok (.invokestatic 182, 3) := by decide +kernel
theorem dL_numbers_57 : decode cL_numbers 57 = .ok (.ifCond .lt 56, 3) := by decide +kernel
theorem dL_numbers_60 : decode cL_numbers 60 = .ok (.aload_n 0, 1) := by decide +kernel
theorem dL_numbers_61 : decode cL_numbers 61 = .ok (.iload 7, 2) := by decide +kernel
theorem dL_numbers_63 : decode cL_numbers 63 = .ok (.iconst 2, 1) := by decide +kernel
theorem dL_numbers_64 : decode cL_numbers 64 = .ok (.invokestatic 182, 3) := by decide +kernel
theorem dL_numbers_67 : decode cL_numbers 67 = .ok (.bipush 9, 2) := by decide +kernel
theorem dL_numbers_69 : decode cL_numbers 69 = .ok (.if_icmp .gt 44, 3) := by decide +kernel
theorem dL_numbers_72 : decode cL_numbers 72 = .ok (.aload_n 0, 1) := by decide +kernel
theorem dL_numbers_73 : decode cL_numbers 73 = .ok (.iload 7, 2) := by decide +kernel
theorem dL_numbers_75 : decode cL_numbers 75 = .ok (.iconst 4, 1) := by decide +kernel
theorem dL_numbers_76 : decode cL_numbers 76 = .ok (.invokestatic 182, 3) := by decide +kernel
theorem dL_numbers_79 : decode cL_numbers 79 = .ok (.ifCond .gt 20, 3) := by decide +kernel
theorem dL_numbers_82 : decode cL_numbers 82 = .ok (.aload_n 0, 1) := by decide +kernel
theorem dL_numbers_83 : decode cL_numbers 83 = .ok (.iload 7, 2) := by decide +kernel
theorem dL_numbers_85 : decode cL_numbers 85 = .ok (.iconst 1, 1) := by decide +kernel
theorem dL_numbers_86 : decode cL_numbers 86 = .ok (.invokestatic 182, 3) := by decide +kernel
theorem dL_numbers_89 : decode cL_numbers 89 = .ok (.aload_n 0, 1) := by decide +kernel
theorem dL_numbers_90 : decode cL_numbers 90 = .ok (.iload 7, 2) := by decide +kernel
theorem dL_numbers_92 : decode cL_numbers 92 = .ok (.iconst 5, 1) := by decide +kernel
theorem dL_numbers_93 : decode cL_numbers 93 = .ok (.invokestatic 182, 3) := by decide +kernel
theorem dL_numbers_96 : decode cL_numbers 96 = .ok (.if_icmp .ne 17, 3) := by decide +kernel
theorem dL_numbers_99 : decode cL_numbers 99 = .ok (.aload_n 0, 1) := by decide +kernel
theorem dL_numbers_100 : decode cL_numbers 100 = .ok (.iload 7, 2) := by decide +kernel
theorem dL_numbers_102 : decode cL_numbers 102 = .ok (.iconst 4, 1) := by decide +kernel
theorem dL_numbers_103 : decode cL_numbers 103 = .ok (.invokestatic 182, 3) := by decide +kernel
theorem dL_numbers_106 : decode cL_numbers 106 = .ok (.ifCond .lt 7, 3) := by decide +kernel
theorem dL_numbers_109 : decode cL_numbers 109 = .ok (.iconst 1, 1) := by decide +kernel
theorem dL_numbers_110 : decode cL_numbers 110 = .ok (.goto 4, 3) := by decide +kernel
theorem dL_numbers_113 : decode cL_numbers 113 = .ok (.iconst 0, 1) := by decide +kernel
theorem dL_numbers_114 : decode cL_numbers 114 = .ok (.iand, 1) := by decide +kernel
theorem dL_numbers_115 : decode cL_numbers 115 = .ok (.istore_n 1, 1) := by decide +kernel
theorem dL_numbers_116 : decode cL_numbers 116 = .ok (.iinc 7 1, 3) := by decide +kernel
theorem dL_numbers_119 : decode cL_numbers 119 = .ok (.goto (-101), 3) := by decide +kernel
theorem dL_numbers_122 : decode cL_numbers 122 = .ok (.iconst 0, 1) := by decide +kernel
theorem dL_numbers_123 : decode cL_numbers 123 = .ok (.istore 7, 2) := by decide +kernel
theorem dL_numbers_125 : decode cL_numbers 125 = .ok (.iconst 0, 1) := by decide +kernel
theorem dL_numbers_126 : decode cL_numbers 126 = .ok (.istore 8, 2) := by decide +kernel
theorem dL_numbers_128 : decode cL_numbers 128 = .ok (.iload 8, 2) := by decide +kernel
theorem dL_numbers_130 : decode cL_numbers 130 = .ok (.aload_n 0, 1) := by decide +kernel
theorem dL_numbers_131 : decode cL_numbers 131 = .ok (.iconst 0, 1) := by decide +kernel
theorem dL_numbers_132 : decode cL_numbers 132 = .ok (.invokestatic 176, 3) := by decide +kernel
theorem dL_numbers_135 : decode cL_numbers 135 = .ok (.if_icmp .ge 159, 3) := by decide +kernel
theorem dL_numbers_138 : decode cL_numbers 138 = .ok (.aload_n 0, 1) := by decide +kernel
theorem dL_numbers_139 : decode cL_numbers 139 = .ok (.iload 8, 2) := by decide +kernel
theorem dL_numbers_141 : decode cL_numbers 141 = .ok (.iconst 3, 1) := by decide +kernel
theorem dL_numbers_142 : decode cL_numbers 142 = .ok (.invokestatic 178, 3) := by decide +kernel
theorem dL_numbers_145 : decode cL_numbers 145 = .ok (.istore 9, 2) := by decide +kernel
theorem dL_numbers_147 : decode cL_numbers 147 = .ok (.iload_n 1, 1) := by decide +kernel
theorem dL_numbers_148 : decode cL_numbers 148 = .ok (.iload 9, 2) := by decide +kernel
theorem dL_numbers_150 : decode cL_numbers 150 = .ok (.aload_n 0, 1) := by decide +kernel
theorem dL_numbers_151 : decode cL_numbers 151 = .ok (.iload 8, 2) := by decide +kernel
theorem dL_numbers_153 : decode cL_numbers 153 = .ok (.iconst 2, 1) := by decide +kernel
theorem dL_numbers_154 : decode cL_numbers 154 = .ok (.invokestatic 178, 3) := by decide +kernel
theorem dL_numbers_157 : decode cL_numbers 157 = .ok (.if_icmp .gt 17, 3) := by decide +kernel
theorem dL_numbers_160 : decode cL_numbers 160 = .ok (.iload 5, 2) := by decide +kernel
theorem dL_numbers_162 : decode cL_numbers 162 = .ok (.ifCond .ne 8, 3) := by decide +kernel
theorem dL_numbers_165 : decode cL_numbers 165 = .ok (.iload 9, 2) := by decide +kernel
theorem dL_numbers_167 : decode cL_numbers 167 = .ok (.ifCond .ne 7, 3) := by decide +kernel
theorem dL_numbers_170 : decode cL_numbers 170 = .ok (.iconst 1, 1) := by decide +kernel
theorem dL_numbers_171 : decode cL_numbers 171 = .ok (.goto 4, 3) := by decide +kernel
theorem dL_numbers_174 : decode cL_numbers 174 = .ok (.iconst 0, 1) := by decide +kernel
theorem dL_numbers_175 : decode cL_numbers 175 = .ok (.iand, 1) := by decide +kernel
theorem dL_numbers_176 : decode cL_numbers 176 = .ok (.istore_n 1, 1) := by decide +kernel
theorem dL_numbers_177 : decode cL_numbers 177 = .ok (.iload 5, 2) := by decide +kernel
theorem dL_numbers_179 : decode cL_numbers 179 = .ok (.iload 9, 2) := by decide +kernel
theorem dL_numbers_181 : decode cL_numbers 181 = .ok (.aload_n 0, 1) := by decide +kernel
theorem dL_numbers_182 : decode cL_numbers 182 = .ok (.iload 8, 2) := by decide +kernel
theorem dL_numbers_184 : decode cL_numbers 184 = .ok (.iconst 2, 1) := by decide +kernel
theorem dL_numbers_185 : decode cL_numbers 185 = .ok (.invokestatic 178, 3) := by decide +kernel
theorem dL_numbers_188 : decode cL_numbers 188 = .ok (.if_icmp .ne 7, 3) := by decide +kernel
theorem dL_numbers_191 : decode cL_numbers 191 = .ok (.iconst 1, 1) := by decide +kernel
theorem dL_numbers_192 : decode cL_numbers 192 = .ok (.goto 4, 3) := by decide +kernel
theorem dL_numbers_195 : decode cL_numbers 195 = .ok (.iconst 0, 1) := by decide +kernel
theorem dL_numbers_196 : decode cL_numbers 196 = .ok (.iand, 1) := by decide +kernel
theorem dL_numbers_197 : decode cL_numbers 197 = .ok (.istore 5, 2) := by decide +kernel
theorem dL_numbers_199 : decode cL_numbers 199 = .ok (.iload 4, 2) := by decide +kernel
theorem dL_numbers_201 : decode cL_numbers 201 = .ok (.iload 9, 2) := by decide +kernel
theorem dL_numbers_203 : decode cL_numbers 203 = .ok (.aload_n 0, 1) := by decide +kernel
theorem dL_numbers_204 : decode cL_numbers 204 = .ok (.iload 8, 2) := by decide +kernel
theorem dL_numbers_206 : decode cL_numbers 206 = .ok (.iconst 2, 1) := by decide +kernel
theorem dL_numbers_207 : decode cL_numbers 207 = .ok (.invokestatic 178, 3) := by decide +kernel
theorem dL_numbers_210 : decode cL_numbers 210 = .ok (.if_icmp .ne 7, 3) := by decide +kernel
theorem dL_numbers_213 : decode cL_numbers 213 = .ok (.iconst 1, 1) := by decide +kernel
theorem dL_numbers_214 : decode cL_numbers 214 = .ok (.goto 4, 3) := by decide +kernel
theorem dL_numbers_217 : decode cL_numbers 217 = .ok (.iconst 0, 1) := by decide +kernel
theorem dL_numbers_218 : decode cL_numbers 218 = .ok (.iadd, 1) := by decide +kernel
theorem dL_numbers_219 : decode cL_numbers 219 = .ok (.istore 4, 2) := by decide +kernel
theorem dL_numbers_221 : decode cL_numbers 221 = .ok (.iload_n 2, 1) := by decide +kernel
theorem dL_numbers_222 : decode cL_numbers 222 = .ok (.iload 9, 2) := by decide +kernel
theorem dL_numbers_224 : decode cL_numbers 224 = .ok (.iadd, 1) := by decide +kernel
theorem dL_numbers_225 : decode cL_numbers 225 = .ok (.istore_n 2, 1) := by decide +kernel
theorem dL_numbers_226 : decode cL_numbers 226 = .ok (.iload 7, 2) := by decide +kernel
theorem dL_numbers_228 : decode cL_numbers 228 = .ok (.iload 9, 2) := by decide +kernel
theorem dL_numbers_230 : decode cL_numbers 230 = .ok (.aload_n 0, 1) := by decide +kernel
theorem dL_numbers_231 : decode cL_numbers 231 = .ok (.iload 8, 2) := by decide +kernel
theorem dL_numbers_233 : decode cL_numbers 233 = .ok (.iconst 5, 1) := by decide +kernel
theorem dL_numbers_234 : decode cL_numbers 234 = .ok (.invokestatic 178, 3) := by decide +kernel
theorem dL_numbers_237 : decode cL_numbers 237 = .ok (.iadd, 1) := by decide +kernel
theorem dL_numbers_238 : decode cL_numbers 238 = .ok (.aload_n 0, 1) := by decide +kernel
theorem dL_numbers_239 : decode cL_numbers 239 = .ok (.iload 8, 2) := by decide +kernel
theorem dL_numbers_241 : decode cL_numbers 241 = .ok (.bipush 6, 2) := by decide +kernel
theorem dL_numbers_243 : decode cL_numbers 243 = .ok (.invokestatic 178, 3) := by decide +kernel
theorem dL_numbers_246 : decode cL_numbers 246 = .ok (.iadd, 1) := by decide +kernel
theorem dL_numbers_247 : decode cL_numbers 247 = .ok (.iadd, 1) := by decide +kernel
theorem dL_numbers_248 : decode cL_numbers 248 = .ok (.istore 7, 2) := by decide +kernel
theorem dL_numbers_250 : decode cL_numbers 250 = .ok (.iload_n 1, 1) := by decide +kernel
theorem dL_numbers_251 : decode cL_numbers 251 = .ok (.aload_n 0, 1) := by decide +kernel
theorem dL_numbers_252 : decode cL_numbers 252 = .ok (.iload 8, 2) := by decide +kernel
theorem dL_numbers_254 : decode cL_numbers 254 = .ok (.iconst 4, 1) := by decide +kernel
theorem dL_numbers_255 : decode cL_numbers 255 = .ok (.invokestatic 178, 3) := by decide +kernel
theorem dL_numbers_258 : decode cL_numbers 258 = .ok (.ifCond .lt 27, 3) := by decide +kernel
theorem dL_numbers_261 : decode cL_numbers 261 = .ok (.aload_n 0, 1) := by decide +kernel
theorem dL_numbers_262 : decode cL_numbers 262 = .ok (.iload 8, 2) := by decide +kernel
theorem dL_numbers_264 : decode cL_numbers 264 = .ok (.iconst 4, 1) := by decide +kernel
theorem dL_numbers_265 : decode cL_numbers 265 = .ok (.invokestatic 178, 3) := by decide +kernel
theorem dL_numbers_268 : decode cL_numbers 268 = .ok (.aload_n 0, 1) := by decide +kernel
theorem dL_numbers_269 : decode cL_numbers 269 = .ok (.iload 8, 2) := by decide +kernel
theorem dL_numbers_271 : decode cL_numbers 271 = .ok (.iconst 2, 1) := by decide +kernel
theorem dL_numbers_272 : decode cL_numbers 272 = .ok (.invokestatic 178, 3) := by decide +kernel
theorem dL_numbers_275 : decode cL_numbers 275 = .ok (.iload 9, 2) := by decide +kernel
theorem dL_numbers_277 : decode cL_numbers 277 = .ok (.isub, 1) := by decide +kernel
theorem dL_numbers_278 : decode cL_numbers 278 = .ok (.if_icmp .gt 7, 3) := by decide +kernel
theorem dL_numbers_281 : decode cL_numbers 281 = .ok (.iconst 1, 1) := by decide +kernel
theorem dL_numbers_282 : decode cL_numbers 282 = .ok (.goto 4, 3) := by decide +kernel
theorem dL_numbers_285 : decode cL_numbers 285 = .ok (.iconst 0, 1) := by decide +kernel
theorem dL_numbers_286 : decode cL_numbers 286 = .ok (.iand, 1) := by decide +kernel
theorem dL_numbers_287 : decode cL_numbers 287 = .ok (.istore_n 1, 1) := by decide +kernel
theorem dL_numbers_288 : decode cL_numbers 288 = .ok (.iinc 8 1, 3) := by decide +kernel
theorem dL_numbers_291 : decode cL_numbers 291 = .ok (.goto (-163), 3) := by decide +kernel
theorem dL_numbers_294 : decode cL_numbers 294 = .ok (.iconst 0, 1) := by decide +kernel
theorem dL_numbers_295 : decode cL_numbers 295 = .ok (.istore 8, 2) := by decide +kernel
theorem dL_numbers_297 : decode cL_numbers 297 = .ok (.iconst 0, 1) := by decide +kernel
theorem dL_numbers_298 : decode cL_numbers 298 = .ok (.istore 9, 2) := by decide +kernel
theorem dL_numbers_300 : decode cL_numbers 300 = .ok (.iconst 0, 1) := by decide +kernel
theorem dL_numbers_301 : decode cL_numbers 301 = .ok (.istore 10, 2) := by decide +kernel
theorem dL_numbers_303 : decode cL_numbers 303 = .ok (.iload 10, 2) := by decide +kernel
theorem dL_numbers_305 : decode cL_numbers 305 = .ok (.aload_n 0, 1) := by decide +kernel
theorem dL_numbers_306 : decode cL_numbers 306 = .ok (.iconst 1, 1) := by decide +kernel
theorem dL_numbers_307 : decode cL_numbers 307 = .ok (.invokestatic 176, 3) := by decide +kernel
theorem dL_numbers_310 : decode cL_numbers 310 = .ok (.if_icmp .ge 106, 3) := by decide +kernel
theorem dL_numbers_313 : decode cL_numbers 313 = .ok (.iload_n 1, 1) := by decide +kernel
theorem dL_numbers_314 : decode cL_numbers 314 = .ok (.aload_n 0, 1) := by decide +kernel
theorem dL_numbers_315 : decode cL_numbers 315 = .ok (.iload 10, 2) := by decide +kernel
theorem dL_numbers_317 : decode cL_numbers 317 = .ok (.iconst 2, 1) := by decide +kernel
theorem dL_numbers_318 : decode cL_numbers 318 = .ok (.invokestatic 180, 3) := by decide +kernel
theorem dL_numbers_321 : decode cL_numbers 321 = .ok (.ifCond .lt 52, 3) := by decide +kernel
theorem dL_numbers_324 : decode cL_numbers 324 = .ok (.aload_n 0, 1) := by decide +kernel
theorem dL_numbers_325 : decode cL_numbers 325 = .ok (.iload 10, 2) := by decide +kernel
theorem dL_numbers_327 : decode cL_numbers 327 = .ok (.iconst 2, 1) := by decide +kernel
theorem dL_numbers_328 : decode cL_numbers 328 = .ok (.invokestatic 180, 3) := by decide +kernel
theorem dL_numbers_331 : decode cL_numbers 331 = .ok (.aload_n 0, 1) := by decide +kernel
theorem dL_numbers_332 : decode cL_numbers 332 = .ok (.iload 10, 2) := by decide +kernel
theorem dL_numbers_334 : decode cL_numbers 334 = .ok (.iconst 1, 1) := by decide +kernel
theorem dL_numbers_335 : decode cL_numbers 335 = .ok (.invokestatic 180, 3) := by decide +kernel
theorem dL_numbers_338 : decode cL_numbers 338 = .ok (.if_icmp .gt 35, 3) := by decide +kernel
theorem dL_numbers_341 : decode cL_numbers 341 = .ok (.aload_n 0, 1) := by decide +kernel
theorem dL_numbers_342 : decode cL_numbers 342 = .ok (.iload 10, 2) := by decide +kernel
theorem dL_numbers_344 : decode cL_numbers 344 = .ok (.iconst 3, 1) := by decide +kernel
theorem dL_numbers_345 : decode cL_numbers 345 = .ok (.invokestatic 180, 3) := by decide +kernel
theorem dL_numbers_348 : decode cL_numbers 348 = .ok (.ifCond .lt 25, 3) := by decide +kernel
theorem dL_numbers_351 : decode cL_numbers 351 = .ok (.aload_n 0, 1) := by decide +kernel
theorem dL_numbers_352 : decode cL_numbers 352 = .ok (.iconst 4, 1) := by decide +kernel
theorem dL_numbers_353 : decode cL_numbers 353 = .ok (.invokestatic 176, 3) := by decide +kernel
theorem dL_numbers_356 : decode cL_numbers 356 = .ok (.ifCond .eq 13, 3) := by decide +kernel
theorem dL_numbers_359 : decode cL_numbers 359 = .ok (.aload_n 0, 1) := by decide +kernel
theorem dL_numbers_360 : decode cL_numbers 360 = .ok (.iload 10, 2) := by decide +kernel
theorem dL_numbers_362 : decode cL_numbers 362 = .ok (.iconst 2, 1) := by decide +kernel
theorem dL_numbers_363 : decode cL_numbers 363 = .ok (.invokestatic 180, 3) := by decide +kernel
theorem dL_numbers_366 : decode cL_numbers 366 = .ok (.ifCond .ne 7, 3) := by decide +kernel
theorem dL_numbers_369 : decode cL_numbers 369 = .ok (.iconst 1, 1) := by decide +kernel
theorem dL_numbers_370 : decode cL_numbers 370 = .ok (.goto 4, 3) := by decide +kernel
theorem dL_numbers_373 : decode cL_numbers 373 = .ok (.iconst 0, 1) := by decide +kernel
theorem dL_numbers_374 : decode cL_numbers 374 = .ok (.iand, 1) := by decide +kernel
theorem dL_numbers_375 : decode cL_numbers 375 = .ok (.istore_n 1, 1) := by decide +kernel
theorem dL_numbers_376 : decode cL_numbers 376 = .ok (.iload_n 3, 1) := by decide +kernel
theorem dL_numbers_377 : decode cL_numbers 377 = .ok (.aload_n 0, 1) := by decide +kernel
theorem dL_numbers_378 : decode cL_numbers 378 = .ok (.iload 10, 2) := by decide +kernel
theorem dL_numbers_380 : decode cL_numbers 380 = .ok (.iconst 3, 1) := by decide +kernel
theorem dL_numbers_381 : decode cL_numbers 381 = .ok (.invokestatic 180, 3) := by decide +kernel
theorem dL_numbers_384 : decode cL_numbers 384 = .ok (.iadd, 1) := by decide +kernel
theorem dL_numbers_385 : decode cL_numbers 385 = .ok (.istore_n 3, 1) := by decide +kernel
theorem dL_numbers_386 : decode cL_numbers 386 = .ok (.iload 9, 2) := by decide +kernel
theorem dL_numbers_388 : decode cL_numbers 388 = .ok (.aload_n 0, 1) := by decide +kernel
theorem dL_numbers_389 : decode cL_numbers 389 = .ok (.iload 10, 2) := by decide +kernel
theorem dL_numbers_391 : decode cL_numbers 391 = .ok (.iconst 4, 1) := by decide +kernel
theorem dL_numbers_392 : decode cL_numbers 392 = .ok (.invokestatic 180, 3) := by decide +kernel
theorem dL_numbers_395 : decode cL_numbers 395 = .ok (.iadd, 1) := by decide +kernel
theorem dL_numbers_396 : decode cL_numbers 396 = .ok (.istore 9, 2) := by decide +kernel
theorem dL_numbers_398 : decode cL_numbers 398 = .ok (.iload 8, 2) := by decide +kernel
theorem dL_numbers_400 : decode cL_numbers 400 = .ok (.aload_n 0, 1) := by decide +kernel
theorem dL_numbers_401 : decode cL_numbers 401 = .ok (.iload 10, 2) := by decide +kernel
theorem dL_numbers_403 : decode cL_numbers 403 = .ok (.iconst 5, 1) := by decide +kernel
theorem dL_numbers_404 : decode cL_numbers 404 = .ok (.invokestatic 180, 3) := by decide +kernel
theorem dL_numbers_407 : decode cL_numbers 407 = .ok (.iadd, 1) := by decide +kernel
theorem dL_numbers_408 : decode cL_numbers 408 = .ok (.istore 8, 2) := by decide +kernel
theorem dL_numbers_410 : decode cL_numbers 410 = .ok (.iinc 10 1, 3) := by decide +kernel
theorem dL_numbers_413 : decode cL_numbers 413 = .ok (.goto (-110), 3) := by decide +kernel
theorem dL_numbers_416 : decode cL_numbers 416 = .ok (.iconst 0, 1) := by decide +kernel
theorem dL_numbers_417 : decode cL_numbers 417 = .ok (.istore 10, 2) := by decide +kernel
theorem dL_numbers_419 : decode cL_numbers 419 = .ok (.iconst 0, 1) := by decide +kernel
theorem dL_numbers_420 : decode cL_numbers 420 = .ok (.istore 11, 2) := by decide +kernel
theorem dL_numbers_422 : decode cL_numbers 422 = .ok (.iload 11, 2) := by decide +kernel
theorem dL_numbers_424 : decode cL_numbers 424 = .ok (.aload_n 0, 1) := by decide +kernel
theorem dL_numbers_425 : decode cL_numbers 425 = .ok (.iconst 2, 1) := by decide +kernel
theorem dL_numbers_426 : decode cL_numbers 426 = .ok (.invokestatic 176, 3) := by decide +kernel
theorem dL_numbers_429 : decode cL_numbers 429 = .ok (.if_icmp .ge 30, 3) := by decide +kernel
theorem dL_numbers_432 : decode cL_numbers 432 = .ok (.iload 10, 2) := by decide +kernel
theorem dL_numbers_434 : decode cL_numbers 434 = .ok (.aload_n 0, 1) := by decide +kernel
theorem dL_numbers_435 : decode cL_numbers 435 = .ok (.iload 11, 2) := by decide +kernel
theorem dL_numbers_437 : decode cL_numbers 437 = .ok (.iconst 3, 1) := by decide +kernel
theorem dL_numbers_438 : decode cL_numbers 438 = .ok (.invokestatic 182, 3) := by decide +kernel
theorem dL_numbers_441 : decode cL_numbers 441 = .ok (.iconst 2, 1) := by decide +kernel
theorem dL_numbers_442 : decode cL_numbers 442 = .ok (.if_icmp .ne 7, 3) := by decide +kernel
theorem dL_numbers_445 : decode cL_numbers 445 = .ok (.iconst 1, 1) := by decide +kernel
theorem dL_numbers_446 : decode cL_numbers 446 = .ok (.goto 4, 3) := by decide +kernel
theorem dL_numbers_449 : decode cL_numbers 449 = .ok (.iconst 0, 1) := by decide +kernel
theorem dL_numbers_450 : decode cL_numbers 450 = .ok (.iadd, 1) := by decide +kernel
theorem dL_numbers_451 : decode cL_numbers 451 = .ok (.istore 10, 2) := by decide +kernel
theorem dL_numbers_453 : decode cL_numbers 453 = .ok (.iinc 11 1, 3) := by decide +kernel
theorem dL_numbers_456 : decode cL_numbers 456 = .ok (.goto (-34), 3) := by decide +kernel
theorem dL_numbers_459 : decode cL_numbers 459 = .ok (.iload_n 1, 1) := by decide +kernel
theorem dL_numbers_460 : decode cL_numbers 460 = .ok (.ifCond .eq 78, 3) := by decide +kernel
theorem dL_numbers_463 : decode cL_numbers 463 = .ok (.iload_n 2, 1) := by decide +kernel
theorem dL_numbers_464 : decode cL_numbers 464 = .ok (.aload_n 0, 1) := by decide +kernel
theorem dL_numbers_465 : decode cL_numbers 465 = .ok (.bipush 7, 2) := by decide +kernel
theorem dL_numbers_467 : decode cL_numbers 467 = .ok (.invokestatic 176, 3) := by decide +kernel
theorem dL_numbers_470 : decode cL_numbers 470 = .ok (.if_icmp .ne 68, 3) := by decide +kernel
theorem dL_numbers_473 : decode cL_numbers 473 = .ok (.iload 9, 2) := by decide +kernel
theorem dL_numbers_475 : decode cL_numbers 475 = .ok (.iload_n 2, 1) := by decide +kernel
theorem dL_numbers_476 : decode cL_numbers 476 = .ok (.if_icmp .ne 62, 3) := by decide +kernel
theorem dL_numbers_479 : decode cL_numbers 479 = .ok (.iload_n 3, 1) := by decide +kernel
theorem dL_numbers_480 : decode cL_numbers 480 = .ok (.aload_n 0, 1) := by decide +kernel
theorem dL_numbers_481 : decode cL_numbers 481 = .ok (.bipush 9, 2) := by decide +kernel
theorem dL_numbers_483 : decode cL_numbers 483 = .ok (.invokestatic 176, 3) := by decide +kernel
theorem dL_numbers_486 : decode cL_numbers 486 = .ok (.if_icmp .ne 52, 3) := by decide +kernel
theorem dL_numbers_489 : decode cL_numbers 489 = .ok (.iload 4, 2) := by decide +kernel
theorem dL_numbers_491 : decode cL_numbers 491 = .ok (.aload_n 0, 1) := by decide +kernel
theorem dL_numbers_492 : decode cL_numbers 492 = .ok (.bipush 6, 2) := by decide +kernel
theorem dL_numbers_494 : decode cL_numbers 494 = .ok (.invokestatic 176, 3) := by decide +kernel
theorem dL_numbers_497 : decode cL_numbers 497 = .ok (.if_icmp .ne 41, 3) := by decide +kernel
theorem dL_numbers_500 : decode cL_numbers 500 = .ok (.iload 8, 2) := by decide +kernel
theorem dL_numbers_502 : decode cL_numbers 502 = .ok (.iload 10, 2) := by decide +kernel
theorem dL_numbers_504 : decode cL_numbers 504 = .ok (.aload_n 0, 1) := by decide +kernel
theorem dL_numbers_505 : decode cL_numbers 505 = .ok (.bipush 8, 2) := by decide +kernel
theorem dL_numbers_507 : decode cL_numbers 507 = .ok (.invokestatic 176, 3) := by decide +kernel
theorem dL_numbers_510 : decode cL_numbers 510 = .ok (.iadd, 1) := by decide +kernel
theorem dL_numbers_511 : decode cL_numbers 511 = .ok (.if_icmp .ne 27, 3) := by decide +kernel
theorem dL_numbers_514 : decode cL_numbers 514 = .ok (.iload 7, 2) := by decide +kernel
theorem dL_numbers_516 : decode cL_numbers 516 = .ok (.iload 6, 2) := by decide +kernel
theorem dL_numbers_518 : decode cL_numbers 518 = .ok (.iadd, 1) := by decide +kernel
theorem dL_numbers_519 : decode cL_numbers 519 = .ok (.aload_n 0, 1) := by decide +kernel
theorem dL_numbers_520 : decode cL_numbers 520 = .ok (.bipush 8, 2) := by decide +kernel
theorem dL_numbers_522 : decode cL_numbers 522 = .ok (.invokestatic 176, 3) := by decide +kernel
theorem dL_numbers_525 : decode cL_numbers 525 = .ok (.iadd, 1) := by decide +kernel
theorem dL_numbers_526 : decode cL_numbers 526 = .ok (.aload_n 0, 1) := by decide +kernel
theorem dL_numbers_527 : decode cL_numbers 527 = .ok (.iconst 2, 1) := by decide +kernel
theorem dL_numbers_528 : decode cL_numbers 528 = .ok (.invokestatic 176, 3) := by decide +kernel
theorem dL_numbers_531 : decode cL_numbers 531 = .ok (.if_icmp .ne 7, 3) := by decide +kernel
theorem dL_numbers_534 : decode cL_numbers 534 = .ok (.iconst 1, 1) := by decide +kernel
theorem dL_numbers_535 : decode cL_numbers 535 = .ok (.goto 4, 3) := by decide +kernel
theorem dL_numbers_538 : decode cL_numbers 538 = .ok (.iconst 0, 1) := by decide +kernel
theorem dL_numbers_539 : decode cL_numbers 539 = .ok (.ireturn, 1) := by decide +kernel
theorem dL_sets_0 : decode cL_sets 0 = .ok (.aload_n 0, 1) := by decide +kernel
theorem dL_sets_1 : decode cL_sets 1 = .ok (.invokestatic 184, 3) := by decide +kernel
theorem dL_sets_4 : decode cL_sets 4 = .ok (.lstore_n 1, 1) := by decide +kernel
theorem dL_sets_5 : decode cL_sets 5 = .ok (.aload_n 0, 1) := by decide +kernel
theorem dL_sets_6 : decode cL_sets 6 = .ok (.invokevirtual 188, 3) := by decide +kernel
theorem dL_sets_9 : decode cL_sets 9 = .ok (.istore_n 3, 1) := by decide +kernel
theorem dL_sets_10 : decode cL_sets 10 = .ok (.iload_n 3, 1) := by decide +kernel
theorem dL_sets_11 : decode cL_sets 11 = .ok (.bipush 12, 2) := by decide +kernel
theorem dL_sets_13 : decode cL_sets 13 = .ok (.if_icmp .le 5, 3) := by decide +kernel
theorem dL_sets_16 : decode cL_sets 16 = .ok (.iconst 1, 1) := by decide +kernel
theorem dL_sets_17 : decode cL_sets 17 = .ok (.ireturn, 1) := by decide +kernel
theorem dL_sets_18 : decode cL_sets 18 = .ok (.iconst 0, 1) := by decide +kernel
theorem dL_sets_19 : decode cL_sets 19 = .ok (.istore 4, 2) := by decide +kernel
theorem dL_sets_21 : decode cL_sets 21 = .ok (.iconst 1, 1) := by decide +kernel
theorem dL_sets_22 : decode cL_sets 22 = .ok (.istore 5, 2) := by decide +kernel
theorem dL_sets_24 : decode cL_sets 24 = .ok (.iconst 1, 1) := by decide +kernel
theorem dL_sets_25 : decode cL_sets 25 = .ok (.istore 6, 2) := by decide +kernel
theorem dL_sets_27 : decode cL_sets 27 = .ok (.iload 6, 2) := by decide +kernel
theorem dL_sets_29 : decode cL_sets 29 = .ok (.ifCond .eq 150, 3) := by decide +kernel
theorem dL_sets_32 : decode cL_sets 32 = .ok (.iconst 0, 1) := by decide +kernel
theorem dL_sets_33 : decode cL_sets 33 = .ok (.istore 6, 2) := by decide +kernel
theorem dL_sets_35 : decode cL_sets 35 = .ok (.iconst 0, 1) := by decide +kernel
theorem dL_sets_36 : decode cL_sets 36 = .ok (.istore 7, 2) := by decide +kernel
theorem dL_sets_38 : decode cL_sets 38 = .ok (.iload 7, 2) := by decide +kernel
theorem dL_sets_40 : decode cL_sets 40 = .ok (.aload_n 0, 1) := by decide +kernel
theorem dL_sets_41 : decode cL_sets 41 = .ok (.iconst 2, 1) := by decide +kernel
theorem dL_sets_42 : decode cL_sets 42 = .ok (.invokestatic 176, 3) := by decide +kernel
theorem dL_sets_45 : decode cL_sets 45 = .ok (.if_icmp .ge 131, 3) := by decide +kernel
theorem dL_sets_48 : decode cL_sets 48 = .ok (.aload_n 0, 1) := by decide +kernel
theorem dL_sets_49 : decode cL_sets 49 = .ok (.bipush 6, 2) := by decide +kernel
theorem dL_sets_51 : decode cL_sets 51 = .ok (.iload 7, 2) := by decide +kernel
theorem dL_sets_53 : decode cL_sets 53 = .ok (.iconst 0, 1) := by decide +kernel
theorem dL_sets_54 : decode cL_sets 54 = .ok (.iconst 0, 1) := by decide +kernel
theorem dL_sets_55 : decode cL_sets 55 = .ok (.iconst 0, 1) := by decide +kernel
theorem dL_sets_56 : decode cL_sets 56 = .ok (.invokestatic 170, 3) := by decide +kernel
theorem dL_sets_59 : decode cL_sets 59 = .ok (.istore 8, 2) := by decide +kernel
theorem dL_sets_61 : decode cL_sets 61 = .ok (.aload_n 0, 1) := by decide +kernel
theorem dL_sets_62 : decode cL_sets 62 = .ok (.aload_n 0, 1) := by decide +kernel
theorem dL_sets_63 : decode cL_sets 63 = .ok (.iload 7, 2) := by decide +kernel
theorem dL_sets_65 : decode cL_sets 65 = .ok (.iconst 0, 1) := by decide +kernel
theorem dL_sets_66 : decode cL_sets 66 = .ok (.invokestatic 182, 3) := by decide +kernel
theorem dL_sets_69 : decode cL_sets 69 = .ok (.iconst 3, 1) := by decide +kernel
theorem dL_sets_70 : decode cL_sets 70 = .ok (.invokestatic 178, 3) := by decide +kernel
theorem dL_sets_73 : decode cL_sets 73 = .ok (.istore 9, 2) := by decide +kernel
theorem dL_sets_75 : decode cL_sets 75 = .ok (.iload 8, 2) := by decide +kernel
theorem dL_sets_77 : decode cL_sets 77 = .ok (.ifCond .ne 24, 3) := by decide +kernel
theorem dL_sets_80 : decode cL_sets 80 = .ok (.iload 4, 2) := by decide +kernel
theorem dL_sets_82 : decode cL_sets 82 = .ok (.bipush 13, 2) := by decide +kernel
theorem dL_sets_84 : decode cL_sets 84 = .ok (.if_icmp .ge 17, 3) := by decide +kernel
theorem dL_sets_87 : decode cL_sets 87 = .ok (.aload_n 0, 1) := by decide +kernel
theorem dL_sets_88 : decode cL_sets 88 = .ok (.bipush 15, 2) := by decide +kernel
theorem dL_sets_90 : decode cL_sets 90 = .ok (.iload 7, 2) := by decide +kernel
theorem dL_sets_92 : decode cL_sets 92 = .ok (.iconst 0, 1) := by decide +kernel
theorem dL_sets_93 : decode cL_sets 93 = .ok (.iconst 0, 1) := by decide +kernel
theorem dL_sets_94 : decode cL_sets 94 = .ok (.iconst 0, 1) := by decide +kernel
theorem dL_sets_95 : decode cL_sets 95 = .ok (.invokestatic 170, 3) := by decide +kernel
theorem dL_sets_98 : decode cL_sets 98 = .ok (.goto 5, 3) := by decide +kernel
theorem dL_sets_101 : decode cL_sets 101 = .ok (.ldc 26, 2) := by decide +kernel
theorem dL_sets_103 : decode cL_sets 103 = .ok (.istore 10, 2) := by decide +kernel
theorem dL_sets_105 : decode cL_sets 105 = .ok (.iload 5, 2) := by decide +kernel
theorem dL_sets_107 : decode cL_sets 107 = .ok (.iload 8, 2) := by decide +kernel
theorem dL_sets_109 : decode cL_sets 109 = .ok (.ifCond .gt 19, 3) := by decide +kernel
theorem dL_sets_112 : decode cL_sets 112 = .ok (.iload 4, 2) := by decide +kernel
theorem dL_sets_114 : decode cL_sets 114 = .ok (.bipush 12, 2) := by decide +kernel
theorem dL_sets_116 : decode cL_sets 116 = .ok (.if_icmp .gt 12, 3) := by decide +kernel
theorem dL_sets_119 : decode cL_sets 119 = .ok (.iload 10, 2) := by decide +kernel
theorem dL_sets_121 : decode cL_sets 121 = .ok (.iload 9, 2) := by decide +kernel
theorem dL_sets_123 : decode cL_sets 123 = .ok (.iconst 1, 1) := by decide +kernel
theorem dL_sets_124 : decode cL_sets 124 = .ok (.iadd, 1) := by decide +kernel
theorem dL_sets_125 : decode cL_sets 125 = .ok (.if_icmp .ne 7, 3) := by decide +kernel
theorem dL_sets_128 : decode cL_sets 128 = .ok (.iconst 1, 1) := by decide +kernel
theorem dL_sets_129 : decode cL_sets 129 = .ok (.goto 4, 3) := by decide +kernel
theorem dL_sets_132 : decode cL_sets 132 = .ok (.iconst 0, 1) := by decide +kernel
theorem dL_sets_133 : decode cL_sets 133 = .ok (.iand, 1) := by decide +kernel
theorem dL_sets_134 : decode cL_sets 134 = .ok (.istore 5, 2) := by decide +kernel
theorem dL_sets_136 : decode cL_sets 136 = .ok (.iload 4, 2) := by decide +kernel
theorem dL_sets_138 : decode cL_sets 138 = .ok (.iload 10, 2) := by decide +kernel
theorem dL_sets_140 : decode cL_sets 140 = .ok (.ldc 26, 2) := by decide +kernel
theorem dL_sets_142 : decode cL_sets 142 = .ok (.if_icmp .ne 7, 3) := by decide +kernel
theorem dL_sets_145 : decode cL_sets 145 = .ok (.iconst 0, 1) := by decide +kernel
theorem dL_sets_146 : decode cL_sets 146 = .ok (.goto 4, 3) := by decide +kernel
theorem dL_sets_149 : decode cL_sets 149 = .ok (.iconst 1, 1) := by decide +kernel
theorem dL_sets_150 : decode cL_sets 150 = .ok (.iadd, 1) := by decide +kernel
theorem dL_sets_151 : decode cL_sets 151 = .ok (.istore 4, 2) := by decide +kernel
theorem dL_sets_153 : decode cL_sets 153 = .ok (.iload 6, 2) := by decide +kernel
theorem dL_sets_155 : decode cL_sets 155 = .ok (.iload 10, 2) := by decide +kernel
theorem dL_sets_157 : decode cL_sets 157 = .ok (.ldc 26, 2) := by decide +kernel
theorem dL_sets_159 : decode cL_sets 159 = .ok (.if_icmp .eq 7, 3) := by decide +kernel
theorem dL_sets_162 : decode cL_sets 162 = .ok (.iconst 1, 1) := by decide +kernel
theorem dL_sets_163 : decode cL_sets 163 = .ok (.goto 4, 3) := by decide +kernel
theorem dL_sets_166 : decode cL_sets 166 = .ok (.iconst 0, 1) := by decide +kernel
theorem dL_sets_167 : decode cL_sets 167 = .ok (.ior, 1) := by decide +kernel
theorem dL_sets_168 : decode cL_sets 168 = .ok (.istore 6, 2) := by decide +kernel
theorem dL_sets_170 : decode cL_sets 170 = .ok (.iinc 7 1, 3) := by decide +kernel
theorem dL_sets_173 : decode cL_sets 173 = .ok (.goto (-135), 3) := by decide +kernel
theorem dL_sets_176 : decode cL_sets 176 = .ok (.goto (-149), 3) := by decide +kernel
theorem dL_sets_179 : decode cL_sets 179 = .ok (.iload 5, 2) := by decide +kernel
theorem dL_sets_181 : decode cL_sets 181 = .ok (.iload 4, 2) := by decide +kernel
theorem dL_sets_183 : decode cL_sets 183 = .ok (.iload_n 3, 1) := by decide +kernel
theorem dL_sets_184 : decode cL_sets 184 = .ok (.if_icmp .ne 14, 3) := by decide +kernel
theorem dL_sets_187 : decode cL_sets 187 = .ok (.aload_n 0, 1) := by decide +kernel
theorem dL_sets_188 : decode cL_sets 188 = .ok (.invokevirtual 188, 3) := by decide +kernel
theorem dL_sets_191 : decode cL_sets 191 = .ok (.ifCond .ne 7, 3) := by decide +kernel
theorem dL_sets_194 : decode cL_sets 194 = .ok (.iconst 1, 1) := by decide +kernel
theorem dL_sets_195 : decode cL_sets 195 = .ok (.goto 4, 3) := by decide +kernel
theorem dL_sets_198 : decode cL_sets 198 = .ok (.iconst 0, 1) := by decide +kernel
theorem dL_sets_199 : decode cL_sets 199 = .ok (.iand, 1) := by decide +kernel
theorem dL_sets_200 : decode cL_sets 200 = .ok (.istore 5, 2) := by decide +kernel
theorem dL_sets_202 : decode cL_sets 202 = .ok (.iconst 0, 1) := by decide +kernel
theorem dL_sets_203 : decode cL_sets 203 = .ok (.istore 7, 2) := by decide +kernel
theorem dL_sets_205 : decode cL_sets 205 = .ok (.iload 7, 2) := by decide +kernel
theorem dL_sets_207 : decode cL_sets 207 = .ok (.iload 4, 2) := by decide +kernel
theorem dL_sets_209 : decode cL_sets 209 = .ok (.if_icmp .ge 32, 3) := by decide +kernel
theorem dL_sets_212 : decode cL_sets 212 = .ok (.iload 5, 2) := by decide +kernel
theorem dL_sets_214 : decode cL_sets 214 = .ok (.aload_n 0, 1) := by decide +kernel
theorem dL_sets_215 : decode cL_sets 215 = .ok (.bipush 16, 2) := by decide +kernel
theorem dL_sets_217 : decode cL_sets 217 = .ok (.iconst 0, 1) := by decide +kernel
theorem dL_sets_218 : decode cL_sets 218 = .ok (.iconst 0, 1) := by decide +kernel
theorem dL_sets_219 : decode cL_sets 219 = .ok (.iconst 0, 1) := by decide +kernel
theorem dL_sets_220 : decode cL_sets 220 = .ok (.iconst 0, 1) := by decide +kernel
theorem dL_sets_221 : decode cL_sets 221 = .ok (.invokestatic 170, 3) := by decide +kernel
theorem dL_sets_224 : decode cL_sets 224 = .ok (.ifCond .lt 7, 3) := by decide +kernel
theorem dL_sets_227 : decode cL_sets 227 = .ok (.iconst 1, 1) := by decide +kernel
theorem dL_sets_228 : decode cL_sets 228 = .ok (.goto 4, 3) := by decide +kernel
theorem dL_sets_231 : decode cL_sets 231 = .ok (.iconst 0, 1) := by decide +kernel
theorem dL_sets_232 : decode cL_sets 232 = .ok (.iand, 1) := by decide +kernel
theorem dL_sets_233 : decode cL_sets 233 = .ok (.istore 5, 2) := by decide +kernel
theorem dL_sets_235 : decode cL_sets 235 = .ok (.iinc 7 1, 3) := by decide +kernel
theorem dL_sets_238 : decode cL_sets 238 = .ok (.goto (-33), 3) := by decide +kernel
theorem dL_sets_241 : decode cL_sets 241 = .ok (.iload 5, 2) := by decide +kernel
theorem dL_sets_243 : decode cL_sets 243 = .ok (.ifCond .eq 16, 3) := by decide +kernel
theorem dL_sets_246 : decode cL_sets 246 = .ok (.aload_n 0, 1) := by decide +kernel
theorem dL_sets_247 : decode cL_sets 247 = .ok (.invokestatic 184, 3) := by decide +kernel
theorem dL_sets_250 : decode cL_sets 250 = .ok (.lload_n 1, 1) := by decide +kernel
theorem dL_sets_251 : decode cL_sets 251 = .ok (.lcmp, 1) := by decide +kernel
theorem dL_sets_252 : decode cL_sets 252 = .ok (.ifCond .ne 7, 3) := by decide +kernel
theorem dL_sets_255 : decode cL_sets 255 = .ok (.iconst 1, 1) := by decide +kernel
theorem dL_sets_256 : decode cL_sets 256 = .ok (.goto 4, 3) := by decide +kernel
theorem dL_sets_259 : decode cL_sets 259 = .ok (.iconst 0, 1) := by decide +kernel
theorem dL_sets_260 : decode cL_sets 260 = .ok (.ireturn, 1) := by decide +kernel
theorem dL_earns_0 : decode cL_earns 0 = .ok (.iconst 0, 1) := by decide +kernel
theorem dL_earns_1 : decode cL_earns 1 = .ok (.istore_n 2, 1) := by decide +kernel
theorem dL_earns_2 : decode cL_earns 2 = .ok (.iconst 0, 1) := by decide +kernel
theorem dL_earns_3 : decode cL_earns 3 = .ok (.istore_n 3, 1) := by decide +kernel
theorem dL_earns_4 : decode cL_earns 4 = .ok (.iload_n 3, 1) := by decide +kernel
theorem dL_earns_5 : decode cL_earns 5 = .ok (.aload_n 0, 1) := by decide +kernel
theorem dL_earns_6 : decode cL_earns 6 = .ok (.iconst 2, 1) := by decide +kernel
theorem dL_earns_7 : decode cL_earns 7 = .ok (.invokestatic 176, 3) := by decide +kernel
theorem dL_earns_10 : decode cL_earns 10 = .ok (.if_icmp .ge 26, 3) := by decide +kernel
theorem dL_earns_13 : decode cL_earns 13 = .ok (.iload_n 2, 1) := by decide +kernel
theorem dL_earns_14 : decode cL_earns 14 = .ok (.aload_n 0, 1) := by decide +kernel
theorem dL_earns_15 : decode cL_earns 15 = .ok (.iload_n 3, 1) := by decide +kernel
theorem dL_earns_16 : decode cL_earns 16 = .ok (.iconst 3, 1) := by decide +kernel
theorem dL_earns_17 : decode cL_earns 17 = .ok (.invokestatic 182, 3) := by decide +kernel
theorem dL_earns_20 : decode cL_earns 20 = .ok (.ifCond .ne 7, 3) := by decide +kernel
theorem dL_earns_23 : decode cL_earns 23 = .ok (.iconst 1, 1) := by decide +kernel
theorem dL_earns_24 : decode cL_earns 24 = .ok (.goto 4, 3) := by decide +kernel
theorem dL_earns_27 : decode cL_earns 27 = .ok (.iconst 0, 1) := by decide +kernel
theorem dL_earns_28 : decode cL_earns 28 = .ok (.iadd, 1) := by decide +kernel
theorem dL_earns_29 : decode cL_earns 29 = .ok (.istore_n 2, 1) := by decide +kernel
theorem dL_earns_30 : decode cL_earns 30 = .ok (.iinc 3 1, 3) := by decide +kernel
theorem dL_earns_33 : decode cL_earns 33 = .ok (.goto (-29), 3) := by decide +kernel
theorem dL_earns_36 : decode cL_earns 36 = .ok (.iload_n 2, 1) := by decide +kernel
theorem dL_earns_37 : decode cL_earns 37 = .ok (.bipush 11, 2) := by decide +kernel
theorem dL_earns_39 : decode cL_earns 39 = .ok (.if_icmp .le 5, 3) := by decide +kernel
theorem dL_earns_42 : decode cL_earns 42 = .ok (.iconst 1, 1) := by decide +kernel
theorem dL_earns_43 : decode cL_earns 43 = .ok (.ireturn, 1) := by decide +kernel
theorem dL_earns_44 : decode cL_earns 44 = .ok (.aload_n 0, 1) := by decide +kernel
theorem dL_earns_45 : decode cL_earns 45 = .ok (.invokestatic 184, 3) := by decide +kernel
theorem dL_earns_48 : decode cL_earns 48 = .ok (.lstore_n 3, 1) := by decide +kernel
theorem dL_earns_49 : decode cL_earns 49 = .ok (.aload_n 0, 1) := by decide +kernel
theorem dL_earns_50 : decode cL_earns 50 = .ok (.bipush 19, 2) := by decide +kernel
theorem dL_earns_52 : decode cL_earns 52 = .ok (.iload_n 1, 1) := by decide +kernel
theorem dL_earns_53 : decode cL_earns 53 = .ok (.iconst 0, 1) := by decide +kernel
theorem dL_earns_54 : decode cL_earns 54 = .ok (.iconst 0, 1) := by decide +kernel
theorem dL_earns_55 : decode cL_earns 55 = .ok (.iconst 0, 1) := by decide +kernel
theorem dL_earns_56 : decode cL_earns 56 = .ok (.invokestatic 170, 3) := by decide +kernel
theorem dL_earns_59 : decode cL_earns 59 = .ok (.istore 5, 2) := by decide +kernel
theorem dL_earns_61 : decode cL_earns 61 = .ok (.aload_n 0, 1) := by decide +kernel
theorem dL_earns_62 : decode cL_earns 62 = .ok (.bipush 9, 2) := by decide +kernel
theorem dL_earns_64 : decode cL_earns 64 = .ok (.invokestatic 176, 3) := by decide +kernel
theorem dL_earns_67 : decode cL_earns 67 = .ok (.istore 6, 2) := by decide +kernel
theorem dL_earns_69 : decode cL_earns 69 = .ok (.aload_n 0, 1) := by decide +kernel
theorem dL_earns_70 : decode cL_earns 70 = .ok (.bipush 10, 2) := by decide +kernel
theorem dL_earns_72 : decode cL_earns 72 = .ok (.iload_n 1, 1) := by decide +kernel
theorem dL_earns_73 : decode cL_earns 73 = .ok (.iconst 0, 1) := by decide +kernel
theorem dL_earns_74 : decode cL_earns 74 = .ok (.iconst 0, 1) := by decide +kernel
theorem dL_earns_75 : decode cL_earns 75 = .ok (.iconst 0, 1) := by decide +kernel
theorem dL_earns_76 : decode cL_earns 76 = .ok (.invokestatic 170, 3) := by decide +kernel
theorem dL_earns_79 : decode cL_earns 79 = .ok (.ifCond .lt 7, 3) := by decide +kernel
theorem dL_earns_82 : decode cL_earns 82 = .ok (.iconst 1, 1) := by decide +kernel
theorem dL_earns_83 : decode cL_earns 83 = .ok (.goto 4, 3) := by decide +kernel
theorem dL_earns_86 : decode cL_earns 86 = .ok (.iconst 0, 1) := by decide +kernel
theorem dL_earns_87 : decode cL_earns 87 = .ok (.istore 7, 2) := by decide +kernel
theorem dL_earns_89 : decode cL_earns 89 = .ok (.iconst 0, 1) := by decide +kernel
theorem dL_earns_90 : decode cL_earns 90 = .ok (.istore 8, 2) := by decide +kernel
theorem dL_earns_92 : decode cL_earns 92 = .ok (.iconst 0, 1) := by decide +kernel
theorem dL_earns_93 : decode cL_earns 93 = .ok (.istore 9, 2) := by decide +kernel
theorem dL_earns_95 : decode cL_earns 95 = .ok (.iload 9, 2) := by decide +kernel
theorem dL_earns_97 : decode cL_earns 97 = .ok (.aload_n 0, 1) := by decide +kernel
theorem dL_earns_98 : decode cL_earns 98 = .ok (.iconst 2, 1) := by decide +kernel
theorem dL_earns_99 : decode cL_earns 99 = .ok (.invokestatic 176, 3) := by decide +kernel
theorem dL_earns_102 : decode cL_earns 102 = .ok (.if_icmp .ge 107, 3) := by decide +kernel
theorem dL_earns_105 : decode cL_earns 105 = .ok (.aload_n 0, 1) := by decide +kernel
theorem dL_earns_106 : decode cL_earns 106 = .ok (.iload 9, 2) := by decide +kernel
theorem dL_earns_108 : decode cL_earns 108 = .ok (.iconst 3, 1) := by decide +kernel
theorem dL_earns_109 : decode cL_earns 109 = .ok (.invokestatic 182, 3) := by decide +kernel
theorem dL_earns_112 : decode cL_earns 112 = .ok (.ifCond .ne 91, 3) := by decide +kernel
theorem dL_earns_115 : decode cL_earns 115 = .ok (.aload_n 0, 1) := by decide +kernel
theorem dL_earns_116 : decode cL_earns 116 = .ok (.bipush 12, 2) := by decide +kernel
theorem dL_earns_118 : decode cL_earns 118 = .ok (.iload 9, 2) := by decide +kernel
theorem dL_earns_120 : decode cL_earns 120 = .ok (.iconst 0, 1) := by decide +kernel
theorem dL_earns_121 : decode cL_earns 121 = .ok (.iconst 0, 1) := by decide +kernel
theorem dL_earns_122 : decode cL_earns 122 = .ok (.iconst 0, 1) := by decide +kernel
theorem dL_earns_123 : decode cL_earns 123 = .ok (.invokestatic 170, 3) := by decide +kernel
theorem dL_earns_126 : decode cL_earns 126 = .ok (.istore 10, 2) := by decide +kernel
theorem dL_earns_128 : decode cL_earns 128 = .ok (.iload 7, 2) := by decide +kernel
theorem dL_earns_130 : decode cL_earns 130 = .ok (.iload 10, 2) := by decide +kernel
theorem dL_earns_132 : decode cL_earns 132 = .ok (.ifCond .lt 7, 3) := by decide +kernel
theorem dL_earns_135 : decode cL_earns 135 = .ok (.iconst 1, 1) := by decide +kernel
theorem dL_earns_136 : decode cL_earns 136 = .ok (.goto 4, 3) := by decide +kernel
theorem dL_earns_139 : decode cL_earns 139 = .ok (.iconst 0, 1) := by decide +kernel
theorem dL_earns_140 : decode cL_earns 140 = .ok (.aload_n 0, 1) := by decide +kernel
theorem dL_earns_141 : decode cL_earns 141 = .ok (.iload 9, 2) := by decide +kernel
theorem dL_earns_143 : decode cL_earns 143 = .ok (.iconst 2, 1) := by decide +kernel
theorem dL_earns_144 : decode cL_earns 144 = .ok (.invokestatic 182, 3) := by decide +kernel
theorem dL_earns_147 : decode cL_earns 147 = .ok (.iload_n 1, 1) := by decide +kernel
theorem dL_earns_148 : decode cL_earns 148 = .ok (.if_icmp .gt 7, 3) := by decide +kernel
theorem dL_earns_151 : decode cL_earns 151 = .ok (.iconst 1, 1) := by decide +kernel
theorem dL_earns_152 : decode cL_earns 152 = .ok (.goto 4, 3) := by decide +kernel
theorem dL_earns_155 : decode cL_earns 155 = .ok (.iconst 0, 1) := by decide +kernel
theorem dL_earns_156 : decode cL_earns 156 = .ok (.if_icmp .ne 27, 3) := by decide +kernel
theorem dL_earns_159 : decode cL_earns 159 = .ok (.aload_n 0, 1) := by decide +kernel
theorem dL_earns_160 : decode cL_earns 160 = .ok (.iload 9, 2) := by decide +kernel
theorem dL_earns_162 : decode cL_earns 162 = .ok (.iconst 3, 1) := by decide +kernel
theorem dL_earns_163 : decode cL_earns 163 = .ok (.invokestatic 182, 3) := by decide +kernel
theorem dL_earns_166 : decode cL_earns 166 = .ok (.iload 10, 2) := by decide +kernel
theorem dL_earns_168 : decode cL_earns 168 = .ok (.ifCond .lt 7, 3) := by decide +kernel
theorem dL_earns_171 : decode cL_earns 171 = .ok (.iconst 1, 1) := by decide +kernel
theorem dL_earns_172 : decode cL_earns 172 = .ok (.goto 4, 3) := by decide +kernel
theorem dL_earns_175 : decode cL_earns 175 = .ok (.iconst 2, 1) := by decide +kernel
theorem dL_earns_176 : decode cL_earns 176 = .ok (.if_icmp .ne 7, 3) := by decide +kernel
theorem dL_earns_179 : decode cL_earns 179 = .ok (.iconst 1, 1) := by decide +kernel
theorem dL_earns_180 : decode cL_earns 180 = .ok (.goto 4, 3) := by decide +kernel
theorem dL_earns_183 : decode cL_earns 183 = .ok (.iconst 0, 1) := by decide +kernel
theorem dL_earns_184 : decode cL_earns 184 = .ok (.iand, 1) := by decide +kernel
theorem dL_earns_185 : decode cL_earns 185 = .ok (.istore 7, 2) := by decide +kernel
theorem dL_earns_187 : decode cL_earns 187 = .ok (.iload 8, 2) := by decide +kernel
theorem dL_earns_189 : decode cL_earns 189 = .ok (.iload 10, 2) := by decide +kernel
theorem dL_earns_191 : decode cL_earns 191 = .ok (.ifCond .lt 8, 3) := by decide +kernel
theorem dL_earns_194 : decode cL_earns 194 = .ok (.iload 10, 2) := by decide +kernel
theorem dL_earns_196 : decode cL_earns 196 = .ok (.goto 4, 3) := by decide +kernel
theorem dL_earns_199 : decode cL_earns 199 = .ok (.iconst 0, 1) := by decide +kernel
theorem dL_earns_200 : decode cL_earns 200 = .ok (.iadd, 1) := by decide +kernel
theorem dL_earns_201 : decode cL_earns 201 = .ok (.istore 8, 2) := by decide +kernel
theorem dL_earns_203 : decode cL_earns 203 = .ok (.iinc 9 1, 3) := by decide +kernel
theorem dL_earns_206 : decode cL_earns 206 = .ok (.goto (-111), 3) := by decide +kernel
theorem dL_earns_209 : decode cL_earns 209 = .ok (.iload 7, 2) := by decide +kernel
theorem dL_earns_211 : decode cL_earns 211 = .ok (.iload 8, 2) := by decide +kernel
theorem dL_earns_213 : decode cL_earns 213 = .ok (.iload 5, 2) := by decide +kernel
theorem dL_earns_215 : decode cL_earns 215 = .ok (.if_icmp .ne 21, 3) := by decide +kernel
theorem dL_earns_218 : decode cL_earns 218 = .ok (.aload_n 0, 1) := by decide +kernel
theorem dL_earns_219 : decode cL_earns 219 = .ok (.bipush 9, 2) := by decide +kernel
theorem dL_earns_221 : decode cL_earns 221 = .ok (.invokestatic 176, 3) := by decide +kernel
theorem dL_earns_224 : decode cL_earns 224 = .ok (.iload 6, 2) := by decide +kernel
theorem dL_earns_226 : decode cL_earns 226 = .ok (.iload 5, 2) := by decide +kernel
theorem dL_earns_228 : decode cL_earns 228 = .ok (.iadd, 1) := by decide +kernel
theorem dL_earns_229 : decode cL_earns 229 = .ok (.if_icmp .ne 7, 3) := by decide +kernel
theorem dL_earns_232 : decode cL_earns 232 = .ok (.iconst 1, 1) := by decide +kernel
theorem dL_earns_233 : decode cL_earns 233 = .ok (.goto 4, 3) := by decide +kernel
theorem dL_earns_236 : decode cL_earns 236 = .ok (.iconst 0, 1) := by decide +kernel
theorem dL_earns_237 : decode cL_earns 237 = .ok (.iand, 1) := by decide +kernel
theorem dL_earns_238 : decode cL_earns 238 = .ok (.istore 7, 2) := by decide +kernel
theorem dL_earns_240 : decode cL_earns 240 = .ok (.iconst 0, 1) := by decide +kernel
theorem dL_earns_241 : decode cL_earns 241 = .ok (.istore 9, 2) := by decide +kernel
theorem dL_earns_243 : decode cL_earns 243 = .ok (.iload 9, 2) := by decide +kernel
theorem dL_earns_245 : decode cL_earns 245 = .ok (.iload_n 2, 1) := by decide +kernel
theorem dL_earns_246 : decode cL_earns 246 = .ok (.if_icmp .gt 32, 3) := by decide +kernel
theorem dL_earns_249 : decode cL_earns 249 = .ok (.iload 7, 2) := by decide +kernel
theorem dL_earns_251 : decode cL_earns 251 = .ok (.aload_n 0, 1) := by decide +kernel
theorem dL_earns_252 : decode cL_earns 252 = .ok (.bipush 16, 2) := by decide +kernel
theorem dL_earns_254 : decode cL_earns 254 = .ok (.iconst 0, 1) := by decide +kernel
theorem dL_earns_255 : decode cL_earns 255 = .ok (.iconst 0, 1) := by decide +kernel
theorem dL_earns_256 : decode cL_earns 256 = .ok (.iconst 0, 1) := by decide +kernel
theorem dL_earns_257 : decode cL_earns 257 = .ok (.iconst 0, 1) := by decide +kernel
theorem dL_earns_258 : decode cL_earns 258 = .ok (.invokestatic 170, 3) := by decide +kernel
theorem dL_earns_261 : decode cL_earns 261 = .ok (.ifCond .lt 7, 3) := by decide +kernel
theorem dL_earns_264 : decode cL_earns 264 = .ok (.iconst 1, 1) := by decide +kernel
theorem dL_earns_265 : decode cL_earns 265 = .ok (.goto 4, 3) := by decide +kernel
theorem dL_earns_268 : decode cL_earns 268 = .ok (.iconst 0, 1) := by decide +kernel
theorem dL_earns_269 : decode cL_earns 269 = .ok (.iand, 1) := by decide +kernel
theorem dL_earns_270 : decode cL_earns 270 = .ok (.istore 7, 2) := by decide +kernel
theorem dL_earns_272 : decode cL_earns 272 = .ok (.iinc 9 1, 3) := by decide +kernel
theorem dL_earns_275 : decode cL_earns 275 = .ok (.goto (-32), 3) := by decide +kernel
theorem dL_earns_278 : decode cL_earns 278 = .ok (.iload 7, 2) := by decide +kernel
theorem dL_earns_280 : decode cL_earns 280 = .ok (.ifCond .eq 16, 3) := by decide +kernel
theorem dL_earns_283 : decode cL_earns 283 = .ok (.aload_n 0, 1) := by decide +kernel
theorem dL_earns_284 : decode cL_earns 284 = .ok (.invokestatic 184, 3) := by decide +kernel
theorem dL_earns_287 : decode cL_earns 287 = .ok (.lload_n 3, 1) := by decide +kernel
theorem dL_earns_288 : decode cL_earns 288 = .ok (.lcmp, 1) := by decide +kernel
theorem dL_earns_289 : decode cL_earns 289 = .ok (.ifCond .ne 7, 3) := by decide +kernel
theorem dL_earns_292 : decode cL_earns 292 = .ok (.iconst 1, 1) := by decide +kernel
theorem dL_earns_293 : decode cL_earns 293 = .ok (.goto 4, 3) := by decide +kernel
theorem dL_earns_296 : decode cL_earns 296 = .ok (.iconst 0, 1) := by decide +kernel
theorem dL_earns_297 : decode cL_earns 297 = .ok (.ireturn, 1) := by decide +kernel
theorem dL_cuts_0 : decode cL_cuts 0 = .ok (.aload_n 0, 1) := by decide +kernel
theorem dL_cuts_1 : decode cL_cuts 1 = .ok (.invokestatic 184, 3) := by decide +kernel
theorem dL_cuts_4 : decode cL_cuts 4 = .ok (.lstore_n 3, 1) := by decide +kernel
theorem dL_cuts_5 : decode cL_cuts 5 = .ok (.aload_n 0, 1) := by decide +kernel
theorem dL_cuts_6 : decode cL_cuts 6 = .ok (.bipush 18, 2) := by decide +kernel
theorem dL_cuts_8 : decode cL_cuts 8 = .ok (.iload_n 1, 1) := by decide +kernel
theorem dL_cuts_9 : decode cL_cuts 9 = .ok (.iconst 0, 1) := by decide +kernel
theorem dL_cuts_10 : decode cL_cuts 10 = .ok (.iconst 0, 1) := by decide +kernel
theorem dL_cuts_11 : decode cL_cuts 11 = .ok (.iconst 0, 1) := by decide +kernel
theorem dL_cuts_12 : decode cL_cuts 12 = .ok (.invokestatic 170, 3) := by decide +kernel
theorem dL_cuts_15 : decode cL_cuts 15 = .ok (.istore 5, 2) := by decide +kernel
theorem dL_cuts_17 : decode cL_cuts 17 = .ok (.aload_n 0, 1) := by decide +kernel
theorem dL_cuts_18 : decode cL_cuts 18 = .ok (.iload_n 1, 1) := by decide +kernel
theorem dL_cuts_19 : decode cL_cuts 19 = .ok (.iconst 1, 1) := by decide +kernel
theorem dL_cuts_20 : decode cL_cuts 20 = .ok (.invokestatic 178, 3) := by decide +kernel
theorem dL_cuts_23 : decode cL_cuts 23 = .ok (.istore 6, 2) := by decide +kernel
theorem dL_cuts_25 : decode cL_cuts 25 = .ok (.iconst 1, 1) := by decide +kernel
theorem dL_cuts_26 : decode cL_cuts 26 = .ok (.istore 7, 2) := by decide +kernel
theorem dL_cuts_28 : decode cL_cuts 28 = .ok (.iconst 0, 1) := by decide +kernel
theorem dL_cuts_29 : decode cL_cuts 29 = .ok (.istore 8, 2) := by decide +kernel
theorem dL_cuts_31 : decode cL_cuts 31 = .ok (.iload 8, 2) := by decide +kernel
theorem dL_cuts_33 : decode cL_cuts 33 = .ok (.aload_n 0, 1) := by decide +kernel
theorem dL_cuts_34 : decode cL_cuts 34 = .ok (.iconst 1, 1) := by decide +kernel
theorem dL_cuts_35 : decode cL_cuts 35 = .ok (.invokestatic 176, 3) := by decide +kernel
theorem dL_cuts_38 : decode cL_cuts 38 = .ok (.if_icmp .ge 55, 3) := by decide +kernel
theorem dL_cuts_41 : decode cL_cuts 41 = .ok (.iload 7, 2) := by decide +kernel
theorem dL_cuts_43 : decode cL_cuts 43 = .ok (.aload_n 0, 1) := by decide +kernel
theorem dL_cuts_44 : decode cL_cuts 44 = .ok (.iload 8, 2) := by decide +kernel
theorem dL_cuts_46 : decode cL_cuts 46 = .ok (.iconst 2, 1) := by decide +kernel
theorem dL_cuts_47 : decode cL_cuts 47 = .ok (.invokestatic 180, 3) := by decide +kernel
theorem dL_cuts_50 : decode cL_cuts 50 = .ok (.iload 6, 2) := by decide +kernel
theorem dL_cuts_52 : decode cL_cuts 52 = .ok (.if_icmp .lt 27, 3) := by decide +kernel
theorem dL_cuts_55 : decode cL_cuts 55 = .ok (.iload 5, 2) := by decide +kernel
theorem dL_cuts_57 : decode cL_cuts 57 = .ok (.bipush (-9), 2) := by decide +kernel
theorem dL_cuts_59 : decode cL_cuts 59 = .ok (.if_icmp .eq 24, 3) := by decide +kernel
theorem dL_cuts_62 : decode cL_cuts 62 = .ok (.aload_n 0, 1) := by decide +kernel
theorem dL_cuts_63 : decode cL_cuts 63 = .ok (.iload 8, 2) := by decide +kernel
theorem dL_cuts_65 : decode cL_cuts 65 = .ok (.iconst 0, 1) := by decide +kernel
theorem dL_cuts_66 : decode cL_cuts 66 = .ok (.invokestatic 180, 3) := by decide +kernel
theorem dL_cuts_69 : decode cL_cuts 69 = .ok (.aload_n 0, 1) := by decide +kernel
theorem dL_cuts_70 : decode cL_cuts 70 = .ok (.iload 5, 2) := by decide +kernel
theorem dL_cuts_72 : decode cL_cuts 72 = .ok (.iconst 0, 1) := by decide +kernel
theorem dL_cuts_73 : decode cL_cuts 73 = .ok (.invokestatic 180, 3) := by decide +kernel
theorem dL_cuts_76 : decode cL_cuts 76 = .ok (.if_icmp .lt 7, 3) := by decide +kernel
theorem dL_cuts_79 : decode cL_cuts 79 = .ok (.iconst 1, 1) := by decide +kernel
theorem dL_cuts_80 : decode cL_cuts 80 = .ok (.goto 4, 3) := by decide +kernel
theorem dL_cuts_83 : decode cL_cuts 83 = .ok (.iconst 0, 1) := by decide +kernel
theorem dL_cuts_84 : decode cL_cuts 84 = .ok (.iand, 1) := by decide +kernel
theorem dL_cuts_85 : decode cL_cuts 85 = .ok (.istore 7, 2) := by decide +kernel
theorem dL_cuts_87 : decode cL_cuts 87 = .ok (.iinc 8 1, 3) := by decide +kernel
theorem dL_cuts_90 : decode cL_cuts 90 = .ok (.goto (-59), 3) := by decide +kernel
theorem dL_cuts_93 : decode cL_cuts 93 = .ok (.iload 5, 2) := by decide +kernel
theorem dL_cuts_95 : decode cL_cuts 95 = .ok (.bipush (-9), 2) := by decide +kernel
theorem dL_cuts_97 : decode cL_cuts 97 = .ok (.if_icmp .ne 6, 3) := by decide +kernel
theorem dL_cuts_100 : decode cL_cuts 100 = .ok (.iload 7, 2) := by decide +kernel
theorem dL_cuts_102 : decode cL_cuts 102 = .ok (.ireturn, 1) := by decide +kernel
theorem dL_cuts_103 : decode cL_cuts 103 = .ok (.aload_n 0, 1) := by decide +kernel
theorem dL_cuts_104 : decode cL_cuts 104 = .ok (.iload 5, 2) := by decide +kernel
theorem dL_cuts_106 : decode cL_cuts 106 = .ok (.iconst 2, 1) := by decide +kernel
theorem dL_cuts_107 : decode cL_cuts 107 = .ok (.invokestatic 180, 3) := by decide +kernel
theorem dL_cuts_110 : decode cL_cuts 110 = .ok (.istore 8, 2) := by decide +kernel
theorem dL_cuts_112 : decode cL_cuts 112 = .ok (.aload_n 0, 1) := by decide +kernel
theorem dL_cuts_113 : decode cL_cuts 113 = .ok (.iconst 2, 1) := by decide +kernel
theorem dL_cuts_114 : decode cL_cuts 114 = .ok (.invokestatic 176, 3) := by decide +kernel
theorem dL_cuts_117 : decode cL_cuts 117 = .ok (.istore 9, 2) := by decide +kernel
theorem dL_cuts_119 : decode cL_cuts 119 = .ok (.aload_n 0, 1) := by decide +kernel
theorem dL_cuts_120 : decode cL_cuts 120 = .ok (.bipush 11, 2) := by decide +kernel
theorem dL_cuts_122 : decode cL_cuts 122 = .ok (.iload 5, 2) := by decide +kernel
theorem dL_cuts_124 : decode cL_cuts 124 = .ok (.iload_n 1, 1) := by decide +kernel
theorem dL_cuts_125 : decode cL_cuts 125 = .ok (.iload_n 2, 1) := by decide +kernel
theorem dL_cuts_126 : decode cL_cuts 126 = .ok (.iconst 0, 1) := by decide +kernel
theorem dL_cuts_127 : decode cL_cuts 127 = .ok (.invokestatic 170, 3) := by decide +kernel
theorem dL_cuts_130 : decode cL_cuts 130 = .ok (.istore 10, 2) := by decide +kernel
theorem dL_cuts_132 : decode cL_cuts 132 = .ok (.iload 10, 2) := by decide +kernel
theorem dL_cuts_134 : decode cL_cuts 134 = .ok (.ldc 26, 2) := by decide +kernel
theorem dL_cuts_136 : decode cL_cuts 136 = .ok (.if_icmp .ne 30, 3) := by decide +kernel
theorem dL_cuts_139 : decode cL_cuts 139 = .ok (.iload 7, 2) := by decide +kernel
theorem dL_cuts_141 : decode cL_cuts 141 = .ok (.ifCond .eq 23, 3) := by decide +kernel
theorem dL_cuts_144 : decode cL_cuts 144 = .ok (.iload 9, 2) := by decide +kernel
theorem dL_cuts_146 : decode cL_cuts 146 = .ok (.bipush 24, 2) := by decide +kernel
theorem dL_cuts_148 : decode cL_cuts 148 = .ok (.if_icmp .ne 16, 3) := by decide +kernel
theorem dL_cuts_151 : decode cL_cuts 151 = .ok (.aload_n 0, 1) := by decide +kernel
theorem dL_cuts_152 : decode cL_cuts 152 = .ok (.invokestatic 184, 3) := by decide +kernel
theorem dL_cuts_155 : decode cL_cuts 155 = .ok (.lload_n 3, 1) := by decide +kernel
theorem dL_cuts_156 : decode cL_cuts 156 = .ok (.lcmp, 1) := by decide +kernel
theorem dL_cuts_157 : decode cL_cuts 157 = .ok (.ifCond .ne 7, 3) := by decide +kernel
theorem dL_cuts_160 : decode cL_cuts 160 = .ok (.iconst 1, 1) := by decide +kernel
theorem dL_cuts_161 : decode cL_cuts 161 = .ok (.goto 4, 3) := by decide +kernel
theorem dL_cuts_164 : decode cL_cuts 164 = .ok (.iconst 0, 1) := by decide +kernel
theorem dL_cuts_165 : decode cL_cuts 165 = .ok (.ireturn, 1) := by decide +kernel
theorem dL_cuts_166 : decode cL_cuts 166 = .ok (.iload 7, 2) := by decide +kernel
theorem dL_cuts_168 : decode cL_cuts 168 = .ok (.iload 10, 2) := by decide +kernel
theorem dL_cuts_170 : decode cL_cuts 170 = .ok (.iload 9, 2) := by decide +kernel
theorem dL_cuts_172 : decode cL_cuts 172 = .ok (.if_icmp .ne 55, 3) := by decide +kernel
theorem dL_cuts_175 : decode cL_cuts 175 = .ok (.aload_n 0, 1) := by decide +kernel
theorem dL_cuts_176 : decode cL_cuts 176 = .ok (.iload 5, 2) := by decide +kernel
theorem dL_cuts_178 : decode cL_cuts 178 = .ok (.iconst 2, 1) := by decide +kernel
theorem dL_cuts_179 : decode cL_cuts 179 = .ok (.invokestatic 180, 3) := by decide +kernel
theorem dL_cuts_182 : decode cL_cuts 182 = .ok (.iload 8, 2) := by decide +kernel
theorem dL_cuts_184 : decode cL_cuts 184 = .ok (.iload 6, 2) := by decide +kernel
theorem dL_cuts_186 : decode cL_cuts 186 = .ok (.isub, 1) := by decide +kernel
theorem dL_cuts_187 : decode cL_cuts 187 = .ok (.if_icmp .ne 40, 3) := by decide +kernel
theorem dL_cuts_190 : decode cL_cuts 190 = .ok (.aload_n 0, 1) := by decide +kernel
theorem dL_cuts_191 : decode cL_cuts 191 = .ok (.iload 10, 2) := by decide +kernel
theorem dL_cuts_193 : decode cL_cuts 193 = .ok (.iconst 1, 1) := by decide +kernel
theorem dL_cuts_194 : decode cL_cuts 194 = .ok (.invokestatic 182, 3) := by decide +kernel
theorem dL_cuts_197 : decode cL_cuts 197 = .ok (.iload 5, 2) := by decide +kernel
theorem dL_cuts_199 : decode cL_cuts 199 = .ok (.if_icmp .ne 28, 3) := by decide +kernel
theorem dL_cuts_202 : decode cL_cuts 202 = .ok (.aload_n 0, 1) := by decide +kernel
theorem dL_cuts_203 : decode cL_cuts 203 = .ok (.iload 10, 2) := by decide +kernel
theorem dL_cuts_205 : decode cL_cuts 205 = .ok (.iconst 2, 1) := by decide +kernel
theorem dL_cuts_206 : decode cL_cuts 206 = .ok (.invokestatic 182, 3) := by decide +kernel
theorem dL_cuts_209 : decode cL_cuts 209 = .ok (.iload_n 2, 1) := by decide +kernel
theorem dL_cuts_210 : decode cL_cuts 210 = .ok (.if_icmp .ne 17, 3) := by decide +kernel
theorem dL_cuts_213 : decode cL_cuts 213 = .ok (.aload_n 0, 1) := by decide +kernel
theorem dL_cuts_214 : decode cL_cuts 214 = .ok (.iload 10, 2) := by decide +kernel
theorem dL_cuts_216 : decode cL_cuts 216 = .ok (.iconst 3, 1) := by decide +kernel
theorem dL_cuts_217 : decode cL_cuts 217 = .ok (.invokestatic 182, 3) := by decide +kernel
theorem dL_cuts_220 : decode cL_cuts 220 = .ok (.ifCond .ne 7, 3) := by decide +kernel
theorem dL_cuts_223 : decode cL_cuts 223 = .ok (.iconst 1, 1) := by decide +kernel
theorem dL_cuts_224 : decode cL_cuts 224 = .ok (.goto 4, 3) := by decide +kernel
theorem dL_cuts_227 : decode cL_cuts 227 = .ok (.iconst 0, 1) := by decide +kernel
theorem dL_cuts_228 : decode cL_cuts 228 = .ok (.iand, 1) := by decide +kernel
theorem dL_cuts_229 : decode cL_cuts 229 = .ok (.istore 7, 2) := by decide +kernel
theorem dL_cuts_231 : decode cL_cuts 231 = .ok (.iload 7, 2) := by decide +kernel
theorem dL_cuts_233 : decode cL_cuts 233 = .ok (.ifCond .eq 29, 3) := by decide +kernel
theorem dL_cuts_236 : decode cL_cuts 236 = .ok (.aload_n 0, 1) := by decide +kernel
theorem dL_cuts_237 : decode cL_cuts 237 = .ok (.bipush 16, 2) := by decide +kernel
theorem dL_cuts_239 : decode cL_cuts 239 = .ok (.iconst 0, 1) := by decide +kernel
