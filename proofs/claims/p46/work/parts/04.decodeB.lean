theorem dL_is_0 : decode cL_is 0 = .ok (.aload_n 0, 1) := by decide +kernel
theorem dL_is_1 : decode cL_is 1 = .ok (.iload_n 1, 1) := by decide +kernel
theorem dL_is_2 : decode cL_is 2 = .ok (.iload_n 2, 1) := by decide +kernel
theorem dL_is_3 : decode cL_is 3 = .ok (.invokevirtual 7, 3) := by decide +kernel
theorem dL_is_6 : decode cL_is 6 = .ok (.ifCond .eq 7, 3) := by decide +kernel
theorem dL_is_9 : decode cL_is 9 = .ok (.iconst 1, 1) := by decide +kernel
theorem dL_is_10 : decode cL_is 10 = .ok (.goto 4, 3) := by decide +kernel
theorem dL_is_13 : decode cL_is 13 = .ok (.iconst 0, 1) := by decide +kernel
theorem dL_is_14 : decode cL_is 14 = .ok (.ireturn, 1) := by decide +kernel
theorem dL_is_15 : decode cL_is 15 = .ok (.astore_n 3, 1) := by decide +kernel
theorem dL_is_16 : decode cL_is 16 = .ok (.ldc 15, 2) := by decide +kernel
theorem dL_is_18 : decode cL_is 18 = .ok (.ireturn, 1) := by decide +kernel
theorem dL_is_19 : decode cL_is 19 = .ok (.astore_n 3, 1) := by decide +kernel
theorem dL_is_20 : decode cL_is 20 = .ok (.ldc 18, 2) := by decide +kernel
theorem dL_is_22 : decode cL_is 22 = .ok (.ireturn, 1) := by decide +kernel
theorem dL_doSimulate_0 : decode cL_doSimulate 0 = .ok (.aload_n 0, 1) := by decide +kernel
theorem dL_doSimulate_1 : decode cL_doSimulate 1 = .ok (.lload_n 1, 1) := by decide +kernel
theorem dL_doSimulate_2 : decode cL_doSimulate 2 = .ok (.iload_n 3, 1) := by decide +kernel
theorem dL_doSimulate_3 : decode cL_doSimulate 3 = .ok (.invokevirtual 19, 3) := by decide +kernel
theorem dL_doSimulate_6 : decode cL_doSimulate 6 = .ok (.ireturn, 1) := by decide +kernel
theorem dL_doSimulate_7 : decode cL_doSimulate 7 = .ok (.astore 4, 2) := by decide +kernel
theorem dL_doSimulate_9 : decode cL_doSimulate 9 = .ok (.ldc 18, 2) := by decide +kernel
theorem dL_doSimulate_11 : decode cL_doSimulate 11 = .ok (.ireturn, 1) := by decide +kernel
theorem dL_tryAppend_0 : decode cL_tryAppend 0 = .ok (.aload_n 0, 1) := by decide +kernel
theorem dL_tryAppend_1 : decode cL_tryAppend 1 = .ok (.iload_n 1, 1) := by decide +kernel
theorem dL_tryAppend_2 : decode cL_tryAppend 2 = .ok (.invokevirtual 23, 3) := by decide +kernel
theorem dL_tryAppend_5 : decode cL_tryAppend 5 = .ok (.ireturn, 1) := by decide +kernel
theorem dL_tryAppend_6 : decode cL_tryAppend 6 = .ok (.astore_n 2, 1) := by decide +kernel
theorem dL_tryAppend_7 : decode cL_tryAppend 7 = .ok (.ldc 18, 2) := by decide +kernel
theorem dL_tryAppend_9 : decode cL_tryAppend 9 = .ok (.ireturn, 1) := by decide +kernel
theorem dL_tryAppend_10 : decode cL_tryAppend 10 = .ok (.astore_n 2, 1) := by decide +kernel
theorem dL_tryAppend_11 : decode cL_tryAppend 11 = .ok (.ldc 29, 2) := by decide +kernel
theorem dL_tryAppend_13 : decode cL_tryAppend 13 = .ok (.ireturn, 1) := by decide +kernel
theorem dL_tryLoad_0 : decode cL_tryLoad 0 = .ok (.aload_n 0, 1) := by decide +kernel
theorem dL_tryLoad_1 : decode cL_tryLoad 1 = .ok (.invokevirtual 30, 3) := by decide +kernel
theorem dL_tryLoad_4 : decode cL_tryLoad 4 = .ok (.ireturn, 1) := by decide +kernel
theorem dL_tryLoad_5 : decode cL_tryLoad 5 = .ok (.astore_n 1, 1) := by decide +kernel
theorem dL_tryLoad_6 : decode cL_tryLoad 6 = .ok (.ldc 29, 2) := by decide +kernel
theorem dL_tryLoad_8 : decode cL_tryLoad 8 = .ok (.ireturn, 1) := by decide +kernel
theorem dL_trySteps_0 : decode cL_trySteps 0 = .ok (.aload_n 0, 1) := by decide +kernel
theorem dL_trySteps_1 : decode cL_trySteps 1 = .ok (.iload_n 1, 1) := by decide +kernel
theorem dL_trySteps_2 : decode cL_trySteps 2 = .ok (.iload_n 2, 1) := by decide +kernel
theorem dL_trySteps_3 : decode cL_trySteps 3 = .ok (.invokevirtual 34, 3) := by decide +kernel
theorem dL_trySteps_6 : decode cL_trySteps 6 = .ok (.ireturn, 1) := by decide +kernel
theorem dL_trySteps_7 : decode cL_trySteps 7 = .ok (.astore_n 3, 1) := by decide +kernel
theorem dL_trySteps_8 : decode cL_trySteps 8 = .ok (.ldc 18, 2) := by decide +kernel
theorem dL_trySteps_10 : decode cL_trySteps 10 = .ok (.ireturn, 1) := by decide +kernel
theorem dL_trySteps_11 : decode cL_trySteps 11 = .ok (.astore_n 3, 1) := by decide +kernel
theorem dL_trySteps_12 : decode cL_trySteps 12 = .ok (.ldc 29, 2) := by decide +kernel
theorem dL_trySteps_14 : decode cL_trySteps 14 = .ok (.ireturn, 1) := by decide +kernel
theorem dL_tryScaled_0 : decode cL_tryScaled 0 = .ok (.aload_n 0, 1) := by decide +kernel
theorem dL_tryScaled_1 : decode cL_tryScaled 1 = .ok (.iload_n 1, 1) := by decide +kernel
theorem dL_tryScaled_2 : decode cL_tryScaled 2 = .ok (.iload_n 2, 1) := by decide +kernel
theorem dL_tryScaled_3 : decode cL_tryScaled 3 = .ok (.iload_n 3, 1) := by decide +kernel
theorem dL_tryScaled_4 : decode cL_tryScaled 4 = .ok (.invokevirtual 38, 3) := by decide +kernel
theorem dL_tryScaled_7 : decode cL_tryScaled 7 = .ok (.ireturn, 1) := by decide +kernel
theorem dL_tryScaled_8 : decode cL_tryScaled 8 = .ok (.astore 4, 2) := by decide +kernel
theorem dL_tryScaled_10 : decode cL_tryScaled 10 = .ok (.ldc 15, 2) := by decide +kernel
theorem dL_tryScaled_12 : decode cL_tryScaled 12 = .ok (.ireturn, 1) := by decide +kernel
theorem dL_tryScaled_13 : decode cL_tryScaled 13 = .ok (.astore 4, 2) := by decide +kernel
theorem dL_tryScaled_15 : decode cL_tryScaled 15 = .ok (.ldc 18, 2) := by decide +kernel
theorem dL_tryScaled_17 : decode cL_tryScaled 17 = .ok (.ireturn, 1) := by decide +kernel
theorem dL_tryScaled_18 : decode cL_tryScaled 18 = .ok (.astore 4, 2) := by decide +kernel
theorem dL_tryScaled_20 : decode cL_tryScaled 20 = .ok (.ldc 29, 2) := by decide +kernel
theorem dL_tryScaled_22 : decode cL_tryScaled 22 = .ok (.ireturn, 1) := by decide +kernel
theorem dL_tryJoined_0 : decode cL_tryJoined 0 = .ok (.aload_n 0, 1) := by decide +kernel
theorem dL_tryJoined_1 : decode cL_tryJoined 1 = .ok (.iload_n 1, 1) := by decide +kernel
theorem dL_tryJoined_2 : decode cL_tryJoined 2 = .ok (.iload_n 2, 1) := by decide +kernel
theorem dL_tryJoined_3 : decode cL_tryJoined 3 = .ok (.invokevirtual 42, 3) := by decide +kernel
theorem dL_tryJoined_6 : decode cL_tryJoined 6 = .ok (.ireturn, 1) := by decide +kernel
theorem dL_tryJoined_7 : decode cL_tryJoined 7 = .ok (.astore_n 3, 1) := by decide +kernel
theorem dL_tryJoined_8 : decode cL_tryJoined 8 = .ok (.ldc 15, 2) := by decide +kernel
theorem dL_tryJoined_10 : decode cL_tryJoined 10 = .ok (.ireturn, 1) := by decide +kernel
theorem dL_tryJoined_11 : decode cL_tryJoined 11 = .ok (.astore_n 3, 1) := by decide +kernel
theorem dL_tryJoined_12 : decode cL_tryJoined 12 = .ok (.ldc 29, 2) := by decide +kernel
theorem dL_tryJoined_14 : decode cL_tryJoined 14 = .ok (.ireturn, 1) := by decide +kernel
theorem dL_tryShared_0 : decode cL_tryShared 0 = .ok (.aload_n 0, 1) := by decide +kernel
theorem dL_tryShared_1 : decode cL_tryShared 1 = .ok (.iload_n 1, 1) := by decide +kernel
theorem dL_tryShared_2 : decode cL_tryShared 2 = .ok (.iload_n 2, 1) := by decide +kernel
theorem dL_tryShared_3 : decode cL_tryShared 3 = .ok (.invokevirtual 45, 3) := by decide +kernel
theorem dL_tryShared_6 : decode cL_tryShared 6 = .ok (.ireturn, 1) := by decide +kernel
theorem dL_tryShared_7 : decode cL_tryShared 7 = .ok (.astore_n 3, 1) := by decide +kernel
theorem dL_tryShared_8 : decode cL_tryShared 8 = .ok (.ldc 15, 2) := by decide +kernel
theorem dL_tryShared_10 : decode cL_tryShared 10 = .ok (.ireturn, 1) := by decide +kernel
theorem dL_tryShared_11 : decode cL_tryShared 11 = .ok (.astore_n 3, 1) := by decide +kernel
theorem dL_tryShared_12 : decode cL_tryShared 12 = .ok (.ldc 29, 2) := by decide +kernel
theorem dL_tryShared_14 : decode cL_tryShared 14 = .ok (.ireturn, 1) := by decide +kernel
theorem dL_tryWithout_0 : decode cL_tryWithout 0 = .ok (.aload_n 0, 1) := by decide +kernel
theorem dL_tryWithout_1 : decode cL_tryWithout 1 = .ok (.iload_n 1, 1) := by decide +kernel
theorem dL_tryWithout_2 : decode cL_tryWithout 2 = .ok (.iload_n 2, 1) := by decide +kernel
theorem dL_tryWithout_3 : decode cL_tryWithout 3 = .ok (.invokevirtual 48, 3) := by decide +kernel
theorem dL_tryWithout_6 : decode cL_tryWithout 6 = .ok (.ireturn, 1) := by decide +kernel
theorem dL_tryWithout_7 : decode cL_tryWithout 7 = .ok (.astore_n 3, 1) := by decide +kernel
theorem dL_tryWithout_8 : decode cL_tryWithout 8 = .ok (.ldc 15, 2) := by decide +kernel
theorem dL_tryWithout_10 : decode cL_tryWithout 10 = .ok (.ireturn, 1) := by decide +kernel
theorem dL_tryWithout_11 : decode cL_tryWithout 11 = .ok (.astore_n 3, 1) := by decide +kernel
theorem dL_tryWithout_12 : decode cL_tryWithout 12 = .ok (.ldc 29, 2) := by decide +kernel
theorem dL_tryWithout_14 : decode cL_tryWithout 14 = .ok (.ireturn, 1) := by decide +kernel
theorem dL_trySieved_0 : decode cL_trySieved 0 = .ok (.aload_n 0, 1) := by decide +kernel
theorem dL_trySieved_1 : decode cL_trySieved 1 = .ok (.iload_n 1, 1) := by decide +kernel
theorem dL_trySieved_2 : decode cL_trySieved 2 = .ok (.invokevirtual 51, 3) := by decide +kernel
theorem dL_trySieved_5 : decode cL_trySieved 5 = .ok (.ireturn, 1) := by decide +kernel
theorem dL_trySieved_6 : decode cL_trySieved 6 = .ok (.astore_n 2, 1) := by decide +kernel
theorem dL_trySieved_7 : decode cL_trySieved 7 = .ok (.ldc 15, 2) := by decide +kernel
theorem dL_trySieved_9 : decode cL_trySieved 9 = .ok (.ireturn, 1) := by decide +kernel
theorem dL_trySieved_10 : decode cL_trySieved 10 = .ok (.astore_n 2, 1) := by decide +kernel
theorem dL_trySieved_11 : decode cL_trySieved 11 = .ok (.ldc 29, 2) := by decide +kernel
theorem dL_trySieved_13 : decode cL_trySieved 13 = .ok (.ireturn, 1) := by decide +kernel
theorem dL_tryThinned_0 : decode cL_tryThinned 0 = .ok (.aload_n 0, 1) := by decide +kernel
theorem dL_tryThinned_1 : decode cL_tryThinned 1 = .ok (.iload_n 1, 1) := by decide +kernel
theorem dL_tryThinned_2 : decode cL_tryThinned 2 = .ok (.iload_n 2, 1) := by decide +kernel
theorem dL_tryThinned_3 : decode cL_tryThinned 3 = .ok (.invokevirtual 54, 3) := by decide +kernel
theorem dL_tryThinned_6 : decode cL_tryThinned 6 = .ok (.ireturn, 1) := by decide +kernel
theorem dL_tryThinned_7 : decode cL_tryThinned 7 = .ok (.astore_n 3, 1) := by decide +kernel
theorem dL_tryThinned_8 : decode cL_tryThinned 8 = .ok (.ldc 15, 2) := by decide +kernel
theorem dL_tryThinned_10 : decode cL_tryThinned 10 = .ok (.ireturn, 1) := by decide +kernel
theorem dL_tryThinned_11 : decode cL_tryThinned 11 = .ok (.astore_n 3, 1) := by decide +kernel
theorem dL_tryThinned_12 : decode cL_tryThinned 12 = .ok (.ldc 18, 2) := by decide +kernel
theorem dL_tryThinned_14 : decode cL_tryThinned 14 = .ok (.ireturn, 1) := by decide +kernel
theorem dL_tryThinned_15 : decode cL_tryThinned 15 = .ok (.astore_n 3, 1) := by decide +kernel
theorem dL_tryThinned_16 : decode cL_tryThinned 16 = .ok (.ldc 29, 2) := by decide +kernel
theorem dL_tryThinned_18 : decode cL_tryThinned 18 = .ok (.ireturn, 1) := by decide +kernel
theorem dL_tryAdded_0 : decode cL_tryAdded 0 = .ok (.aload_n 0, 1) := by decide +kernel
theorem dL_tryAdded_1 : decode cL_tryAdded 1 = .ok (.iload_n 1, 1) := by decide +kernel
theorem dL_tryAdded_2 : decode cL_tryAdded 2 = .ok (.invokevirtual 57, 3) := by decide +kernel
theorem dL_tryAdded_5 : decode cL_tryAdded 5 = .ok (.ireturn, 1) := by decide +kernel
theorem dL_tryAdded_6 : decode cL_tryAdded 6 = .ok (.astore_n 2, 1) := by decide +kernel
theorem dL_tryAdded_7 : decode cL_tryAdded 7 = .ok (.ldc 15, 2) := by decide +kernel
theorem dL_tryAdded_9 : decode cL_tryAdded 9 = .ok (.ireturn, 1) := by decide +kernel
theorem dL_tryAdded_10 : decode cL_tryAdded 10 = .ok (.astore_n 2, 1) := by decide +kernel
theorem dL_tryAdded_11 : decode cL_tryAdded 11 = .ok (.ldc 29, 2) := by decide +kernel
theorem dL_tryAdded_13 : decode cL_tryAdded 13 = .ok (.ireturn, 1) := by decide +kernel
theorem dL_tryDrop_0 : decode cL_tryDrop 0 = .ok (.aload_n 0, 1) := by decide +kernel
theorem dL_tryDrop_1 : decode cL_tryDrop 1 = .ok (.invokevirtual 60, 3) := by decide +kernel
theorem dL_tryDrop_4 : decode cL_tryDrop 4 = .ok (.ireturn, 1) := by decide +kernel
theorem dL_tryDrop_5 : decode cL_tryDrop 5 = .ok (.astore_n 1, 1) := by decide +kernel
theorem dL_tryDrop_6 : decode cL_tryDrop 6 = .ok (.ldc 29, 2) := by decide +kernel
theorem dL_tryDrop_8 : decode cL_tryDrop 8 = .ok (.ireturn, 1) := by decide +kernel
theorem dL_tryBegin_0 : decode cL_tryBegin 0 = .ok (.aload_n 0, 1) := by decide +kernel
theorem dL_tryBegin_1 : decode cL_tryBegin 1 = .ok (.iload_n 1, 1) := by decide +kernel
theorem dL_tryBegin_2 : decode cL_tryBegin 2 = .ok (.invokevirtual 63, 3) := by decide +kernel
theorem dL_tryBegin_5 : decode cL_tryBegin 5 = .ok (.ireturn, 1) := by decide +kernel
theorem dL_tryBegin_6 : decode cL_tryBegin 6 = .ok (.astore_n 2, 1) := by decide +kernel
theorem dL_tryBegin_7 : decode cL_tryBegin 7 = .ok (.ldc 15, 2) := by decide +kernel
theorem dL_tryBegin_9 : decode cL_tryBegin 9 = .ok (.ireturn, 1) := by decide +kernel
theorem dL_tryBegin_10 : decode cL_tryBegin 10 = .ok (.astore_n 2, 1) := by decide +kernel
theorem dL_tryBegin_11 : decode cL_tryBegin 11 = .ok (.ldc 29, 2) := by decide +kernel
theorem dL_tryBegin_13 : decode cL_tryBegin 13 = .ok (.ireturn, 1) := by decide +kernel
theorem dL_tryRead_0 : decode cL_tryRead 0 = .ok (.aload_n 0, 1) := by decide +kernel
theorem dL_tryRead_1 : decode cL_tryRead 1 = .ok (.iload_n 1, 1) := by decide +kernel
theorem dL_tryRead_2 : decode cL_tryRead 2 = .ok (.invokevirtual 66, 3) := by decide +kernel
theorem dL_tryRead_5 : decode cL_tryRead 5 = .ok (.ireturn, 1) := by decide +kernel
theorem dL_tryRead_6 : decode cL_tryRead 6 = .ok (.astore_n 2, 1) := by decide +kernel
theorem dL_tryRead_7 : decode cL_tryRead 7 = .ok (.ldc 15, 2) := by decide +kernel
theorem dL_tryRead_9 : decode cL_tryRead 9 = .ok (.ireturn, 1) := by decide +kernel
theorem dL_tryRead_10 : decode cL_tryRead 10 = .ok (.astore_n 2, 1) := by decide +kernel
theorem dL_tryRead_11 : decode cL_tryRead 11 = .ok (.ldc 29, 2) := by decide +kernel
theorem dL_tryRead_13 : decode cL_tryRead 13 = .ok (.ireturn, 1) := by decide +kernel
theorem dL_trySkip_0 : decode cL_trySkip 0 = .ok (.aload_n 0, 1) := by decide +kernel
theorem dL_trySkip_1 : decode cL_trySkip 1 = .ok (.iload_n 1, 1) := by decide +kernel
theorem dL_trySkip_2 : decode cL_trySkip 2 = .ok (.iload_n 2, 1) := by decide +kernel
theorem dL_trySkip_3 : decode cL_trySkip 3 = .ok (.invokevirtual 69, 3) := by decide +kernel
theorem dL_trySkip_6 : decode cL_trySkip 6 = .ok (.ireturn, 1) := by decide +kernel
theorem dL_trySkip_7 : decode cL_trySkip 7 = .ok (.astore_n 3, 1) := by decide +kernel
theorem dL_trySkip_8 : decode cL_trySkip 8 = .ok (.ldc 15, 2) := by decide +kernel
theorem dL_trySkip_10 : decode cL_trySkip 10 = .ok (.ireturn, 1) := by decide +kernel
theorem dL_trySkip_11 : decode cL_trySkip 11 = .ok (.astore_n 3, 1) := by decide +kernel
theorem dL_trySkip_12 : decode cL_trySkip 12 = .ok (.ldc 18, 2) := by decide +kernel
theorem dL_trySkip_14 : decode cL_trySkip 14 = .ok (.ireturn, 1) := by decide +kernel
theorem dL_tryReturn_0 : decode cL_tryReturn 0 = .ok (.aload_n 0, 1) := by decide +kernel
theorem dL_tryReturn_1 : decode cL_tryReturn 1 = .ok (.iload_n 1, 1) := by decide +kernel
theorem dL_tryReturn_2 : decode cL_tryReturn 2 = .ok (.invokevirtual 72, 3) := by decide +kernel
theorem dL_tryReturn_5 : decode cL_tryReturn 5 = .ok (.ireturn, 1) := by decide +kernel
theorem dL_tryReturn_6 : decode cL_tryReturn 6 = .ok (.astore_n 2, 1) := by decide +kernel
theorem dL_tryReturn_7 : decode cL_tryReturn 7 = .ok (.ldc 15, 2) := by decide +kernel
theorem dL_tryReturn_9 : decode cL_tryReturn 9 = .ok (.ireturn, 1) := by decide +kernel
theorem dL_tryStop_0 : decode cL_tryStop 0 = .ok (.aload_n 0, 1) := by decide +kernel
theorem dL_tryStop_1 : decode cL_tryStop 1 = .ok (.iload_n 1, 1) := by decide +kernel
theorem dL_tryStop_2 : decode cL_tryStop 2 = .ok (.invokevirtual 75, 3) := by decide +kernel
theorem dL_tryStop_5 : decode cL_tryStop 5 = .ok (.ireturn, 1) := by decide +kernel
theorem dL_tryStop_6 : decode cL_tryStop 6 = .ok (.astore_n 2, 1) := by decide +kernel
theorem dL_tryStop_7 : decode cL_tryStop 7 = .ok (.ldc 15, 2) := by decide +kernel
theorem dL_tryStop_9 : decode cL_tryStop 9 = .ok (.ireturn, 1) := by decide +kernel
theorem dL_tryUndo_0 : decode cL_tryUndo 0 = .ok (.aload_n 0, 1) := by decide +kernel
theorem dL_tryUndo_1 : decode cL_tryUndo 1 = .ok (.invokevirtual 78, 3) := by decide +kernel
theorem dL_tryUndo_4 : decode cL_tryUndo 4 = .ok (.ireturn, 1) := by decide +kernel
theorem dL_tryUndo_5 : decode cL_tryUndo 5 = .ok (.astore_n 1, 1) := by decide +kernel
theorem dL_tryUndo_6 : decode cL_tryUndo 6 = .ok (.ldc 29, 2) := by decide +kernel
theorem dL_tryUndo_8 : decode cL_tryUndo 8 = .ok (.ireturn, 1) := by decide +kernel
theorem dL_tryAt_0 : decode cL_tryAt 0 = .ok (.aload_n 0, 1) := by decide +kernel
theorem dL_tryAt_1 : decode cL_tryAt 1 = .ok (.iload_n 1, 1) := by decide +kernel
theorem dL_tryAt_2 : decode cL_tryAt 2 = .ok (.iload_n 2, 1) := by decide +kernel
theorem dL_tryAt_3 : decode cL_tryAt 3 = .ok (.invokevirtual 81, 3) := by decide +kernel
theorem dL_tryAt_6 : decode cL_tryAt 6 = .ok (.ireturn, 1) := by decide +kernel
theorem dL_tryAt_7 : decode cL_tryAt 7 = .ok (.astore_n 3, 1) := by decide +kernel
theorem dL_tryAt_8 : decode cL_tryAt 8 = .ok (.ldc 15, 2) := by decide +kernel
theorem dL_tryAt_10 : decode cL_tryAt 10 = .ok (.ireturn, 1) := by decide +kernel
theorem dL_tryTested_0 : decode cL_tryTested 0 = .ok (.aload_n 0, 1) := by decide +kernel
theorem dL_tryTested_1 : decode cL_tryTested 1 = .ok (.iload_n 1, 1) := by decide +kernel
theorem dL_tryTested_2 : decode cL_tryTested 2 = .ok (.iload_n 2, 1) := by decide +kernel
theorem dL_tryTested_3 : decode cL_tryTested 3 = .ok (.invokevirtual 84, 3) := by decide +kernel
theorem dL_tryTested_6 : decode cL_tryTested 6 = .ok (.ireturn, 1) := by decide +kernel
theorem dL_tryTested_7 : decode cL_tryTested 7 = .ok (.astore_n 3, 1) := by decide +kernel
theorem dL_tryTested_8 : decode cL_tryTested 8 = .ok (.ldc 15, 2) := by decide +kernel
theorem dL_tryTested_10 : decode cL_tryTested 10 = .ok (.ireturn, 1) := by decide +kernel
theorem dL_tryPlace_0 : decode cL_tryPlace 0 = .ok (.aload_n 0, 1) := by decide +kernel
theorem dL_tryPlace_1 : decode cL_tryPlace 1 = .ok (.iload_n 1, 1) := by decide +kernel
theorem dL_tryPlace_2 : decode cL_tryPlace 2 = .ok (.iload_n 2, 1) := by decide +kernel
theorem dL_tryPlace_3 : decode cL_tryPlace 3 = .ok (.invokevirtual 87, 3) := by decide +kernel
theorem dL_tryPlace_6 : decode cL_tryPlace 6 = .ok (.ireturn, 1) := by decide +kernel
theorem dL_tryPlace_7 : decode cL_tryPlace 7 = .ok (.astore_n 3, 1) := by decide +kernel
theorem dL_tryPlace_8 : decode cL_tryPlace 8 = .ok (.ldc 15, 2) := by decide +kernel
theorem dL_tryPlace_10 : decode cL_tryPlace 10 = .ok (.ireturn, 1) := by decide +kernel
theorem dL_tryPlace_11 : decode cL_tryPlace 11 = .ok (.astore_n 3, 1) := by decide +kernel
theorem dL_tryPlace_12 : decode cL_tryPlace 12 = .ok (.ldc 18, 2) := by decide +kernel
theorem dL_tryPlace_14 : decode cL_tryPlace 14 = .ok (.ireturn, 1) := by decide +kernel
theorem dL_tryUpTo_0 : decode cL_tryUpTo 0 = .ok (.aload_n 0, 1) := by decide +kernel
theorem dL_tryUpTo_1 : decode cL_tryUpTo 1 = .ok (.iload_n 1, 1) := by decide +kernel
theorem dL_tryUpTo_2 : decode cL_tryUpTo 2 = .ok (.iload_n 2, 1) := by decide +kernel
theorem dL_tryUpTo_3 : decode cL_tryUpTo 3 = .ok (.invokevirtual 90, 3) := by decide +kernel
theorem dL_tryUpTo_6 : decode cL_tryUpTo 6 = .ok (.ireturn, 1) := by decide +kernel
theorem dL_tryUpTo_7 : decode cL_tryUpTo 7 = .ok (.astore_n 3, 1) := by decide +kernel
theorem dL_tryUpTo_8 : decode cL_tryUpTo 8 = .ok (.ldc 15, 2) := by decide +kernel
theorem dL_tryUpTo_10 : decode cL_tryUpTo 10 = .ok (.ireturn, 1) := by decide +kernel
theorem dL_tryUpTo_11 : decode cL_tryUpTo 11 = .ok (.astore_n 3, 1) := by decide +kernel
theorem dL_tryUpTo_12 : decode cL_tryUpTo 12 = .ok (.ldc 18, 2) := by decide +kernel
theorem dL_tryUpTo_14 : decode cL_tryUpTo 14 = .ok (.ireturn, 1) := by decide +kernel
theorem dL_tryLast_0 : decode cL_tryLast 0 = .ok (.aload_n 0, 1) := by decide +kernel
theorem dL_tryLast_1 : decode cL_tryLast 1 = .ok (.iload_n 1, 1) := by decide +kernel
theorem dL_tryLast_2 : decode cL_tryLast 2 = .ok (.invokevirtual 93, 3) := by decide +kernel
theorem dL_tryLast_5 : decode cL_tryLast 5 = .ok (.ireturn, 1) := by decide +kernel
theorem dL_tryLast_6 : decode cL_tryLast 6 = .ok (.astore_n 2, 1) := by decide +kernel
theorem dL_tryLast_7 : decode cL_tryLast 7 = .ok (.ldc 15, 2) := by decide +kernel
theorem dL_tryLast_9 : decode cL_tryLast 9 = .ok (.ireturn, 1) := by decide +kernel
theorem dL_tryCommon_0 : decode cL_tryCommon 0 = .ok (.aload_n 0, 1) := by decide +kernel
theorem dL_tryCommon_1 : decode cL_tryCommon 1 = .ok (.iload_n 1, 1) := by decide +kernel
theorem dL_tryCommon_2 : decode cL_tryCommon 2 = .ok (.iload_n 2, 1) := by decide +kernel
theorem dL_tryCommon_3 : decode cL_tryCommon 3 = .ok (.invokevirtual 96, 3) := by decide +kernel
theorem dL_tryCommon_6 : decode cL_tryCommon 6 = .ok (.ireturn, 1) := by decide +kernel
theorem dL_tryCommon_7 : decode cL_tryCommon 7 = .ok (.astore_n 3, 1) := by decide +kernel
theorem dL_tryCommon_8 : decode cL_tryCommon 8 = .ok (.ldc 15, 2) := by decide +kernel
theorem dL_tryCommon_10 : decode cL_tryCommon 10 = .ok (.ireturn, 1) := by decide +kernel
theorem dL_tryGap_0 : decode cL_tryGap 0 = .ok (.aload_n 0, 1) := by decide +kernel
theorem dL_tryGap_1 : decode cL_tryGap 1 = .ok (.iload_n 1, 1) := by decide +kernel
theorem dL_tryGap_2 : decode cL_tryGap 2 = .ok (.invokevirtual 99, 3) := by decide +kernel
theorem dL_tryGap_5 : decode cL_tryGap 5 = .ok (.ireturn, 1) := by decide +kernel
theorem dL_tryGap_6 : decode cL_tryGap 6 = .ok (.astore_n 2, 1) := by decide +kernel
theorem dL_tryGap_7 : decode cL_tryGap 7 = .ok (.ldc 15, 2) := by decide +kernel
theorem dL_tryGap_9 : decode cL_tryGap 9 = .ok (.ireturn, 1) := by decide +kernel
theorem dL_tryListOf_0 : decode cL_tryListOf 0 = .ok (.aload_n 0, 1) := by decide +kernel
theorem dL_tryListOf_1 : decode cL_tryListOf 1 = .ok (.iload_n 1, 1) := by decide +kernel
theorem dL_tryListOf_2 : decode cL_tryListOf 2 = .ok (.invokevirtual 102, 3) := by decide +kernel
theorem dL_tryListOf_5 : decode cL_tryListOf 5 = .ok (.ireturn, 1) := by decide +kernel
theorem dL_tryListOf_6 : decode cL_tryListOf 6 = .ok (.astore_n 2, 1) := by decide +kernel
theorem dL_tryListOf_7 : decode cL_tryListOf 7 = .ok (.ldc 15, 2) := by decide +kernel
theorem dL_tryListOf_9 : decode cL_tryListOf 9 = .ok (.ireturn, 1) := by decide +kernel
theorem dL_trySoFar_0 : decode cL_trySoFar 0 = .ok (.aload_n 0, 1) := by decide +kernel
theorem dL_trySoFar_1 : decode cL_trySoFar 1 = .ok (.iload_n 1, 1) := by decide +kernel
theorem dL_trySoFar_2 : decode cL_trySoFar 2 = .ok (.invokevirtual 105, 3) := by decide +kernel
theorem dL_trySoFar_5 : decode cL_trySoFar 5 = .ok (.ireturn, 1) := by decide +kernel
theorem dL_trySoFar_6 : decode cL_trySoFar 6 = .ok (.astore_n 2, 1) := by decide +kernel
theorem dL_trySoFar_7 : decode cL_trySoFar 7 = .ok (.ldc 15, 2) := by decide +kernel
theorem dL_trySoFar_9 : decode cL_trySoFar 9 = .ok (.ireturn, 1) := by decide +kernel
theorem dL_tryNext_0 : decode cL_tryNext 0 = .ok (.aload_n 0, 1) := by decide +kernel
theorem dL_tryNext_1 : decode cL_tryNext 1 = .ok (.iload_n 1, 1) := by decide +kernel
theorem dL_tryNext_2 : decode cL_tryNext 2 = .ok (.invokevirtual 108, 3) := by decide +kernel
theorem dL_tryNext_5 : decode cL_tryNext 5 = .ok (.ireturn, 1) := by decide +kernel
theorem dL_tryNext_6 : decode cL_tryNext 6 = .ok (.astore_n 2, 1) := by decide +kernel
theorem dL_tryNext_7 : decode cL_tryNext 7 = .ok (.ldc 15, 2) := by decide +kernel
theorem dL_tryNext_9 : decode cL_tryNext 9 = .ok (.ireturn, 1) := by decide +kernel
theorem dL_tryWalk_0 : decode cL_tryWalk 0 = .ok (.aload_n 0, 1) := by decide +kernel
theorem dL_tryWalk_1 : decode cL_tryWalk 1 = .ok (.iload_n 1, 1) := by decide +kernel
theorem dL_tryWalk_2 : decode cL_tryWalk 2 = .ok (.invokevirtual 111, 3) := by decide +kernel
theorem dL_tryWalk_5 : decode cL_tryWalk 5 = .ok (.ireturn, 1) := by decide +kernel
theorem dL_tryWalk_6 : decode cL_tryWalk 6 = .ok (.astore_n 2, 1) := by decide +kernel
theorem dL_tryWalk_7 : decode cL_tryWalk 7 = .ok (.ldc 18, 2) := by decide +kernel
theorem dL_tryWalk_9 : decode cL_tryWalk 9 = .ok (.ireturn, 1) := by decide +kernel
theorem dL_tryCount_0 : decode cL_tryCount 0 = .ok (.aload_n 0, 1) := by decide +kernel
theorem dL_tryCount_1 : decode cL_tryCount 1 = .ok (.iload_n 1, 1) := by decide +kernel
theorem dL_tryCount_2 : decode cL_tryCount 2 = .ok (.invokevirtual 114, 3) := by decide +kernel
theorem dL_tryCount_5 : decode cL_tryCount 5 = .ok (.ireturn, 1) := by decide +kernel
theorem dL_tryCount_6 : decode cL_tryCount 6 = .ok (.astore_n 2, 1) := by decide +kernel
theorem dL_tryCount_7 : decode cL_tryCount 7 = .ok (.ldc 18, 2) := by decide +kernel
theorem dL_tryCount_9 : decode cL_tryCount 9 = .ok (.ireturn, 1) := by decide +kernel
theorem dL_tryPair_0 : decode cL_tryPair 0 = .ok (.aload_n 0, 1) := by decide +kernel
theorem dL_tryPair_1 : decode cL_tryPair 1 = .ok (.iload_n 1, 1) := by decide +kernel
theorem dL_tryPair_2 : decode cL_tryPair 2 = .ok (.iload_n 2, 1) := by decide +kernel
theorem dL_tryPair_3 : decode cL_tryPair 3 = .ok (.invokevirtual 117, 3) := by decide +kernel
theorem dL_tryPair_6 : decode cL_tryPair 6 = .ok (.ireturn, 1) := by decide +kernel
theorem dL_tryPair_7 : decode cL_tryPair 7 = .ok (.astore_n 3, 1) := by decide +kernel
theorem dL_tryPair_8 : decode cL_tryPair 8 = .ok (.ldc 18, 2) := by decide +kernel
theorem dL_tryPair_10 : decode cL_tryPair 10 = .ok (.ireturn, 1) := by decide +kernel
theorem dL_tryIfJoined_0 : decode cL_tryIfJoined 0 = .ok (.aload_n 0, 1) := by decide +kernel
theorem dL_tryIfJoined_1 : decode cL_tryIfJoined 1 = .ok (.iload_n 1, 1) := by decide +kernel
theorem dL_tryIfJoined_2 : decode cL_tryIfJoined 2 = .ok (.iload_n 2, 1) := by decide +kernel
theorem dL_tryIfJoined_3 : decode cL_tryIfJoined 3 = .ok (.invokevirtual 120, 3) := by decide +kernel
theorem dL_tryIfJoined_6 : decode cL_tryIfJoined 6 = .ok (.ireturn, 1) := by decide +kernel
theorem dL_tryIfJoined_7 : decode cL_tryIfJoined 7 = .ok (.astore_n 3, 1) := by decide +kernel
theorem dL_tryIfJoined_8 : decode cL_tryIfJoined 8 = .ok (.ldc 15, 2) := by decide +kernel
theorem dL_tryIfJoined_10 : decode cL_tryIfJoined 10 = .ok (.ireturn, 1) := by decide +kernel
theorem dL_trySkipsTo_0 : decode cL_trySkipsTo 0 = .ok (.aload_n 0, 1) := by decide +kernel
theorem dL_trySkipsTo_1 : decode cL_trySkipsTo 1 = .ok (.iload_n 1, 1) := by decide +kernel
theorem dL_trySkipsTo_2 : decode cL_trySkipsTo 2 = .ok (.iload_n 2, 1) := by decide +kernel
theorem dL_trySkipsTo_3 : decode cL_trySkipsTo 3 = .ok (.invokevirtual 123, 3) := by decide +kernel
theorem dL_trySkipsTo_6 : decode cL_trySkipsTo 6 = .ok (.ireturn, 1) := by decide +kernel
theorem dL_trySkipsTo_7 : decode cL_trySkipsTo 7 = .ok (.astore_n 3, 1) := by decide +kernel
theorem dL_trySkipsTo_8 : decode cL_trySkipsTo 8 = .ok (.ldc 15, 2) := by decide +kernel
theorem dL_trySkipsTo_10 : decode cL_trySkipsTo 10 = .ok (.ireturn, 1) := by decide +kernel
theorem dL_trySkipsTo_11 : decode cL_trySkipsTo 11 = .ok (.astore_n 3, 1) := by decide +kernel
theorem dL_trySkipsTo_12 : decode cL_trySkipsTo 12 = .ok (.ldc 18, 2) := by decide +kernel
theorem dL_trySkipsTo_14 : decode cL_trySkipsTo 14 = .ok (.ireturn, 1) := by decide +kernel
theorem dL_tryKeep_0 : decode cL_tryKeep 0 = .ok (.aload_n 0, 1) := by decide +kernel
theorem dL_tryKeep_1 : decode cL_tryKeep 1 = .ok (.iload_n 1, 1) := by decide +kernel
theorem dL_tryKeep_2 : decode cL_tryKeep 2 = .ok (.invokevirtual 126, 3) := by decide +kernel
theorem dL_tryKeep_5 : decode cL_tryKeep 5 = .ok (.ireturn, 1) := by decide +kernel
theorem dL_tryKeep_6 : decode cL_tryKeep 6 = .ok (.astore_n 2, 1) := by decide +kernel
theorem dL_tryKeep_7 : decode cL_tryKeep 7 = .ok (.ldc 15, 2) := by decide +kernel
theorem dL_tryKeep_9 : decode cL_tryKeep 9 = .ok (.ireturn, 1) := by decide +kernel
theorem dL_tryBack_0 : decode cL_tryBack 0 = .ok (.aload_n 0, 1) := by decide +kernel
theorem dL_tryBack_1 : decode cL_tryBack 1 = .ok (.iload_n 1, 1) := by decide +kernel
theorem dL_tryBack_2 : decode cL_tryBack 2 = .ok (.invokevirtual 129, 3) := by decide +kernel
theorem dL_tryBack_5 : decode cL_tryBack 5 = .ok (.ireturn, 1) := by decide +kernel
theorem dL_tryBack_6 : decode cL_tryBack 6 = .ok (.astore_n 2, 1) := by decide +kernel
theorem dL_tryBack_7 : decode cL_tryBack 7 = .ok (.ldc 15, 2) := by decide +kernel
theorem dL_tryBack_9 : decode cL_tryBack 9 = .ok (.ireturn, 1) := by decide +kernel
theorem dL_tryBack_10 : decode cL_tryBack 10 = .ok (.astore_n 2, 1) := by decide +kernel
theorem dL_tryBack_11 : decode cL_tryBack 11 = .ok (.ldc 29, 2) := by decide +kernel
theorem dL_tryBack_13 : decode cL_tryBack 13 = .ok (.ireturn, 1) := by decide +kernel
theorem dL_call_0 : decode cL_call 0 = .ok (.iload_n 1, 1) := by decide +kernel
theorem dL_call_1 : decode cL_call 1 = .ok (.tableswitch 359 0 32 #[147, 153, 158, 165, 174, 181, 188, 195, 201, 208, 214, 219, 225, 231, 238, 244, 250, 255, 262, 269, 276, 283, 289, 296, 302, 308, 314, 320, 326, 332, 339, 346, 353], 147) := by decide +kernel
theorem dL_call_148 : decode cL_call 148 = .ok (.aload_n 0, 1) := by decide +kernel
theorem dL_call_149 : decode cL_call 149 = .ok (.iload_n 2, 1) := by decide +kernel
theorem dL_call_150 : decode cL_call 150 = .ok (.invokestatic 132, 3) := by decide +kernel
theorem dL_call_153 : decode cL_call 153 = .ok (.ireturn, 1) := by decide +kernel
theorem dL_call_154 : decode cL_call 154 = .ok (.aload_n 0, 1) := by decide +kernel
theorem dL_call_155 : decode cL_call 155 = .ok (.invokestatic 138, 3) := by decide +kernel
theorem dL_call_158 : decode cL_call 158 = .ok (.ireturn, 1) := by decide +kernel
theorem dL_call_159 : decode cL_call 159 = .ok (.aload_n 0, 1) := by decide +kernel
theorem dL_call_160 : decode cL_call 160 = .ok (.iload_n 2, 1) := by decide +kernel
theorem dL_call_161 : decode cL_call 161 = .ok (.iload_n 3, 1) := by decide +kernel
theorem dL_call_162 : decode cL_call 162 = .ok (.invokestatic 142, 3) := by decide +kernel
theorem dL_call_165 : decode cL_call 165 = .ok (.ireturn, 1) := by decide +kernel
theorem dL_call_166 : decode cL_call 166 = .ok (.aload_n 0, 1) := by decide +kernel
theorem dL_call_167 : decode cL_call 167 = .ok (.iload_n 2, 1) := by decide +kernel
theorem dL_call_168 : decode cL_call 168 = .ok (.iload_n 3, 1) := by decide +kernel
theorem dL_call_169 : decode cL_call 169 = .ok (.iload 4, 2) := by decide +kernel
theorem dL_call_171 : decode cL_call 171 = .ok (.invokestatic 146, 3) := by decide +kernel
theorem dL_call_174 : decode cL_call 174 = .ok (.ireturn, 1) := by decide +kernel
theorem dL_call_175 : decode cL_call 175 = .ok (.aload_n 0, 1) := by decide +kernel
theorem dL_call_176 : decode cL_call 176 = .ok (.iload_n 2, 1) := by decide +kernel
theorem dL_call_177 : decode cL_call 177 = .ok (.iload_n 3, 1) := by decide +kernel
theorem dL_call_178 : decode cL_call 178 = .ok (.invokestatic 150, 3) := by decide +kernel
theorem dL_call_181 : decode cL_call 181 = .ok (.ireturn, 1) := by decide +kernel
theorem dL_call_182 : decode cL_call 182 = .ok (.aload_n 0, 1) := by decide +kernel
theorem dL_call_183 : decode cL_call 183 = .ok (.iload_n 2, 1) := by decide +kernel
theorem dL_call_184 : decode cL_call 184 = .ok (.iload_n 3, 1) := by decide +kernel
theorem dL_call_185 : decode cL_call 185 = .ok (.invokestatic 153, 3) := by decide +kernel
theorem dL_call_188 : decode cL_call 188 = .ok (.ireturn, 1) := by decide +kernel
theorem dL_call_189 : decode cL_call 189 = .ok (.aload_n 0, 1) := by decide +kernel
theorem dL_call_190 : decode cL_call 190 = .ok (.iload_n 2, 1) := by decide +kernel
theorem dL_call_191 : decode cL_call 191 = .ok (.iload_n 3, 1) := by decide +kernel
theorem dL_call_192 : decode cL_call 192 = .ok (.invokestatic 156, 3) := by decide +kernel
theorem dL_call_195 : decode cL_call 195 = .ok (.ireturn, 1) := by decide +kernel
theorem dL_call_196 : decode cL_call 196 = .ok (.aload_n 0, 1) := by decide +kernel
theorem dL_call_197 : decode cL_call 197 = .ok (.iload_n 2, 1) := by decide +kernel
theorem dL_call_198 : decode cL_call 198 = .ok (.invokestatic 159, 3) := by decide +kernel
theorem dL_call_201 : decode cL_call 201 = .ok (.ireturn, 1) := by decide +kernel
theorem dL_call_202 : decode cL_call 202 = .ok (.aload_n 0, 1) := by decide +kernel
theorem dL_call_203 : decode cL_call 203 = .ok (.iload_n 2, 1) := by decide +kernel
theorem dL_call_204 : decode cL_call 204 = .ok (.iload_n 3, 1) := by decide +kernel
theorem dL_call_205 : decode cL_call 205 = .ok (.invokestatic 162, 3) := by decide +kernel
theorem dL_call_208 : decode cL_call 208 = .ok (.ireturn, 1) := by decide +kernel
theorem dL_call_209 : decode cL_call 209 = .ok (.aload_n 0, 1) := by decide +kernel
theorem dL_call_210 : decode cL_call 210 = .ok (.iload_n 2, 1) := by decide +kernel
theorem dL_call_211 : decode cL_call 211 = .ok (.invokestatic 165, 3) := by decide +kernel
theorem dL_call_214 : decode cL_call 214 = .ok (.ireturn, 1) := by decide +kernel
theorem dL_call_215 : decode cL_call 215 = .ok (.aload_n 0, 1) := by decide +kernel
theorem dL_call_216 : decode cL_call 216 = .ok (.invokestatic 168, 3) := by decide +kernel
theorem dL_call_219 : decode cL_call 219 = .ok (.ireturn, 1) := by decide +kernel
theorem dL_call_220 : decode cL_call 220 = .ok (.aload_n 0, 1) := by decide +kernel
theorem dL_call_221 : decode cL_call 221 = .ok (.iload_n 2, 1) := by decide +kernel
theorem dL_call_222 : decode cL_call 222 = .ok (.invokestatic 171, 3) := by decide +kernel
theorem dL_call_225 : decode cL_call 225 = .ok (.ireturn, 1) := by decide +kernel
theorem dL_call_226 : decode cL_call 226 = .ok (.aload_n 0, 1) := by decide +kernel
theorem dL_call_227 : decode cL_call 227 = .ok (.iload_n 2, 1) := by decide +kernel
theorem dL_call_228 : decode cL_call 228 = .ok (.invokestatic 174, 3) := by decide +kernel
theorem dL_call_231 : decode cL_call 231 = .ok (.ireturn, 1) := by decide +kernel
theorem dL_call_232 : decode cL_call 232 = .ok (.aload_n 0, 1) := by decide +kernel
theorem dL_call_233 : decode cL_call 233 = .ok (.iload_n 2, 1) := by decide +kernel
theorem dL_call_234 : decode cL_call 234 = .ok (.iload_n 3, 1) := by decide +kernel
theorem dL_call_235 : decode cL_call 235 = .ok (.invokestatic 177, 3) := by decide +kernel
theorem dL_call_238 : decode cL_call 238 = .ok (.ireturn, 1) := by decide +kernel
theorem dL_call_239 : decode cL_call 239 = .ok (.aload_n 0, 1) := by decide +kernel
theorem dL_call_240 : decode cL_call 240 = .ok (.iload_n 2, 1) := by decide +kernel
theorem dL_call_241 : decode cL_call 241 = .ok (.invokestatic 180, 3) := by decide +kernel
theorem dL_call_244 : decode cL_call 244 = .ok (.ireturn, 1) := by decide +kernel
theorem dL_call_245 : decode cL_call 245 = .ok (.aload_n 0, 1) := by decide +kernel
theorem dL_call_246 : decode cL_call 246 = .ok (.iload_n 2, 1) := by decide +kernel
theorem dL_call_247 : decode cL_call 247 = .ok (.invokestatic 183, 3) := by decide +kernel
theorem dL_call_250 : decode cL_call 250 = .ok (.ireturn, 1) := by decide +kernel
theorem dL_call_251 : decode cL_call 251 = .ok (.aload_n 0, 1) := by decide +kernel
theorem dL_call_252 : decode cL_call 252 = .ok (.invokestatic 186, 3) := by decide +kernel
theorem dL_call_255 : decode cL_call 255 = .ok (.ireturn, 1) := by decide +kernel
theorem dL_call_256 : decode cL_call 256 = .ok (.aload_n 0, 1) := by decide +kernel
theorem dL_call_257 : decode cL_call 257 = .ok (.iload_n 2, 1) := by decide +kernel
theorem dL_call_258 : decode cL_call 258 = .ok (.iload_n 3, 1) := by decide +kernel
theorem dL_call_259 : decode cL_call 259 = .ok (.invokestatic 189, 3) := by decide +kernel
theorem dL_call_262 : decode cL_call 262 = .ok (.ireturn, 1) := by decide +kernel
theorem dL_call_263 : decode cL_call 263 = .ok (.aload_n 0, 1) := by decide +kernel
theorem dL_call_264 : decode cL_call 264 = .ok (.iload_n 2, 1) := by decide +kernel
theorem dL_call_265 : decode cL_call 265 = .ok (.iload_n 3, 1) := by decide +kernel
theorem dL_call_266 : decode cL_call 266 = .ok (.invokestatic 192, 3) := by decide +kernel
theorem dL_call_269 : decode cL_call 269 = .ok (.ireturn, 1) := by decide +kernel
theorem dL_call_270 : decode cL_call 270 = .ok (.aload_n 0, 1) := by decide +kernel
theorem dL_call_271 : decode cL_call 271 = .ok (.iload_n 2, 1) := by decide +kernel
theorem dL_call_272 : decode cL_call 272 = .ok (.iload_n 3, 1) := by decide +kernel
theorem dL_call_273 : decode cL_call 273 = .ok (.invokestatic 195, 3) := by decide +kernel
theorem dL_call_276 : decode cL_call 276 = .ok (.ireturn, 1) := by decide +kernel
theorem dL_call_277 : decode cL_call 277 = .ok (.aload_n 0, 1) := by decide +kernel
theorem dL_call_278 : decode cL_call 278 = .ok (.iload_n 2, 1) := by decide +kernel
theorem dL_call_279 : decode cL_call 279 = .ok (.iload_n 3, 1) := by decide +kernel
theorem dL_call_280 : decode cL_call 280 = .ok (.invokestatic 198, 3) := by decide +kernel
theorem dL_call_283 : decode cL_call 283 = .ok (.ireturn, 1) := by decide +kernel
theorem dL_call_284 : decode cL_call 284 = .ok (.aload_n 0, 1) := by decide +kernel
theorem dL_call_285 : decode cL_call 285 = .ok (.iload_n 2, 1) := by decide +kernel
theorem dL_call_286 : decode cL_call 286 = .ok (.invokestatic 201, 3) := by decide +kernel
theorem dL_call_289 : decode cL_call 289 = .ok (.ireturn, 1) := by decide +kernel
theorem dL_call_290 : decode cL_call 290 = .ok (.aload_n 0, 1) := by decide +kernel
theorem dL_call_291 : decode cL_call 291 = .ok (.iload_n 2, 1) := by decide +kernel
theorem dL_call_292 : decode cL_call 292 = .ok (.iload_n 3, 1) := by decide +kernel
theorem dL_call_293 : decode cL_call 293 = .ok (.invokestatic 204, 3) := by decide +kernel
theorem dL_call_296 : decode cL_call 296 = .ok (.ireturn, 1) := by decide +kernel
theorem dL_call_297 : decode cL_call 297 = .ok (.aload_n 0, 1) := by decide +kernel
theorem dL_call_298 : decode cL_call 298 = .ok (.iload_n 2, 1) := by decide +kernel
theorem dL_call_299 : decode cL_call 299 = .ok (.invokestatic 207, 3) := by decide +kernel
theorem dL_call_302 : decode cL_call 302 = .ok (.ireturn, 1) := by decide +kernel
theorem dL_call_303 : decode cL_call 303 = .ok (.aload_n 0, 1) := by decide +kernel
theorem dL_call_304 : decode cL_call 304 = .ok (.iload_n 2, 1) := by decide +kernel
theorem dL_call_305 : decode cL_call 305 = .ok (.invokestatic 210, 3) := by decide +kernel
theorem dL_call_308 : decode cL_call 308 = .ok (.ireturn, 1) := by decide +kernel
theorem dL_call_309 : decode cL_call 309 = .ok (.aload_n 0, 1) := by decide +kernel
theorem dL_call_310 : decode cL_call 310 = .ok (.iload_n 2, 1) := by decide +kernel
theorem dL_call_311 : decode cL_call 311 = .ok (.invokestatic 213, 3) := by decide +kernel
theorem dL_call_314 : decode cL_call 314 = .ok (.ireturn, 1) := by decide +kernel
theorem dL_call_315 : decode cL_call 315 = .ok (.aload_n 0, 1) := by decide +kernel
theorem dL_call_316 : decode cL_call 316 = .ok (.iload_n 2, 1) := by decide +kernel
theorem dL_call_317 : decode cL_call 317 = .ok (.invokestatic 216, 3) := by decide +kernel
theorem dL_call_320 : decode cL_call 320 = .ok (.ireturn, 1) := by decide +kernel
theorem dL_call_321 : decode cL_call 321 = .ok (.aload_n 0, 1) := by decide +kernel
theorem dL_call_322 : decode cL_call 322 = .ok (.iload_n 2, 1) := by decide +kernel
theorem dL_call_323 : decode cL_call 323 = .ok (.invokestatic 219, 3) := by decide +kernel
theorem dL_call_326 : decode cL_call 326 = .ok (.ireturn, 1) := by decide +kernel
theorem dL_call_327 : decode cL_call 327 = .ok (.aload_n 0, 1) := by decide +kernel
theorem dL_call_328 : decode cL_call 328 = .ok (.iload_n 2, 1) := by decide +kernel
theorem dL_call_329 : decode cL_call 329 = .ok (.invokestatic 222, 3) := by decide +kernel
theorem dL_call_332 : decode cL_call 332 = .ok (.ireturn, 1) := by decide +kernel
theorem dL_call_333 : decode cL_call 333 = .ok (.aload_n 0, 1) := by decide +kernel
theorem dL_call_334 : decode cL_call 334 = .ok (.iload_n 2, 1) := by decide +kernel
theorem dL_call_335 : decode cL_call 335 = .ok (.iload_n 3, 1) := by decide +kernel
theorem dL_call_336 : decode cL_call 336 = .ok (.invokestatic 225, 3) := by decide +kernel
theorem dL_call_339 : decode cL_call 339 = .ok (.ireturn, 1) := by decide +kernel
theorem dL_call_340 : decode cL_call 340 = .ok (.aload_n 0, 1) := by decide +kernel
theorem dL_call_341 : decode cL_call 341 = .ok (.iload_n 2, 1) := by decide +kernel
theorem dL_call_342 : decode cL_call 342 = .ok (.iload_n 3, 1) := by decide +kernel
theorem dL_call_343 : decode cL_call 343 = .ok (.invokestatic 228, 3) := by decide +kernel
theorem dL_call_346 : decode cL_call 346 = .ok (.ireturn, 1) := by decide +kernel
theorem dL_call_347 : decode cL_call 347 = .ok (.aload_n 0, 1) := by decide +kernel
theorem dL_call_348 : decode cL_call 348 = .ok (.iload_n 2, 1) := by decide +kernel
theorem dL_call_349 : decode cL_call 349 = .ok (.iload_n 3, 1) := by decide +kernel
theorem dL_call_350 : decode cL_call 350 = .ok (.invokestatic 231, 3) := by decide +kernel
theorem dL_call_353 : decode cL_call 353 = .ok (.ireturn, 1) := by decide +kernel
theorem dL_call_354 : decode cL_call 354 = .ok (.aload_n 0, 1) := by decide +kernel
theorem dL_call_355 : decode cL_call 355 = .ok (.iload_n 2, 1) := by decide +kernel
theorem dL_call_356 : decode cL_call 356 = .ok (.invokestatic 234, 3) := by decide +kernel
theorem dL_call_359 : decode cL_call 359 = .ok (.ireturn, 1) := by decide +kernel
theorem dL_call_360 : decode cL_call 360 = .ok (.aload_n 0, 1) := by decide +kernel
theorem dL_call_361 : decode cL_call 361 = .ok (.iload_n 2, 1) := by decide +kernel
theorem dL_call_362 : decode cL_call 362 = .ok (.invokestatic 237, 3) := by decide +kernel
theorem dL_call_365 : decode cL_call 365 = .ok (.ireturn, 1) := by decide +kernel
theorem dL_cell_0 : decode cL_cell 0 = .ok (.iload_n 1, 1) := by decide +kernel
theorem dL_cell_1 : decode cL_cell 1 = .ok (.aload_n 0, 1) := by decide +kernel
theorem dL_cell_2 : decode cL_cell 2 = .ok (.arraylength, 1) := by decide +kernel
theorem dL_cell_3 : decode cL_cell 3 = .ok (.if_icmp .ge 9, 3) := by decide +kernel
theorem dL_cell_6 : decode cL_cell 6 = .ok (.aload_n 0, 1) := by decide +kernel
theorem dL_cell_7 : decode cL_cell 7 = .ok (.iload_n 1, 1) := by decide +kernel
theorem dL_cell_8 : decode cL_cell 8 = .ok (.iaload, 1) := by decide +kernel
theorem dL_cell_9 : decode cL_cell 9 = .ok (.goto 13, 3) := by decide +kernel
theorem dL_cell_12 : decode cL_cell 12 = .ok (.ldc 240, 2) := by decide +kernel
theorem dL_cell_14 : decode cL_cell 14 = .ok (.iload_n 1, 1) := by decide +kernel
theorem dL_cell_15 : decode cL_cell 15 = .ok (.iconst 3, 1) := by decide +kernel
theorem dL_cell_16 : decode cL_cell 16 = .ok (.iadd, 1) := by decide +kernel
theorem dL_cell_17 : decode cL_cell 17 = .ok (.imul, 1) := by decide +kernel
theorem dL_cell_18 : decode cL_cell 18 = .ok (.sipush 12433, 3) := by decide +kernel
theorem dL_cell_21 : decode cL_cell 21 = .ok (.iadd, 1) := by decide +kernel
theorem dL_cell_22 : decode cL_cell 22 = .ok (.ldc 241, 2) := by decide +kernel
theorem dL_cell_24 : decode cL_cell 24 = .ok (.iand, 1) := by decide +kernel
theorem dL_cell_25 : decode cL_cell 25 = .ok (.ireturn, 1) := by decide +kernel
theorem dL_thrown_0 : decode cL_thrown 0 = .ok (.iload_n 0, 1) := by decide +kernel
theorem dL_thrown_1 : decode cL_thrown 1 = .ok (.ldc 15, 2) := by decide +kernel
theorem dL_thrown_3 : decode cL_thrown 3 = .ok (.if_icmp .eq 15, 3) := by decide +kernel
theorem dL_thrown_6 : decode cL_thrown 6 = .ok (.iload_n 0, 1) := by decide +kernel
theorem dL_thrown_7 : decode cL_thrown 7 = .ok (.ldc 18, 2) := by decide +kernel
theorem dL_thrown_9 : decode cL_thrown 9 = .ok (.if_icmp .eq 9, 3) := by decide +kernel
theorem dL_thrown_12 : decode cL_thrown 12 = .ok (.iload_n 0, 1) := by decide +kernel
theorem dL_thrown_13 : decode cL_thrown 13 = .ok (.ldc 29, 2) := by decide +kernel
theorem dL_thrown_15 : decode cL_thrown 15 = .ok (.if_icmp .ne 7, 3) := by decide +kernel
theorem dL_thrown_18 : decode cL_thrown 18 = .ok (.iconst 1, 1) := by decide +kernel
theorem dL_thrown_19 : decode cL_thrown 19 = .ok (.goto 4, 3) := by decide +kernel
theorem dL_thrown_22 : decode cL_thrown 22 = .ok (.iconst 0, 1) := by decide +kernel
theorem dL_thrown_23 : decode cL_thrown 23 = .ok (.ireturn, 1) := by decide +kernel
theorem dL_refuses_0 : decode cL_refuses 0 = .ok (.aload_n 0, 1) := by decide +kernel
theorem dL_refuses_1 : decode cL_refuses 1 = .ok (.invokevirtual 242, 3) := by decide +kernel
theorem dL_refuses_4 : decode cL_refuses 4 = .ok (.istore_n 2, 1) := by decide +kernel
theorem dL_refuses_5 : decode cL_refuses 5 = .ok (.aload_n 0, 1) := by decide +kernel
theorem dL_refuses_6 : decode cL_refuses 6 = .ok (.invokevirtual 245, 3) := by decide +kernel
theorem dL_refuses_9 : decode cL_refuses 9 = .ok (.istore_n 3, 1) := by decide +kernel
theorem dL_refuses_10 : decode cL_refuses 10 = .ok (.iload_n 1, 1) := by decide +kernel
theorem dL_refuses_11 : decode cL_refuses 11 = .ok (.iconst 2, 1) := by decide +kernel
theorem dL_refuses_12 : decode cL_refuses 12 = .ok (.irem, 1) := by decide +kernel
theorem dL_refuses_13 : decode cL_refuses 13 = .ok (.ifCond .ne 12, 3) := by decide +kernel
theorem dL_refuses_16 : decode cL_refuses 16 = .ok (.iconst (-1), 1) := by decide +kernel
theorem dL_refuses_17 : decode cL_refuses 17 = .ok (.iload_n 1, 1) := by decide +kernel
theorem dL_refuses_18 : decode cL_refuses 18 = .ok (.bipush 99, 2) := by decide +kernel
theorem dL_refuses_20 : decode cL_refuses 20 = .ok (.irem, 1) := by decide +kernel
theorem dL_refuses_21 : decode cL_refuses 21 = .ok (.isub, 1) := by decide +kernel
theorem dL_refuses_22 : decode cL_refuses 22 = .ok (.goto 9, 3) := by decide +kernel
theorem dL_refuses_25 : decode cL_refuses 25 = .ok (.iload_n 2, 1) := by decide +kernel
theorem dL_refuses_26 : decode cL_refuses 26 = .ok (.iload_n 1, 1) := by decide +kernel
theorem dL_refuses_27 : decode cL_refuses 27 = .ok (.bipush 99, 2) := by decide +kernel
theorem dL_refuses_29 : decode cL_refuses 29 = .ok (.irem, 1) := by decide +kernel
theorem dL_refuses_30 : decode cL_refuses 30 = .ok (.iadd, 1) := by decide +kernel
theorem dL_refuses_31 : decode cL_refuses 31 = .ok (.istore 4, 2) := by decide +kernel
theorem dL_refuses_33 : decode cL_refuses 33 = .ok (.iload_n 1, 1) := by decide +kernel
theorem dL_refuses_34 : decode cL_refuses 34 = .ok (.iconst 2, 1) := by decide +kernel
theorem dL_refuses_35 : decode cL_refuses 35 = .ok (.irem, 1) := by decide +kernel
theorem dL_refuses_36 : decode cL_refuses 36 = .ok (.ifCond .ne 12, 3) := by decide +kernel
theorem dL_refuses_39 : decode cL_refuses 39 = .ok (.iconst (-1), 1) := by decide +kernel
theorem dL_refuses_40 : decode cL_refuses 40 = .ok (.iload_n 1, 1) := by decide +kernel
theorem dL_refuses_41 : decode cL_refuses 41 = .ok (.bipush 99, 2) := by decide +kernel
theorem dL_refuses_43 : decode cL_refuses 43 = .ok (.irem, 1) := by decide +kernel
theorem dL_refuses_44 : decode cL_refuses 44 = .ok (.isub, 1) := by decide +kernel
theorem dL_refuses_45 : decode cL_refuses 45 = .ok (.goto 9, 3) := by decide +kernel
theorem dL_refuses_48 : decode cL_refuses 48 = .ok (.iload_n 3, 1) := by decide +kernel
theorem dL_refuses_49 : decode cL_refuses 49 = .ok (.iload_n 1, 1) := by decide +kernel
theorem dL_refuses_50 : decode cL_refuses 50 = .ok (.bipush 99, 2) := by decide +kernel
theorem dL_refuses_52 : decode cL_refuses 52 = .ok (.irem, 1) := by decide +kernel
theorem dL_refuses_53 : decode cL_refuses 53 = .ok (.iadd, 1) := by decide +kernel
theorem dL_refuses_54 : decode cL_refuses 54 = .ok (.istore 5, 2) := by decide +kernel
theorem dL_refuses_56 : decode cL_refuses 56 = .ok (.iload_n 1, 1) := by decide +kernel
theorem dL_refuses_57 : decode cL_refuses 57 = .ok (.iconst 2, 1) := by decide +kernel
theorem dL_refuses_58 : decode cL_refuses 58 = .ok (.irem, 1) := by decide +kernel
theorem dL_refuses_59 : decode cL_refuses 59 = .ok (.ifCond .ne 12, 3) := by decide +kernel
theorem dL_refuses_62 : decode cL_refuses 62 = .ok (.iconst (-1), 1) := by decide +kernel
theorem dL_refuses_63 : decode cL_refuses 63 = .ok (.iload_n 1, 1) := by decide +kernel
theorem dL_refuses_64 : decode cL_refuses 64 = .ok (.bipush 99, 2) := by decide +kernel
theorem dL_refuses_66 : decode cL_refuses 66 = .ok (.irem, 1) := by decide +kernel
theorem dL_refuses_67 : decode cL_refuses 67 = .ok (.isub, 1) := by decide +kernel
theorem dL_refuses_68 : decode cL_refuses 68 = .ok (.goto 11, 3) := by decide +kernel
theorem dL_refuses_71 : decode cL_refuses 71 = .ok (.sipush 1000, 3) := by decide +kernel
theorem dL_refuses_74 : decode cL_refuses 74 = .ok (.iload_n 1, 1) := by decide +kernel
theorem dL_refuses_75 : decode cL_refuses 75 = .ok (.bipush 99, 2) := by decide +kernel
theorem dL_refuses_77 : decode cL_refuses 77 = .ok (.irem, 1) := by decide +kernel
theorem dL_refuses_78 : decode cL_refuses 78 = .ok (.iadd, 1) := by decide +kernel
theorem dL_refuses_79 : decode cL_refuses 79 = .ok (.istore 6, 2) := by decide +kernel
theorem dL_refuses_81 : decode cL_refuses 81 = .ok (.aload_n 0, 1) := by decide +kernel
theorem dL_refuses_82 : decode cL_refuses 82 = .ok (.iconst 0, 1) := by decide +kernel
theorem dL_refuses_83 : decode cL_refuses 83 = .ok (.iload_n 1, 1) := by decide +kernel
theorem dL_refuses_84 : decode cL_refuses 84 = .ok (.iconst 2, 1) := by decide +kernel
theorem dL_refuses_85 : decode cL_refuses 85 = .ok (.irem, 1) := by decide +kernel
theorem dL_refuses_86 : decode cL_refuses 86 = .ok (.ifCond .ne 12, 3) := by decide +kernel
theorem dL_refuses_89 : decode cL_refuses 89 = .ok (.iconst (-1), 1) := by decide +kernel
theorem dL_refuses_90 : decode cL_refuses 90 = .ok (.iload_n 1, 1) := by decide +kernel
theorem dL_refuses_91 : decode cL_refuses 91 = .ok (.bipush 9, 2) := by decide +kernel
theorem dL_refuses_93 : decode cL_refuses 93 = .ok (.irem, 1) := by decide +kernel
theorem dL_refuses_94 : decode cL_refuses 94 = .ok (.isub, 1) := by decide +kernel
theorem dL_refuses_95 : decode cL_refuses 95 = .ok (.goto 11, 3) := by decide +kernel
theorem dL_refuses_98 : decode cL_refuses 98 = .ok (.sipush 256, 3) := by decide +kernel
theorem dL_refuses_101 : decode cL_refuses 101 = .ok (.iload_n 1, 1) := by decide +kernel
theorem dL_refuses_102 : decode cL_refuses 102 = .ok (.bipush 9, 2) := by decide +kernel
theorem dL_refuses_104 : decode cL_refuses 104 = .ok (.irem, 1) := by decide +kernel
theorem dL_refuses_105 : decode cL_refuses 105 = .ok (.iadd, 1) := by decide +kernel
theorem dL_refuses_106 : decode cL_refuses 106 = .ok (.iconst 0, 1) := by decide +kernel
theorem dL_refuses_107 : decode cL_refuses 107 = .ok (.iconst 0, 1) := by decide +kernel
theorem dL_refuses_108 : decode cL_refuses 108 = .ok (.invokestatic 248, 3) := by decide +kernel
theorem dL_refuses_111 : decode cL_refuses 111 = .ok (.ldc 18, 2) := by decide +kernel
theorem dL_refuses_113 : decode cL_refuses 113 = .ok (.if_icmp .ne 329, 3) := by decide +kernel
theorem dL_refuses_116 : decode cL_refuses 116 = .ok (.aload_n 0, 1) := by decide +kernel
theorem dL_refuses_117 : decode cL_refuses 117 = .ok (.iconst 2, 1) := by decide +kernel
theorem dL_refuses_118 : decode cL_refuses 118 = .ok (.iload 6, 2) := by decide +kernel
theorem dL_refuses_120 : decode cL_refuses 120 = .ok (.iconst 5, 1) := by decide +kernel
theorem dL_refuses_121 : decode cL_refuses 121 = .ok (.iconst 0, 1) := by decide +kernel
theorem dL_refuses_122 : decode cL_refuses 122 = .ok (.invokestatic 248, 3) := by decide +kernel
theorem dL_refuses_125 : decode cL_refuses 125 = .ok (.ldc 18, 2) := by decide +kernel
theorem dL_refuses_127 : decode cL_refuses 127 = .ok (.if_icmp .ne 315, 3) := by decide +kernel
theorem dL_refuses_130 : decode cL_refuses 130 = .ok (.aload_n 0, 1) := by decide +kernel
theorem dL_refuses_131 : decode cL_refuses 131 = .ok (.iconst 2, 1) := by decide +kernel
theorem dL_refuses_132 : decode cL_refuses 132 = .ok (.iconst 5, 1) := by decide +kernel
theorem dL_refuses_133 : decode cL_refuses 133 = .ok (.iload_n 1, 1) := by decide +kernel
theorem dL_refuses_134 : decode cL_refuses 134 = .ok (.iconst 2, 1) := by decide +kernel
theorem dL_refuses_135 : decode cL_refuses 135 = .ok (.irem, 1) := by decide +kernel
theorem dL_refuses_136 : decode cL_refuses 136 = .ok (.ifCond .ne 7, 3) := by decide +kernel
theorem dL_refuses_139 : decode cL_refuses 139 = .ok (.iconst 0, 1) := by decide +kernel
theorem dL_refuses_140 : decode cL_refuses 140 = .ok (.goto 10, 3) := by decide +kernel
theorem dL_refuses_143 : decode cL_refuses 143 = .ok (.bipush 100, 2) := by decide +kernel
theorem dL_refuses_145 : decode cL_refuses 145 = .ok (.iload_n 1, 1) := by decide +kernel
theorem dL_refuses_146 : decode cL_refuses 146 = .ok (.bipush 9, 2) := by decide +kernel
theorem dL_refuses_148 : decode cL_refuses 148 = .ok (.irem, 1) := by decide +kernel
theorem dL_refuses_149 : decode cL_refuses 149 = .ok (.iadd, 1) := by decide +kernel
theorem dL_refuses_150 : decode cL_refuses 150 = .ok (.iconst 0, 1) := by decide +kernel
theorem dL_refuses_151 : decode cL_refuses 151 = .ok (.invokestatic 248, 3) := by decide +kernel
theorem dL_refuses_154 : decode cL_refuses 154 = .ok (.ldc 18, 2) := by decide +kernel
theorem dL_refuses_156 : decode cL_refuses 156 = .ok (.if_icmp .ne 286, 3) := by decide +kernel
theorem dL_refuses_159 : decode cL_refuses 159 = .ok (.aload_n 0, 1) := by decide +kernel
theorem dL_refuses_160 : decode cL_refuses 160 = .ok (.iconst 3, 1) := by decide +kernel
theorem dL_refuses_161 : decode cL_refuses 161 = .ok (.iload 4, 2) := by decide +kernel
theorem dL_refuses_163 : decode cL_refuses 163 = .ok (.iconst 0, 1) := by decide +kernel
theorem dL_refuses_164 : decode cL_refuses 164 = .ok (.iconst 0, 1) := by decide +kernel
theorem dL_refuses_165 : decode cL_refuses 165 = .ok (.invokestatic 248, 3) := by decide +kernel
theorem dL_refuses_168 : decode cL_refuses 168 = .ok (.ldc 15, 2) := by decide +kernel
theorem dL_refuses_170 : decode cL_refuses 170 = .ok (.if_icmp .ne 272, 3) := by decide +kernel
theorem dL_refuses_173 : decode cL_refuses 173 = .ok (.aload_n 0, 1) := by decide +kernel
theorem dL_refuses_174 : decode cL_refuses 174 = .ok (.iconst 3, 1) := by decide +kernel
theorem dL_refuses_175 : decode cL_refuses 175 = .ok (.iconst 0, 1) := by decide +kernel
theorem dL_refuses_176 : decode cL_refuses 176 = .ok (.iload_n 1, 1) := by decide +kernel
theorem dL_refuses_177 : decode cL_refuses 177 = .ok (.iconst 2, 1) := by decide +kernel
theorem dL_refuses_178 : decode cL_refuses 178 = .ok (.irem, 1) := by decide +kernel
theorem dL_refuses_179 : decode cL_refuses 179 = .ok (.ifCond .ne 7, 3) := by decide +kernel
theorem dL_refuses_182 : decode cL_refuses 182 = .ok (.iconst 0, 1) := by decide +kernel
theorem dL_refuses_183 : decode cL_refuses 183 = .ok (.goto 10, 3) := by decide +kernel
theorem dL_refuses_186 : decode cL_refuses 186 = .ok (.bipush 10, 2) := by decide +kernel
theorem dL_refuses_188 : decode cL_refuses 188 = .ok (.iload_n 1, 1) := by decide +kernel
theorem dL_refuses_189 : decode cL_refuses 189 = .ok (.bipush 9, 2) := by decide +kernel
theorem dL_refuses_191 : decode cL_refuses 191 = .ok (.irem, 1) := by decide +kernel
theorem dL_refuses_192 : decode cL_refuses 192 = .ok (.iadd, 1) := by decide +kernel
theorem dL_refuses_193 : decode cL_refuses 193 = .ok (.iconst 0, 1) := by decide +kernel
theorem dL_refuses_194 : decode cL_refuses 194 = .ok (.invokestatic 248, 3) := by decide +kernel
theorem dL_refuses_197 : decode cL_refuses 197 = .ok (.ldc 18, 2) := by decide +kernel
theorem dL_refuses_199 : decode cL_refuses 199 = .ok (.if_icmp .ne 243, 3) := by decide +kernel
theorem dL_refuses_202 : decode cL_refuses 202 = .ok (.aload_n 0, 1) := by decide +kernel
theorem dL_refuses_203 : decode cL_refuses 203 = .ok (.iconst 3, 1) := by decide +kernel
theorem dL_refuses_204 : decode cL_refuses 204 = .ok (.iconst 0, 1) := by decide +kernel
theorem dL_refuses_205 : decode cL_refuses 205 = .ok (.iconst 5, 1) := by decide +kernel
theorem dL_refuses_206 : decode cL_refuses 206 = .ok (.iload_n 1, 1) := by decide +kernel
theorem dL_refuses_207 : decode cL_refuses 207 = .ok (.iconst 2, 1) := by decide +kernel
theorem dL_refuses_208 : decode cL_refuses 208 = .ok (.irem, 1) := by decide +kernel
theorem dL_refuses_209 : decode cL_refuses 209 = .ok (.ifCond .ne 7, 3) := by decide +kernel
theorem dL_refuses_212 : decode cL_refuses 212 = .ok (.iconst (-1), 1) := by decide +kernel
theorem dL_refuses_213 : decode cL_refuses 213 = .ok (.goto 10, 3) := by decide +kernel
theorem dL_refuses_216 : decode cL_refuses 216 = .ok (.bipush 100, 2) := by decide +kernel
theorem dL_refuses_218 : decode cL_refuses 218 = .ok (.iload_n 1, 1) := by decide +kernel
theorem dL_refuses_219 : decode cL_refuses 219 = .ok (.bipush 9, 2) := by decide +kernel
theorem dL_refuses_221 : decode cL_refuses 221 = .ok (.irem, 1) := by decide +kernel
theorem dL_refuses_222 : decode cL_refuses 222 = .ok (.iadd, 1) := by decide +kernel
theorem dL_refuses_223 : decode cL_refuses 223 = .ok (.invokestatic 248, 3) := by decide +kernel
theorem dL_refuses_226 : decode cL_refuses 226 = .ok (.ldc 18, 2) := by decide +kernel
theorem dL_refuses_228 : decode cL_refuses 228 = .ok (.if_icmp .ne 214, 3) := by decide +kernel
theorem dL_refuses_231 : decode cL_refuses 231 = .ok (.aload_n 0, 1) := by decide +kernel
theorem dL_refuses_232 : decode cL_refuses 232 = .ok (.iconst 4, 1) := by decide +kernel
theorem dL_refuses_233 : decode cL_refuses 233 = .ok (.iload 4, 2) := by decide +kernel
theorem dL_refuses_235 : decode cL_refuses 235 = .ok (.iconst 0, 1) := by decide +kernel
theorem dL_refuses_236 : decode cL_refuses 236 = .ok (.iconst 0, 1) := by decide +kernel
theorem dL_refuses_237 : decode cL_refuses 237 = .ok (.invokestatic 248, 3) := by decide +kernel
theorem dL_refuses_240 : decode cL_refuses 240 = .ok (.ldc 15, 2) := by decide +kernel
theorem dL_refuses_242 : decode cL_refuses 242 = .ok (.if_icmp .ne 200, 3) := by decide +kernel
theorem dL_refuses_245 : decode cL_refuses 245 = .ok (.aload_n 0, 1) := by decide +kernel
theorem dL_refuses_246 : decode cL_refuses 246 = .ok (.iconst 4, 1) := by decide +kernel
theorem dL_refuses_247 : decode cL_refuses 247 = .ok (.iconst 0, 1) := by decide +kernel
theorem dL_refuses_248 : decode cL_refuses 248 = .ok (.iload 4, 2) := by decide +kernel
theorem dL_refuses_250 : decode cL_refuses 250 = .ok (.iconst 0, 1) := by decide +kernel
theorem dL_refuses_251 : decode cL_refuses 251 = .ok (.invokestatic 248, 3) := by decide +kernel
theorem dL_refuses_254 : decode cL_refuses 254 = .ok (.ldc 15, 2) := by decide +kernel
theorem dL_refuses_256 : decode cL_refuses 256 = .ok (.if_icmp .ne 186, 3) := by decide +kernel
theorem dL_refuses_259 : decode cL_refuses 259 = .ok (.aload_n 0, 1) := by decide +kernel
theorem dL_refuses_260 : decode cL_refuses 260 = .ok (.iconst 5, 1) := by decide +kernel
theorem dL_refuses_261 : decode cL_refuses 261 = .ok (.iconst 0, 1) := by decide +kernel
theorem dL_refuses_262 : decode cL_refuses 262 = .ok (.iload 4, 2) := by decide +kernel
theorem dL_refuses_264 : decode cL_refuses 264 = .ok (.iconst 0, 1) := by decide +kernel
theorem dL_refuses_265 : decode cL_refuses 265 = .ok (.invokestatic 248, 3) := by decide +kernel
theorem dL_refuses_268 : decode cL_refuses 268 = .ok (.ldc 15, 2) := by decide +kernel
theorem dL_refuses_270 : decode cL_refuses 270 = .ok (.if_icmp .ne 172, 3) := by decide +kernel
theorem dL_refuses_273 : decode cL_refuses 273 = .ok (.aload_n 0, 1) := by decide +kernel
theorem dL_refuses_274 : decode cL_refuses 274 = .ok (.bipush 6, 2) := by decide +kernel
theorem dL_refuses_276 : decode cL_refuses 276 = .ok (.iload 4, 2) := by decide +kernel
theorem dL_refuses_278 : decode cL_refuses 278 = .ok (.iconst 0, 1) := by decide +kernel
theorem dL_refuses_279 : decode cL_refuses 279 = .ok (.iconst 0, 1) := by decide +kernel
theorem dL_refuses_280 : decode cL_refuses 280 = .ok (.invokestatic 248, 3) := by decide +kernel
theorem dL_refuses_283 : decode cL_refuses 283 = .ok (.ldc 15, 2) := by decide +kernel
theorem dL_refuses_285 : decode cL_refuses 285 = .ok (.if_icmp .ne 157, 3) := by decide +kernel
theorem dL_refuses_288 : decode cL_refuses 288 = .ok (.aload_n 0, 1) := by decide +kernel
theorem dL_refuses_289 : decode cL_refuses 289 = .ok (.bipush 7, 2) := by decide +kernel
theorem dL_refuses_291 : decode cL_refuses 291 = .ok (.iload 4, 2) := by decide +kernel
theorem dL_refuses_293 : decode cL_refuses 293 = .ok (.iconst 0, 1) := by decide +kernel
theorem dL_refuses_294 : decode cL_refuses 294 = .ok (.iconst 0, 1) := by decide +kernel
