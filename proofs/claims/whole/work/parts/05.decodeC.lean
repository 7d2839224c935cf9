theorem dL_append_0 : decode cL_append 0 = .ok (.aload_n 2, 1) := by decide +kernel
theorem dL_append_1 : decode cL_append 1 = .ok (.iconst 0, 1) := by decide +kernel
theorem dL_append_2 : decode cL_append 2 = .ok (.aload_n 0, 1) := by decide +kernel
theorem dL_append_3 : decode cL_append 3 = .ok (.iload_n 1, 1) := by decide +kernel
theorem dL_append_4 : decode cL_append 4 = .ok (.invokevirtual 7, 3) := by decide +kernel
theorem dL_append_7 : decode cL_append 7 = .ok (.i2l, 1) := by decide +kernel
theorem dL_append_8 : decode cL_append 8 = .ok (.lastore, 1) := by decide +kernel
theorem dL_append_9 : decode cL_append 9 = .ok (.goto 9, 3) := by decide +kernel
theorem dL_append_12 : decode cL_append 12 = .ok (.astore_n 3, 1) := by decide +kernel
theorem dL_append_13 : decode cL_append 13 = .ok (.iconst 1, 1) := by decide +kernel
theorem dL_append_14 : decode cL_append 14 = .ok (.ireturn, 1) := by decide +kernel
theorem dL_append_15 : decode cL_append 15 = .ok (.astore_n 3, 1) := by decide +kernel
theorem dL_append_16 : decode cL_append 16 = .ok (.iconst 2, 1) := by decide +kernel
theorem dL_append_17 : decode cL_append 17 = .ok (.ireturn, 1) := by decide +kernel
theorem dL_append_18 : decode cL_append 18 = .ok (.iconst 0, 1) := by decide +kernel
theorem dL_append_19 : decode cL_append 19 = .ok (.ireturn, 1) := by decide +kernel
theorem dL_load_0 : decode cL_load 0 = .ok (.aload_n 1, 1) := by decide +kernel
theorem dL_load_1 : decode cL_load 1 = .ok (.iconst 0, 1) := by decide +kernel
theorem dL_load_2 : decode cL_load 2 = .ok (.aload_n 0, 1) := by decide +kernel
theorem dL_load_3 : decode cL_load 3 = .ok (.invokevirtual 17, 3) := by decide +kernel
theorem dL_load_6 : decode cL_load 6 = .ok (.i2l, 1) := by decide +kernel
theorem dL_load_7 : decode cL_load 7 = .ok (.lastore, 1) := by decide +kernel
theorem dL_load_8 : decode cL_load 8 = .ok (.goto 6, 3) := by decide +kernel
theorem dL_load_11 : decode cL_load 11 = .ok (.astore_n 2, 1) := by decide +kernel
theorem dL_load_12 : decode cL_load 12 = .ok (.iconst 1, 1) := by decide +kernel
theorem dL_load_13 : decode cL_load 13 = .ok (.ireturn, 1) := by decide +kernel
theorem dL_load_14 : decode cL_load 14 = .ok (.iconst 0, 1) := by decide +kernel
theorem dL_load_15 : decode cL_load 15 = .ok (.ireturn, 1) := by decide +kernel
theorem dL_makeSteps_0 : decode cL_makeSteps 0 = .ok (.aload_n 3, 1) := by decide +kernel
theorem dL_makeSteps_1 : decode cL_makeSteps 1 = .ok (.iconst 0, 1) := by decide +kernel
theorem dL_makeSteps_2 : decode cL_makeSteps 2 = .ok (.aload_n 0, 1) := by decide +kernel
theorem dL_makeSteps_3 : decode cL_makeSteps 3 = .ok (.iload_n 1, 1) := by decide +kernel
theorem dL_makeSteps_4 : decode cL_makeSteps 4 = .ok (.iload_n 2, 1) := by decide +kernel
theorem dL_makeSteps_5 : decode cL_makeSteps 5 = .ok (.invokevirtual 21, 3) := by decide +kernel
theorem dL_makeSteps_8 : decode cL_makeSteps 8 = .ok (.i2l, 1) := by decide +kernel
theorem dL_makeSteps_9 : decode cL_makeSteps 9 = .ok (.lastore, 1) := by decide +kernel
theorem dL_makeSteps_10 : decode cL_makeSteps 10 = .ok (.goto 11, 3) := by decide +kernel
theorem dL_makeSteps_13 : decode cL_makeSteps 13 = .ok (.astore 4, 2) := by decide +kernel
theorem dL_makeSteps_15 : decode cL_makeSteps 15 = .ok (.iconst 1, 1) := by decide +kernel
theorem dL_makeSteps_16 : decode cL_makeSteps 16 = .ok (.ireturn, 1) := by decide +kernel
theorem dL_makeSteps_17 : decode cL_makeSteps 17 = .ok (.astore 4, 2) := by decide +kernel
theorem dL_makeSteps_19 : decode cL_makeSteps 19 = .ok (.iconst 2, 1) := by decide +kernel
theorem dL_makeSteps_20 : decode cL_makeSteps 20 = .ok (.ireturn, 1) := by decide +kernel
theorem dL_makeSteps_21 : decode cL_makeSteps 21 = .ok (.iconst 0, 1) := by decide +kernel
theorem dL_makeSteps_22 : decode cL_makeSteps 22 = .ok (.ireturn, 1) := by decide +kernel
theorem dL_makeScaled_0 : decode cL_makeScaled 0 = .ok (.aload 4, 2) := by decide +kernel
theorem dL_makeScaled_2 : decode cL_makeScaled 2 = .ok (.iconst 0, 1) := by decide +kernel
theorem dL_makeScaled_3 : decode cL_makeScaled 3 = .ok (.aload_n 0, 1) := by decide +kernel
theorem dL_makeScaled_4 : decode cL_makeScaled 4 = .ok (.iload_n 1, 1) := by decide +kernel
theorem dL_makeScaled_5 : decode cL_makeScaled 5 = .ok (.iload_n 2, 1) := by decide +kernel
theorem dL_makeScaled_6 : decode cL_makeScaled 6 = .ok (.iload_n 3, 1) := by decide +kernel
theorem dL_makeScaled_7 : decode cL_makeScaled 7 = .ok (.invokevirtual 25, 3) := by decide +kernel
theorem dL_makeScaled_10 : decode cL_makeScaled 10 = .ok (.i2l, 1) := by decide +kernel
theorem dL_makeScaled_11 : decode cL_makeScaled 11 = .ok (.lastore, 1) := by decide +kernel
theorem dL_makeScaled_12 : decode cL_makeScaled 12 = .ok (.goto 15, 3) := by decide +kernel
theorem dL_makeScaled_15 : decode cL_makeScaled 15 = .ok (.astore 5, 2) := by decide +kernel
theorem dL_makeScaled_17 : decode cL_makeScaled 17 = .ok (.iconst 1, 1) := by decide +kernel
theorem dL_makeScaled_18 : decode cL_makeScaled 18 = .ok (.ireturn, 1) := by decide +kernel
theorem dL_makeScaled_19 : decode cL_makeScaled 19 = .ok (.astore 5, 2) := by decide +kernel
theorem dL_makeScaled_21 : decode cL_makeScaled 21 = .ok (.iconst 2, 1) := by decide +kernel
theorem dL_makeScaled_22 : decode cL_makeScaled 22 = .ok (.ireturn, 1) := by decide +kernel
theorem dL_makeScaled_23 : decode cL_makeScaled 23 = .ok (.astore 5, 2) := by decide +kernel
theorem dL_makeScaled_25 : decode cL_makeScaled 25 = .ok (.iconst 3, 1) := by decide +kernel
theorem dL_makeScaled_26 : decode cL_makeScaled 26 = .ok (.ireturn, 1) := by decide +kernel
theorem dL_makeScaled_27 : decode cL_makeScaled 27 = .ok (.iconst 0, 1) := by decide +kernel
theorem dL_makeScaled_28 : decode cL_makeScaled 28 = .ok (.ireturn, 1) := by decide +kernel
theorem dL_makeJoined_0 : decode cL_makeJoined 0 = .ok (.aload_n 3, 1) := by decide +kernel
theorem dL_makeJoined_1 : decode cL_makeJoined 1 = .ok (.iconst 0, 1) := by decide +kernel
theorem dL_makeJoined_2 : decode cL_makeJoined 2 = .ok (.aload_n 0, 1) := by decide +kernel
theorem dL_makeJoined_3 : decode cL_makeJoined 3 = .ok (.iload_n 1, 1) := by decide +kernel
theorem dL_makeJoined_4 : decode cL_makeJoined 4 = .ok (.iload_n 2, 1) := by decide +kernel
theorem dL_makeJoined_5 : decode cL_makeJoined 5 = .ok (.invokevirtual 31, 3) := by decide +kernel
theorem dL_makeJoined_8 : decode cL_makeJoined 8 = .ok (.i2l, 1) := by decide +kernel
theorem dL_makeJoined_9 : decode cL_makeJoined 9 = .ok (.lastore, 1) := by decide +kernel
theorem dL_makeJoined_10 : decode cL_makeJoined 10 = .ok (.goto 11, 3) := by decide +kernel
theorem dL_makeJoined_13 : decode cL_makeJoined 13 = .ok (.astore 4, 2) := by decide +kernel
theorem dL_makeJoined_15 : decode cL_makeJoined 15 = .ok (.iconst 1, 1) := by decide +kernel
theorem dL_makeJoined_16 : decode cL_makeJoined 16 = .ok (.ireturn, 1) := by decide +kernel
theorem dL_makeJoined_17 : decode cL_makeJoined 17 = .ok (.astore 4, 2) := by decide +kernel
theorem dL_makeJoined_19 : decode cL_makeJoined 19 = .ok (.iconst 2, 1) := by decide +kernel
theorem dL_makeJoined_20 : decode cL_makeJoined 20 = .ok (.ireturn, 1) := by decide +kernel
theorem dL_makeJoined_21 : decode cL_makeJoined 21 = .ok (.iconst 0, 1) := by decide +kernel
theorem dL_makeJoined_22 : decode cL_makeJoined 22 = .ok (.ireturn, 1) := by decide +kernel
theorem dL_makeShared_0 : decode cL_makeShared 0 = .ok (.aload_n 3, 1) := by decide +kernel
theorem dL_makeShared_1 : decode cL_makeShared 1 = .ok (.iconst 0, 1) := by decide +kernel
theorem dL_makeShared_2 : decode cL_makeShared 2 = .ok (.aload_n 0, 1) := by decide +kernel
theorem dL_makeShared_3 : decode cL_makeShared 3 = .ok (.iload_n 1, 1) := by decide +kernel
theorem dL_makeShared_4 : decode cL_makeShared 4 = .ok (.iload_n 2, 1) := by decide +kernel
theorem dL_makeShared_5 : decode cL_makeShared 5 = .ok (.invokevirtual 34, 3) := by decide +kernel
theorem dL_makeShared_8 : decode cL_makeShared 8 = .ok (.i2l, 1) := by decide +kernel
theorem dL_makeShared_9 : decode cL_makeShared 9 = .ok (.lastore, 1) := by decide +kernel
theorem dL_makeShared_10 : decode cL_makeShared 10 = .ok (.goto 11, 3) := by decide +kernel
theorem dL_makeShared_13 : decode cL_makeShared 13 = .ok (.astore 4, 2) := by decide +kernel
theorem dL_makeShared_15 : decode cL_makeShared 15 = .ok (.iconst 1, 1) := by decide +kernel
theorem dL_makeShared_16 : decode cL_makeShared 16 = .ok (.ireturn, 1) := by decide +kernel
theorem dL_makeShared_17 : decode cL_makeShared 17 = .ok (.astore 4, 2) := by decide +kernel
theorem dL_makeShared_19 : decode cL_makeShared 19 = .ok (.iconst 2, 1) := by decide +kernel
theorem dL_makeShared_20 : decode cL_makeShared 20 = .ok (.ireturn, 1) := by decide +kernel
theorem dL_makeShared_21 : decode cL_makeShared 21 = .ok (.iconst 0, 1) := by decide +kernel
theorem dL_makeShared_22 : decode cL_makeShared 22 = .ok (.ireturn, 1) := by decide +kernel
theorem dL_makeWithout_0 : decode cL_makeWithout 0 = .ok (.aload_n 3, 1) := by decide +kernel
theorem dL_makeWithout_1 : decode cL_makeWithout 1 = .ok (.iconst 0, 1) := by decide +kernel
theorem dL_makeWithout_2 : decode cL_makeWithout 2 = .ok (.aload_n 0, 1) := by decide +kernel
theorem dL_makeWithout_3 : decode cL_makeWithout 3 = .ok (.iload_n 1, 1) := by decide +kernel
theorem dL_makeWithout_4 : decode cL_makeWithout 4 = .ok (.iload_n 2, 1) := by decide +kernel
theorem dL_makeWithout_5 : decode cL_makeWithout 5 = .ok (.invokevirtual 37, 3) := by decide +kernel
theorem dL_makeWithout_8 : decode cL_makeWithout 8 = .ok (.i2l, 1) := by decide +kernel
theorem dL_makeWithout_9 : decode cL_makeWithout 9 = .ok (.lastore, 1) := by decide +kernel
theorem dL_makeWithout_10 : decode cL_makeWithout 10 = .ok (.goto 11, 3) := by decide +kernel
theorem dL_makeWithout_13 : decode cL_makeWithout 13 = .ok (.astore 4, 2) := by decide +kernel
theorem dL_makeWithout_15 : decode cL_makeWithout 15 = .ok (.iconst 1, 1) := by decide +kernel
theorem dL_makeWithout_16 : decode cL_makeWithout 16 = .ok (.ireturn, 1) := by decide +kernel
theorem dL_makeWithout_17 : decode cL_makeWithout 17 = .ok (.astore 4, 2) := by decide +kernel
theorem dL_makeWithout_19 : decode cL_makeWithout 19 = .ok (.iconst 2, 1) := by decide +kernel
theorem dL_makeWithout_20 : decode cL_makeWithout 20 = .ok (.ireturn, 1) := by decide +kernel
theorem dL_makeWithout_21 : decode cL_makeWithout 21 = .ok (.iconst 0, 1) := by decide +kernel
theorem dL_makeWithout_22 : decode cL_makeWithout 22 = .ok (.ireturn, 1) := by decide +kernel
theorem dL_makeSieved_0 : decode cL_makeSieved 0 = .ok (.aload_n 2, 1) := by decide +kernel
theorem dL_makeSieved_1 : decode cL_makeSieved 1 = .ok (.iconst 0, 1) := by decide +kernel
theorem dL_makeSieved_2 : decode cL_makeSieved 2 = .ok (.aload_n 0, 1) := by decide +kernel
theorem dL_makeSieved_3 : decode cL_makeSieved 3 = .ok (.iload_n 1, 1) := by decide +kernel
theorem dL_makeSieved_4 : decode cL_makeSieved 4 = .ok (.invokevirtual 40, 3) := by decide +kernel
theorem dL_makeSieved_7 : decode cL_makeSieved 7 = .ok (.i2l, 1) := by decide +kernel
theorem dL_makeSieved_8 : decode cL_makeSieved 8 = .ok (.lastore, 1) := by decide +kernel
theorem dL_makeSieved_9 : decode cL_makeSieved 9 = .ok (.goto 9, 3) := by decide +kernel
theorem dL_makeSieved_12 : decode cL_makeSieved 12 = .ok (.astore_n 3, 1) := by decide +kernel
theorem dL_makeSieved_13 : decode cL_makeSieved 13 = .ok (.iconst 1, 1) := by decide +kernel
theorem dL_makeSieved_14 : decode cL_makeSieved 14 = .ok (.ireturn, 1) := by decide +kernel
theorem dL_makeSieved_15 : decode cL_makeSieved 15 = .ok (.astore_n 3, 1) := by decide +kernel
theorem dL_makeSieved_16 : decode cL_makeSieved 16 = .ok (.iconst 2, 1) := by decide +kernel
theorem dL_makeSieved_17 : decode cL_makeSieved 17 = .ok (.ireturn, 1) := by decide +kernel
theorem dL_makeSieved_18 : decode cL_makeSieved 18 = .ok (.iconst 0, 1) := by decide +kernel
theorem dL_makeSieved_19 : decode cL_makeSieved 19 = .ok (.ireturn, 1) := by decide +kernel
theorem dL_makeThinned_0 : decode cL_makeThinned 0 = .ok (.aload_n 3, 1) := by decide +kernel
theorem dL_makeThinned_1 : decode cL_makeThinned 1 = .ok (.iconst 0, 1) := by decide +kernel
theorem dL_makeThinned_2 : decode cL_makeThinned 2 = .ok (.aload_n 0, 1) := by decide +kernel
theorem dL_makeThinned_3 : decode cL_makeThinned 3 = .ok (.iload_n 1, 1) := by decide +kernel
theorem dL_makeThinned_4 : decode cL_makeThinned 4 = .ok (.iload_n 2, 1) := by decide +kernel
theorem dL_makeThinned_5 : decode cL_makeThinned 5 = .ok (.invokevirtual 43, 3) := by decide +kernel
theorem dL_makeThinned_8 : decode cL_makeThinned 8 = .ok (.i2l, 1) := by decide +kernel
theorem dL_makeThinned_9 : decode cL_makeThinned 9 = .ok (.lastore, 1) := by decide +kernel
theorem dL_makeThinned_10 : decode cL_makeThinned 10 = .ok (.goto 15, 3) := by decide +kernel
theorem dL_makeThinned_13 : decode cL_makeThinned 13 = .ok (.astore 4, 2) := by decide +kernel
theorem dL_makeThinned_15 : decode cL_makeThinned 15 = .ok (.iconst 1, 1) := by decide +kernel
theorem dL_makeThinned_16 : decode cL_makeThinned 16 = .ok (.ireturn, 1) := by decide +kernel
theorem dL_makeThinned_17 : decode cL_makeThinned 17 = .ok (.astore 4, 2) := by decide +kernel
theorem dL_makeThinned_19 : decode cL_makeThinned 19 = .ok (.iconst 2, 1) := by decide +kernel
theorem dL_makeThinned_20 : decode cL_makeThinned 20 = .ok (.ireturn, 1) := by decide +kernel
theorem dL_makeThinned_21 : decode cL_makeThinned 21 = .ok (.astore 4, 2) := by decide +kernel
theorem dL_makeThinned_23 : decode cL_makeThinned 23 = .ok (.iconst 3, 1) := by decide +kernel
theorem dL_makeThinned_24 : decode cL_makeThinned 24 = .ok (.ireturn, 1) := by decide +kernel
theorem dL_makeThinned_25 : decode cL_makeThinned 25 = .ok (.iconst 0, 1) := by decide +kernel
theorem dL_makeThinned_26 : decode cL_makeThinned 26 = .ok (.ireturn, 1) := by decide +kernel
theorem dL_makeAddedUp_0 : decode cL_makeAddedUp 0 = .ok (.aload_n 2, 1) := by decide +kernel
theorem dL_makeAddedUp_1 : decode cL_makeAddedUp 1 = .ok (.iconst 0, 1) := by decide +kernel
theorem dL_makeAddedUp_2 : decode cL_makeAddedUp 2 = .ok (.aload_n 0, 1) := by decide +kernel
theorem dL_makeAddedUp_3 : decode cL_makeAddedUp 3 = .ok (.iload_n 1, 1) := by decide +kernel
theorem dL_makeAddedUp_4 : decode cL_makeAddedUp 4 = .ok (.invokevirtual 46, 3) := by decide +kernel
theorem dL_makeAddedUp_7 : decode cL_makeAddedUp 7 = .ok (.i2l, 1) := by decide +kernel
theorem dL_makeAddedUp_8 : decode cL_makeAddedUp 8 = .ok (.lastore, 1) := by decide +kernel
theorem dL_makeAddedUp_9 : decode cL_makeAddedUp 9 = .ok (.goto 9, 3) := by decide +kernel
theorem dL_makeAddedUp_12 : decode cL_makeAddedUp 12 = .ok (.astore_n 3, 1) := by decide +kernel
theorem dL_makeAddedUp_13 : decode cL_makeAddedUp 13 = .ok (.iconst 1, 1) := by decide +kernel
theorem dL_makeAddedUp_14 : decode cL_makeAddedUp 14 = .ok (.ireturn, 1) := by decide +kernel
theorem dL_makeAddedUp_15 : decode cL_makeAddedUp 15 = .ok (.astore_n 3, 1) := by decide +kernel
theorem dL_makeAddedUp_16 : decode cL_makeAddedUp 16 = .ok (.iconst 2, 1) := by decide +kernel
theorem dL_makeAddedUp_17 : decode cL_makeAddedUp 17 = .ok (.ireturn, 1) := by decide +kernel
theorem dL_makeAddedUp_18 : decode cL_makeAddedUp 18 = .ok (.iconst 0, 1) := by decide +kernel
theorem dL_makeAddedUp_19 : decode cL_makeAddedUp 19 = .ok (.ireturn, 1) := by decide +kernel
theorem dL_dropLast_0 : decode cL_dropLast 0 = .ok (.aload_n 1, 1) := by decide +kernel
theorem dL_dropLast_1 : decode cL_dropLast 1 = .ok (.iconst 0, 1) := by decide +kernel
theorem dL_dropLast_2 : decode cL_dropLast 2 = .ok (.aload_n 0, 1) := by decide +kernel
theorem dL_dropLast_3 : decode cL_dropLast 3 = .ok (.invokevirtual 49, 3) := by decide +kernel
theorem dL_dropLast_6 : decode cL_dropLast 6 = .ok (.i2l, 1) := by decide +kernel
theorem dL_dropLast_7 : decode cL_dropLast 7 = .ok (.lastore, 1) := by decide +kernel
theorem dL_dropLast_8 : decode cL_dropLast 8 = .ok (.goto 6, 3) := by decide +kernel
theorem dL_dropLast_11 : decode cL_dropLast 11 = .ok (.astore_n 2, 1) := by decide +kernel
theorem dL_dropLast_12 : decode cL_dropLast 12 = .ok (.iconst 1, 1) := by decide +kernel
theorem dL_dropLast_13 : decode cL_dropLast 13 = .ok (.ireturn, 1) := by decide +kernel
theorem dL_dropLast_14 : decode cL_dropLast 14 = .ok (.iconst 0, 1) := by decide +kernel
theorem dL_dropLast_15 : decode cL_dropLast 15 = .ok (.ireturn, 1) := by decide +kernel
theorem dL_beginReading_0 : decode cL_beginReading 0 = .ok (.aload_n 2, 1) := by decide +kernel
theorem dL_beginReading_1 : decode cL_beginReading 1 = .ok (.iconst 0, 1) := by decide +kernel
theorem dL_beginReading_2 : decode cL_beginReading 2 = .ok (.aload_n 0, 1) := by decide +kernel
theorem dL_beginReading_3 : decode cL_beginReading 3 = .ok (.iload_n 1, 1) := by decide +kernel
theorem dL_beginReading_4 : decode cL_beginReading 4 = .ok (.invokevirtual 52, 3) := by decide +kernel
theorem dL_beginReading_7 : decode cL_beginReading 7 = .ok (.i2l, 1) := by decide +kernel
theorem dL_beginReading_8 : decode cL_beginReading 8 = .ok (.lastore, 1) := by decide +kernel
theorem dL_beginReading_9 : decode cL_beginReading 9 = .ok (.goto 9, 3) := by decide +kernel
theorem dL_beginReading_12 : decode cL_beginReading 12 = .ok (.astore_n 3, 1) := by decide +kernel
theorem dL_beginReading_13 : decode cL_beginReading 13 = .ok (.iconst 1, 1) := by decide +kernel
theorem dL_beginReading_14 : decode cL_beginReading 14 = .ok (.ireturn, 1) := by decide +kernel
theorem dL_beginReading_15 : decode cL_beginReading 15 = .ok (.astore_n 3, 1) := by decide +kernel
theorem dL_beginReading_16 : decode cL_beginReading 16 = .ok (.iconst 2, 1) := by decide +kernel
theorem dL_beginReading_17 : decode cL_beginReading 17 = .ok (.ireturn, 1) := by decide +kernel
theorem dL_beginReading_18 : decode cL_beginReading 18 = .ok (.iconst 0, 1) := by decide +kernel
theorem dL_beginReading_19 : decode cL_beginReading 19 = .ok (.ireturn, 1) := by decide +kernel
theorem dL_read_0 : decode cL_read 0 = .ok (.aload_n 2, 1) := by decide +kernel
theorem dL_read_1 : decode cL_read 1 = .ok (.iconst 0, 1) := by decide +kernel
theorem dL_read_2 : decode cL_read 2 = .ok (.aload_n 0, 1) := by decide +kernel
theorem dL_read_3 : decode cL_read 3 = .ok (.iload_n 1, 1) := by decide +kernel
theorem dL_read_4 : decode cL_read 4 = .ok (.invokevirtual 55, 3) := by decide +kernel
theorem dL_read_7 : decode cL_read 7 = .ok (.i2l, 1) := by decide +kernel
theorem dL_read_8 : decode cL_read 8 = .ok (.lastore, 1) := by decide +kernel
theorem dL_read_9 : decode cL_read 9 = .ok (.goto 9, 3) := by decide +kernel
theorem dL_read_12 : decode cL_read 12 = .ok (.astore_n 3, 1) := by decide +kernel
theorem dL_read_13 : decode cL_read 13 = .ok (.iconst 1, 1) := by decide +kernel
theorem dL_read_14 : decode cL_read 14 = .ok (.ireturn, 1) := by decide +kernel
theorem dL_read_15 : decode cL_read 15 = .ok (.astore_n 3, 1) := by decide +kernel
theorem dL_read_16 : decode cL_read 16 = .ok (.iconst 2, 1) := by decide +kernel
theorem dL_read_17 : decode cL_read 17 = .ok (.ireturn, 1) := by decide +kernel
theorem dL_read_18 : decode cL_read 18 = .ok (.iconst 0, 1) := by decide +kernel
theorem dL_read_19 : decode cL_read 19 = .ok (.ireturn, 1) := by decide +kernel
theorem dL_skip_0 : decode cL_skip 0 = .ok (.aload_n 3, 1) := by decide +kernel
theorem dL_skip_1 : decode cL_skip 1 = .ok (.iconst 0, 1) := by decide +kernel
theorem dL_skip_2 : decode cL_skip 2 = .ok (.aload_n 0, 1) := by decide +kernel
theorem dL_skip_3 : decode cL_skip 3 = .ok (.iload_n 1, 1) := by decide +kernel
theorem dL_skip_4 : decode cL_skip 4 = .ok (.iload_n 2, 1) := by decide +kernel
theorem dL_skip_5 : decode cL_skip 5 = .ok (.invokevirtual 58, 3) := by decide +kernel
theorem dL_skip_8 : decode cL_skip 8 = .ok (.i2l, 1) := by decide +kernel
theorem dL_skip_9 : decode cL_skip 9 = .ok (.lastore, 1) := by decide +kernel
theorem dL_skip_10 : decode cL_skip 10 = .ok (.goto 11, 3) := by decide +kernel
theorem dL_skip_13 : decode cL_skip 13 = .ok (.astore 4, 2) := by decide +kernel
theorem dL_skip_15 : decode cL_skip 15 = .ok (.iconst 1, 1) := by decide +kernel
theorem dL_skip_16 : decode cL_skip 16 = .ok (.ireturn, 1) := by decide +kernel
theorem dL_skip_17 : decode cL_skip 17 = .ok (.astore 4, 2) := by decide +kernel
theorem dL_skip_19 : decode cL_skip 19 = .ok (.iconst 2, 1) := by decide +kernel
theorem dL_skip_20 : decode cL_skip 20 = .ok (.ireturn, 1) := by decide +kernel
theorem dL_skip_21 : decode cL_skip 21 = .ok (.iconst 0, 1) := by decide +kernel
theorem dL_skip_22 : decode cL_skip 22 = .ok (.ireturn, 1) := by decide +kernel
theorem dL_goBack_0 : decode cL_goBack 0 = .ok (.aload_n 2, 1) := by decide +kernel
theorem dL_goBack_1 : decode cL_goBack 1 = .ok (.iconst 0, 1) := by decide +kernel
theorem dL_goBack_2 : decode cL_goBack 2 = .ok (.aload_n 0, 1) := by decide +kernel
theorem dL_goBack_3 : decode cL_goBack 3 = .ok (.iload_n 1, 1) := by decide +kernel
theorem dL_goBack_4 : decode cL_goBack 4 = .ok (.invokevirtual 61, 3) := by decide +kernel
theorem dL_goBack_7 : decode cL_goBack 7 = .ok (.i2l, 1) := by decide +kernel
theorem dL_goBack_8 : decode cL_goBack 8 = .ok (.lastore, 1) := by decide +kernel
theorem dL_goBack_9 : decode cL_goBack 9 = .ok (.goto 6, 3) := by decide +kernel
theorem dL_goBack_12 : decode cL_goBack 12 = .ok (.astore_n 3, 1) := by decide +kernel
theorem dL_goBack_13 : decode cL_goBack 13 = .ok (.iconst 1, 1) := by decide +kernel
theorem dL_goBack_14 : decode cL_goBack 14 = .ok (.ireturn, 1) := by decide +kernel
theorem dL_goBack_15 : decode cL_goBack 15 = .ok (.iconst 0, 1) := by decide +kernel
theorem dL_goBack_16 : decode cL_goBack 16 = .ok (.ireturn, 1) := by decide +kernel
theorem dL_stopReading_0 : decode cL_stopReading 0 = .ok (.aload_n 2, 1) := by decide +kernel
theorem dL_stopReading_1 : decode cL_stopReading 1 = .ok (.iconst 0, 1) := by decide +kernel
theorem dL_stopReading_2 : decode cL_stopReading 2 = .ok (.aload_n 0, 1) := by decide +kernel
theorem dL_stopReading_3 : decode cL_stopReading 3 = .ok (.iload_n 1, 1) := by decide +kernel
theorem dL_stopReading_4 : decode cL_stopReading 4 = .ok (.invokevirtual 64, 3) := by decide +kernel
theorem dL_stopReading_7 : decode cL_stopReading 7 = .ok (.i2l, 1) := by decide +kernel
theorem dL_stopReading_8 : decode cL_stopReading 8 = .ok (.lastore, 1) := by decide +kernel
theorem dL_stopReading_9 : decode cL_stopReading 9 = .ok (.goto 6, 3) := by decide +kernel
theorem dL_stopReading_12 : decode cL_stopReading 12 = .ok (.astore_n 3, 1) := by decide +kernel
theorem dL_stopReading_13 : decode cL_stopReading 13 = .ok (.iconst 1, 1) := by decide +kernel
theorem dL_stopReading_14 : decode cL_stopReading 14 = .ok (.ireturn, 1) := by decide +kernel
theorem dL_stopReading_15 : decode cL_stopReading 15 = .ok (.iconst 0, 1) := by decide +kernel
theorem dL_stopReading_16 : decode cL_stopReading 16 = .ok (.ireturn, 1) := by decide +kernel
theorem dL_undo_0 : decode cL_undo 0 = .ok (.aload_n 1, 1) := by decide +kernel
theorem dL_undo_1 : decode cL_undo 1 = .ok (.iconst 0, 1) := by decide +kernel
theorem dL_undo_2 : decode cL_undo 2 = .ok (.aload_n 0, 1) := by decide +kernel
theorem dL_undo_3 : decode cL_undo 3 = .ok (.invokevirtual 67, 3) := by decide +kernel
theorem dL_undo_6 : decode cL_undo 6 = .ok (.i2l, 1) := by decide +kernel
theorem dL_undo_7 : decode cL_undo 7 = .ok (.lastore, 1) := by decide +kernel
theorem dL_undo_8 : decode cL_undo 8 = .ok (.goto 6, 3) := by decide +kernel
theorem dL_undo_11 : decode cL_undo 11 = .ok (.astore_n 2, 1) := by decide +kernel
theorem dL_undo_12 : decode cL_undo 12 = .ok (.iconst 1, 1) := by decide +kernel
theorem dL_undo_13 : decode cL_undo 13 = .ok (.ireturn, 1) := by decide +kernel
theorem dL_undo_14 : decode cL_undo 14 = .ok (.iconst 0, 1) := by decide +kernel
theorem dL_undo_15 : decode cL_undo 15 = .ok (.ireturn, 1) := by decide +kernel
theorem dL_isMember_0 : decode cL_isMember 0 = .ok (.aload_n 3, 1) := by decide +kernel
theorem dL_isMember_1 : decode cL_isMember 1 = .ok (.iconst 0, 1) := by decide +kernel
theorem dL_isMember_2 : decode cL_isMember 2 = .ok (.aload_n 0, 1) := by decide +kernel
theorem dL_isMember_3 : decode cL_isMember 3 = .ok (.iload_n 1, 1) := by decide +kernel
theorem dL_isMember_4 : decode cL_isMember 4 = .ok (.iload_n 2, 1) := by decide +kernel
theorem dL_isMember_5 : decode cL_isMember 5 = .ok (.invokevirtual 70, 3) := by decide +kernel
theorem dL_isMember_8 : decode cL_isMember 8 = .ok (.ifCond .eq 7, 3) := by decide +kernel
theorem dL_isMember_11 : decode cL_isMember 11 = .ok (.lconst 1, 1) := by decide +kernel
theorem dL_isMember_12 : decode cL_isMember 12 = .ok (.goto 4, 3) := by decide +kernel
theorem dL_isMember_15 : decode cL_isMember 15 = .ok (.lconst 0, 1) := by decide +kernel
theorem dL_isMember_16 : decode cL_isMember 16 = .ok (.lastore, 1) := by decide +kernel
theorem dL_isMember_17 : decode cL_isMember 17 = .ok (.goto 11, 3) := by decide +kernel
theorem dL_isMember_20 : decode cL_isMember 20 = .ok (.astore 4, 2) := by decide +kernel
theorem dL_isMember_22 : decode cL_isMember 22 = .ok (.iconst 1, 1) := by decide +kernel
theorem dL_isMember_23 : decode cL_isMember 23 = .ok (.ireturn, 1) := by decide +kernel
theorem dL_isMember_24 : decode cL_isMember 24 = .ok (.astore 4, 2) := by decide +kernel
theorem dL_isMember_26 : decode cL_isMember 26 = .ok (.iconst 2, 1) := by decide +kernel
theorem dL_isMember_27 : decode cL_isMember 27 = .ok (.ireturn, 1) := by decide +kernel
theorem dL_isMember_28 : decode cL_isMember 28 = .ok (.iconst 0, 1) := by decide +kernel
theorem dL_isMember_29 : decode cL_isMember 29 = .ok (.ireturn, 1) := by decide +kernel
theorem dL_memberByReading_0 : decode cL_memberByReading 0 = .ok (.aload_n 3, 1) := by decide +kernel
theorem dL_memberByReading_1 : decode cL_memberByReading 1 = .ok (.iconst 0, 1) := by decide +kernel
theorem dL_memberByReading_2 : decode cL_memberByReading 2 = .ok (.aload_n 0, 1) := by decide +kernel
theorem dL_memberByReading_3 : decode cL_memberByReading 3 = .ok (.iload_n 1, 1) := by decide +kernel
theorem dL_memberByReading_4 : decode cL_memberByReading 4 = .ok (.iload_n 2, 1) := by decide +kernel
theorem dL_memberByReading_5 : decode cL_memberByReading 5 = .ok (.invokevirtual 74, 3) := by decide +kernel
theorem dL_memberByReading_8 : decode cL_memberByReading 8 = .ok (.i2l, 1) := by decide +kernel
theorem dL_memberByReading_9 : decode cL_memberByReading 9 = .ok (.lastore, 1) := by decide +kernel
theorem dL_memberByReading_10 : decode cL_memberByReading 10 = .ok (.goto 7, 3) := by decide +kernel
theorem dL_memberByReading_13 : decode cL_memberByReading 13 = .ok (.astore 4, 2) := by decide +kernel
theorem dL_memberByReading_15 : decode cL_memberByReading 15 = .ok (.iconst 1, 1) := by decide +kernel
theorem dL_memberByReading_16 : decode cL_memberByReading 16 = .ok (.ireturn, 1) := by decide +kernel
theorem dL_memberByReading_17 : decode cL_memberByReading 17 = .ok (.iconst 0, 1) := by decide +kernel
theorem dL_memberByReading_18 : decode cL_memberByReading 18 = .ok (.ireturn, 1) := by decide +kernel
theorem dL_memberByTesting_0 : decode cL_memberByTesting 0 = .ok (.aload_n 3, 1) := by decide +kernel
theorem dL_memberByTesting_1 : decode cL_memberByTesting 1 = .ok (.iconst 0, 1) := by decide +kernel
theorem dL_memberByTesting_2 : decode cL_memberByTesting 2 = .ok (.aload_n 0, 1) := by decide +kernel
theorem dL_memberByTesting_3 : decode cL_memberByTesting 3 = .ok (.iload_n 1, 1) := by decide +kernel
theorem dL_memberByTesting_4 : decode cL_memberByTesting 4 = .ok (.iload_n 2, 1) := by decide +kernel
theorem dL_memberByTesting_5 : decode cL_memberByTesting 5 = .ok (.invokevirtual 77, 3) := by decide +kernel
theorem dL_memberByTesting_8 : decode cL_memberByTesting 8 = .ok (.i2l, 1) := by decide +kernel
theorem dL_memberByTesting_9 : decode cL_memberByTesting 9 = .ok (.lastore, 1) := by decide +kernel
theorem dL_memberByTesting_10 : decode cL_memberByTesting 10 = .ok (.goto 7, 3) := by decide +kernel
theorem dL_memberByTesting_13 : decode cL_memberByTesting 13 = .ok (.astore 4, 2) := by decide +kernel
theorem dL_memberByTesting_15 : decode cL_memberByTesting 15 = .ok (.iconst 1, 1) := by decide +kernel
theorem dL_memberByTesting_16 : decode cL_memberByTesting 16 = .ok (.ireturn, 1) := by decide +kernel
theorem dL_memberByTesting_17 : decode cL_memberByTesting 17 = .ok (.iconst 0, 1) := by decide +kernel
theorem dL_memberByTesting_18 : decode cL_memberByTesting 18 = .ok (.ireturn, 1) := by decide +kernel
theorem dL_placeOf_0 : decode cL_placeOf 0 = .ok (.aload_n 3, 1) := by decide +kernel
theorem dL_placeOf_1 : decode cL_placeOf 1 = .ok (.iconst 0, 1) := by decide +kernel
theorem dL_placeOf_2 : decode cL_placeOf 2 = .ok (.aload_n 0, 1) := by decide +kernel
theorem dL_placeOf_3 : decode cL_placeOf 3 = .ok (.iload_n 1, 1) := by decide +kernel
theorem dL_placeOf_4 : decode cL_placeOf 4 = .ok (.iload_n 2, 1) := by decide +kernel
theorem dL_placeOf_5 : decode cL_placeOf 5 = .ok (.invokevirtual 80, 3) := by decide +kernel
theorem dL_placeOf_8 : decode cL_placeOf 8 = .ok (.i2l, 1) := by decide +kernel
theorem dL_placeOf_9 : decode cL_placeOf 9 = .ok (.lastore, 1) := by decide +kernel
theorem dL_placeOf_10 : decode cL_placeOf 10 = .ok (.goto 11, 3) := by decide +kernel
theorem dL_placeOf_13 : decode cL_placeOf 13 = .ok (.astore 4, 2) := by decide +kernel
theorem dL_placeOf_15 : decode cL_placeOf 15 = .ok (.iconst 1, 1) := by decide +kernel
theorem dL_placeOf_16 : decode cL_placeOf 16 = .ok (.ireturn, 1) := by decide +kernel
theorem dL_placeOf_17 : decode cL_placeOf 17 = .ok (.astore 4, 2) := by decide +kernel
theorem dL_placeOf_19 : decode cL_placeOf 19 = .ok (.iconst 2, 1) := by decide +kernel
theorem dL_placeOf_20 : decode cL_placeOf 20 = .ok (.ireturn, 1) := by decide +kernel
theorem dL_placeOf_21 : decode cL_placeOf 21 = .ok (.iconst 0, 1) := by decide +kernel
theorem dL_placeOf_22 : decode cL_placeOf 22 = .ok (.ireturn, 1) := by decide +kernel
theorem dL_membersUpTo_0 : decode cL_membersUpTo 0 = .ok (.aload_n 3, 1) := by decide +kernel
theorem dL_membersUpTo_1 : decode cL_membersUpTo 1 = .ok (.iconst 0, 1) := by decide +kernel
theorem dL_membersUpTo_2 : decode cL_membersUpTo 2 = .ok (.aload_n 0, 1) := by decide +kernel
theorem dL_membersUpTo_3 : decode cL_membersUpTo 3 = .ok (.iload_n 1, 1) := by decide +kernel
theorem dL_membersUpTo_4 : decode cL_membersUpTo 4 = .ok (.iload_n 2, 1) := by decide +kernel
theorem dL_membersUpTo_5 : decode cL_membersUpTo 5 = .ok (.invokevirtual 83, 3) := by decide +kernel
theorem dL_membersUpTo_8 : decode cL_membersUpTo 8 = .ok (.i2l, 1) := by decide +kernel
theorem dL_membersUpTo_9 : decode cL_membersUpTo 9 = .ok (.lastore, 1) := by decide +kernel
theorem dL_membersUpTo_10 : decode cL_membersUpTo 10 = .ok (.goto 11, 3) := by decide +kernel
theorem dL_membersUpTo_13 : decode cL_membersUpTo 13 = .ok (.astore 4, 2) := by decide +kernel
theorem dL_membersUpTo_15 : decode cL_membersUpTo 15 = .ok (.iconst 1, 1) := by decide +kernel
theorem dL_membersUpTo_16 : decode cL_membersUpTo 16 = .ok (.ireturn, 1) := by decide +kernel
theorem dL_membersUpTo_17 : decode cL_membersUpTo 17 = .ok (.astore 4, 2) := by decide +kernel
theorem dL_membersUpTo_19 : decode cL_membersUpTo 19 = .ok (.iconst 2, 1) := by decide +kernel
theorem dL_membersUpTo_20 : decode cL_membersUpTo 20 = .ok (.ireturn, 1) := by decide +kernel
theorem dL_membersUpTo_21 : decode cL_membersUpTo 21 = .ok (.iconst 0, 1) := by decide +kernel
theorem dL_membersUpTo_22 : decode cL_membersUpTo 22 = .ok (.ireturn, 1) := by decide +kernel
theorem dL_lastMember_0 : decode cL_lastMember 0 = .ok (.aload_n 2, 1) := by decide +kernel
theorem dL_lastMember_1 : decode cL_lastMember 1 = .ok (.iconst 0, 1) := by decide +kernel
theorem dL_lastMember_2 : decode cL_lastMember 2 = .ok (.aload_n 0, 1) := by decide +kernel
theorem dL_lastMember_3 : decode cL_lastMember 3 = .ok (.iload_n 1, 1) := by decide +kernel
theorem dL_lastMember_4 : decode cL_lastMember 4 = .ok (.invokevirtual 86, 3) := by decide +kernel
theorem dL_lastMember_7 : decode cL_lastMember 7 = .ok (.i2l, 1) := by decide +kernel
theorem dL_lastMember_8 : decode cL_lastMember 8 = .ok (.lastore, 1) := by decide +kernel
theorem dL_lastMember_9 : decode cL_lastMember 9 = .ok (.goto 6, 3) := by decide +kernel
theorem dL_lastMember_12 : decode cL_lastMember 12 = .ok (.astore_n 3, 1) := by decide +kernel
theorem dL_lastMember_13 : decode cL_lastMember 13 = .ok (.iconst 1, 1) := by decide +kernel
theorem dL_lastMember_14 : decode cL_lastMember 14 = .ok (.ireturn, 1) := by decide +kernel
theorem dL_lastMember_15 : decode cL_lastMember 15 = .ok (.iconst 0, 1) := by decide +kernel
theorem dL_lastMember_16 : decode cL_lastMember 16 = .ok (.ireturn, 1) := by decide +kernel
theorem dL_firstShared_0 : decode cL_firstShared 0 = .ok (.aload_n 3, 1) := by decide +kernel
theorem dL_firstShared_1 : decode cL_firstShared 1 = .ok (.iconst 0, 1) := by decide +kernel
theorem dL_firstShared_2 : decode cL_firstShared 2 = .ok (.aload_n 0, 1) := by decide +kernel
theorem dL_firstShared_3 : decode cL_firstShared 3 = .ok (.iload_n 1, 1) := by decide +kernel
theorem dL_firstShared_4 : decode cL_firstShared 4 = .ok (.iload_n 2, 1) := by decide +kernel
theorem dL_firstShared_5 : decode cL_firstShared 5 = .ok (.invokevirtual 89, 3) := by decide +kernel
theorem dL_firstShared_8 : decode cL_firstShared 8 = .ok (.i2l, 1) := by decide +kernel
theorem dL_firstShared_9 : decode cL_firstShared 9 = .ok (.lastore, 1) := by decide +kernel
theorem dL_firstShared_10 : decode cL_firstShared 10 = .ok (.goto 7, 3) := by decide +kernel
theorem dL_firstShared_13 : decode cL_firstShared 13 = .ok (.astore 4, 2) := by decide +kernel
theorem dL_firstShared_15 : decode cL_firstShared 15 = .ok (.iconst 1, 1) := by decide +kernel
theorem dL_firstShared_16 : decode cL_firstShared 16 = .ok (.ireturn, 1) := by decide +kernel
theorem dL_firstShared_17 : decode cL_firstShared 17 = .ok (.iconst 0, 1) := by decide +kernel
theorem dL_firstShared_18 : decode cL_firstShared 18 = .ok (.ireturn, 1) := by decide +kernel
theorem dL_widestGap_0 : decode cL_widestGap 0 = .ok (.aload_n 2, 1) := by decide +kernel
theorem dL_widestGap_1 : decode cL_widestGap 1 = .ok (.iconst 0, 1) := by decide +kernel
theorem dL_widestGap_2 : decode cL_widestGap 2 = .ok (.aload_n 0, 1) := by decide +kernel
theorem dL_widestGap_3 : decode cL_widestGap 3 = .ok (.iload_n 1, 1) := by decide +kernel
theorem dL_widestGap_4 : decode cL_widestGap 4 = .ok (.invokevirtual 92, 3) := by decide +kernel
theorem dL_widestGap_7 : decode cL_widestGap 7 = .ok (.i2l, 1) := by decide +kernel
theorem dL_widestGap_8 : decode cL_widestGap 8 = .ok (.lastore, 1) := by decide +kernel
theorem dL_widestGap_9 : decode cL_widestGap 9 = .ok (.goto 6, 3) := by decide +kernel
theorem dL_widestGap_12 : decode cL_widestGap 12 = .ok (.astore_n 3, 1) := by decide +kernel
theorem dL_widestGap_13 : decode cL_widestGap 13 = .ok (.iconst 1, 1) := by decide +kernel
theorem dL_widestGap_14 : decode cL_widestGap 14 = .ok (.ireturn, 1) := by decide +kernel
theorem dL_widestGap_15 : decode cL_widestGap 15 = .ok (.iconst 0, 1) := by decide +kernel
theorem dL_widestGap_16 : decode cL_widestGap 16 = .ok (.ireturn, 1) := by decide +kernel
theorem dL_listOf_0 : decode cL_listOf 0 = .ok (.aload_n 2, 1) := by decide +kernel
theorem dL_listOf_1 : decode cL_listOf 1 = .ok (.iconst 0, 1) := by decide +kernel
theorem dL_listOf_2 : decode cL_listOf 2 = .ok (.aload_n 0, 1) := by decide +kernel
theorem dL_listOf_3 : decode cL_listOf 3 = .ok (.iload_n 1, 1) := by decide +kernel
theorem dL_listOf_4 : decode cL_listOf 4 = .ok (.invokevirtual 95, 3) := by decide +kernel
theorem dL_listOf_7 : decode cL_listOf 7 = .ok (.i2l, 1) := by decide +kernel
theorem dL_listOf_8 : decode cL_listOf 8 = .ok (.lastore, 1) := by decide +kernel
theorem dL_listOf_9 : decode cL_listOf 9 = .ok (.goto 6, 3) := by decide +kernel
theorem dL_listOf_12 : decode cL_listOf 12 = .ok (.astore_n 3, 1) := by decide +kernel
theorem dL_listOf_13 : decode cL_listOf 13 = .ok (.iconst 1, 1) := by decide +kernel
theorem dL_listOf_14 : decode cL_listOf 14 = .ok (.ireturn, 1) := by decide +kernel
theorem dL_listOf_15 : decode cL_listOf 15 = .ok (.iconst 0, 1) := by decide +kernel
theorem dL_listOf_16 : decode cL_listOf 16 = .ok (.ireturn, 1) := by decide +kernel
theorem dL_readSoFar_0 : decode cL_readSoFar 0 = .ok (.aload_n 2, 1) := by decide +kernel
theorem dL_readSoFar_1 : decode cL_readSoFar 1 = .ok (.iconst 0, 1) := by decide +kernel
theorem dL_readSoFar_2 : decode cL_readSoFar 2 = .ok (.aload_n 0, 1) := by decide +kernel
theorem dL_readSoFar_3 : decode cL_readSoFar 3 = .ok (.iload_n 1, 1) := by decide +kernel
theorem dL_readSoFar_4 : decode cL_readSoFar 4 = .ok (.invokevirtual 98, 3) := by decide +kernel
theorem dL_readSoFar_7 : decode cL_readSoFar 7 = .ok (.i2l, 1) := by decide +kernel
theorem dL_readSoFar_8 : decode cL_readSoFar 8 = .ok (.lastore, 1) := by decide +kernel
theorem dL_readSoFar_9 : decode cL_readSoFar 9 = .ok (.goto 6, 3) := by decide +kernel
theorem dL_readSoFar_12 : decode cL_readSoFar 12 = .ok (.astore_n 3, 1) := by decide +kernel
theorem dL_readSoFar_13 : decode cL_readSoFar 13 = .ok (.iconst 1, 1) := by decide +kernel
theorem dL_readSoFar_14 : decode cL_readSoFar 14 = .ok (.ireturn, 1) := by decide +kernel
theorem dL_readSoFar_15 : decode cL_readSoFar 15 = .ok (.iconst 0, 1) := by decide +kernel
theorem dL_readSoFar_16 : decode cL_readSoFar 16 = .ok (.ireturn, 1) := by decide +kernel
theorem dL_nextOf_0 : decode cL_nextOf 0 = .ok (.aload_n 2, 1) := by decide +kernel
theorem dL_nextOf_1 : decode cL_nextOf 1 = .ok (.iconst 0, 1) := by decide +kernel
theorem dL_nextOf_2 : decode cL_nextOf 2 = .ok (.aload_n 0, 1) := by decide +kernel
theorem dL_nextOf_3 : decode cL_nextOf 3 = .ok (.iload_n 1, 1) := by decide +kernel
theorem dL_nextOf_4 : decode cL_nextOf 4 = .ok (.invokevirtual 101, 3) := by decide +kernel
theorem dL_nextOf_7 : decode cL_nextOf 7 = .ok (.i2l, 1) := by decide +kernel
theorem dL_nextOf_8 : decode cL_nextOf 8 = .ok (.lastore, 1) := by decide +kernel
theorem dL_nextOf_9 : decode cL_nextOf 9 = .ok (.goto 6, 3) := by decide +kernel
theorem dL_nextOf_12 : decode cL_nextOf 12 = .ok (.astore_n 3, 1) := by decide +kernel
theorem dL_nextOf_13 : decode cL_nextOf 13 = .ok (.iconst 1, 1) := by decide +kernel
theorem dL_nextOf_14 : decode cL_nextOf 14 = .ok (.ireturn, 1) := by decide +kernel
theorem dL_nextOf_15 : decode cL_nextOf 15 = .ok (.iconst 0, 1) := by decide +kernel
theorem dL_nextOf_16 : decode cL_nextOf 16 = .ok (.ireturn, 1) := by decide +kernel
theorem dL_firstOfPairByWalking_0 : decode cL_firstOfPairByWalking 0 = .ok (.aload_n 2, 1) := by decide +kernel
theorem dL_firstOfPairByWalking_1 : decode cL_firstOfPairByWalking 1 = .ok (.iconst 0, 1) := by decide +kernel
theorem dL_firstOfPairByWalking_2 : decode cL_firstOfPairByWalking 2 = .ok (.aload_n 0, 1) := by decide +kernel
theorem dL_firstOfPairByWalking_3 : decode cL_firstOfPairByWalking 3 = .ok (.iload_n 1, 1) := by decide +kernel
theorem dL_firstOfPairByWalking_4 : decode cL_firstOfPairByWalking 4 = .ok (.invokevirtual 104, 3) := by decide +kernel
theorem dL_firstOfPairByWalking_7 : decode cL_firstOfPairByWalking 7 = .ok (.i2l, 1) := by decide +kernel
theorem dL_firstOfPairByWalking_8 : decode cL_firstOfPairByWalking 8 = .ok (.lastore, 1) := by decide +kernel
theorem dL_firstOfPairByWalking_9 : decode cL_firstOfPairByWalking 9 = .ok (.goto 6, 3) := by decide +kernel
theorem dL_firstOfPairByWalking_12 : decode cL_firstOfPairByWalking 12 = .ok (.astore_n 3, 1) := by decide +kernel
theorem dL_firstOfPairByWalking_13 : decode cL_firstOfPairByWalking 13 = .ok (.iconst 1, 1) := by decide +kernel
theorem dL_firstOfPairByWalking_14 : decode cL_firstOfPairByWalking 14 = .ok (.ireturn, 1) := by decide +kernel
theorem dL_firstOfPairByWalking_15 : decode cL_firstOfPairByWalking 15 = .ok (.iconst 0, 1) := by decide +kernel
theorem dL_firstOfPairByWalking_16 : decode cL_firstOfPairByWalking 16 = .ok (.ireturn, 1) := by decide +kernel
theorem dL_firstOfPairByCounting_0 : decode cL_firstOfPairByCounting 0 = .ok (.aload_n 2, 1) := by decide +kernel
theorem dL_firstOfPairByCounting_1 : decode cL_firstOfPairByCounting 1 = .ok (.iconst 0, 1) := by decide +kernel
theorem dL_firstOfPairByCounting_2 : decode cL_firstOfPairByCounting 2 = .ok (.aload_n 0, 1) := by decide +kernel
theorem dL_firstOfPairByCounting_3 : decode cL_firstOfPairByCounting 3 = .ok (.iload_n 1, 1) := by decide +kernel
theorem dL_firstOfPairByCounting_4 : decode cL_firstOfPairByCounting 4 = .ok (.invokevirtual 107, 3) := by decide +kernel
theorem dL_firstOfPairByCounting_7 : decode cL_firstOfPairByCounting 7 = .ok (.i2l, 1) := by decide +kernel
theorem dL_firstOfPairByCounting_8 : decode cL_firstOfPairByCounting 8 = .ok (.lastore, 1) := by decide +kernel
theorem dL_firstOfPairByCounting_9 : decode cL_firstOfPairByCounting 9 = .ok (.goto 6, 3) := by decide +kernel
theorem dL_firstOfPairByCounting_12 : decode cL_firstOfPairByCounting 12 = .ok (.astore_n 3, 1) := by decide +kernel
theorem dL_firstOfPairByCounting_13 : decode cL_firstOfPairByCounting 13 = .ok (.iconst 1, 1) := by decide +kernel
theorem dL_firstOfPairByCounting_14 : decode cL_firstOfPairByCounting 14 = .ok (.ireturn, 1) := by decide +kernel
theorem dL_firstOfPairByCounting_15 : decode cL_firstOfPairByCounting 15 = .ok (.iconst 0, 1) := by decide +kernel
theorem dL_firstOfPairByCounting_16 : decode cL_firstOfPairByCounting 16 = .ok (.ireturn, 1) := by decide +kernel
theorem dL_numberOfPair_0 : decode cL_numberOfPair 0 = .ok (.aload_n 3, 1) := by decide +kernel
theorem dL_numberOfPair_1 : decode cL_numberOfPair 1 = .ok (.iconst 0, 1) := by decide +kernel
theorem dL_numberOfPair_2 : decode cL_numberOfPair 2 = .ok (.aload_n 0, 1) := by decide +kernel
theorem dL_numberOfPair_3 : decode cL_numberOfPair 3 = .ok (.iload_n 1, 1) := by decide +kernel
theorem dL_numberOfPair_4 : decode cL_numberOfPair 4 = .ok (.iload_n 2, 1) := by decide +kernel
theorem dL_numberOfPair_5 : decode cL_numberOfPair 5 = .ok (.invokevirtual 110, 3) := by decide +kernel
theorem dL_numberOfPair_8 : decode cL_numberOfPair 8 = .ok (.i2l, 1) := by decide +kernel
theorem dL_numberOfPair_9 : decode cL_numberOfPair 9 = .ok (.lastore, 1) := by decide +kernel
theorem dL_numberOfPair_10 : decode cL_numberOfPair 10 = .ok (.goto 7, 3) := by decide +kernel
theorem dL_numberOfPair_13 : decode cL_numberOfPair 13 = .ok (.astore 4, 2) := by decide +kernel
theorem dL_numberOfPair_15 : decode cL_numberOfPair 15 = .ok (.iconst 1, 1) := by decide +kernel
theorem dL_numberOfPair_16 : decode cL_numberOfPair 16 = .ok (.ireturn, 1) := by decide +kernel
theorem dL_numberOfPair_17 : decode cL_numberOfPair 17 = .ok (.iconst 0, 1) := by decide +kernel
theorem dL_numberOfPair_18 : decode cL_numberOfPair 18 = .ok (.ireturn, 1) := by decide +kernel
theorem dL_membersIfJoined_0 : decode cL_membersIfJoined 0 = .ok (.aload_n 3, 1) := by decide +kernel
theorem dL_membersIfJoined_1 : decode cL_membersIfJoined 1 = .ok (.iconst 0, 1) := by decide +kernel
theorem dL_membersIfJoined_2 : decode cL_membersIfJoined 2 = .ok (.aload_n 0, 1) := by decide +kernel
theorem dL_membersIfJoined_3 : decode cL_membersIfJoined 3 = .ok (.iload_n 1, 1) := by decide +kernel
theorem dL_membersIfJoined_4 : decode cL_membersIfJoined 4 = .ok (.iload_n 2, 1) := by decide +kernel
theorem dL_membersIfJoined_5 : decode cL_membersIfJoined 5 = .ok (.invokevirtual 113, 3) := by decide +kernel
theorem dL_membersIfJoined_8 : decode cL_membersIfJoined 8 = .ok (.i2l, 1) := by decide +kernel
theorem dL_membersIfJoined_9 : decode cL_membersIfJoined 9 = .ok (.lastore, 1) := by decide +kernel
theorem dL_membersIfJoined_10 : decode cL_membersIfJoined 10 = .ok (.goto 7, 3) := by decide +kernel
theorem dL_membersIfJoined_13 : decode cL_membersIfJoined 13 = .ok (.astore 4, 2) := by decide +kernel
theorem dL_membersIfJoined_15 : decode cL_membersIfJoined 15 = .ok (.iconst 1, 1) := by decide +kernel
theorem dL_membersIfJoined_16 : decode cL_membersIfJoined 16 = .ok (.ireturn, 1) := by decide +kernel
theorem dL_membersIfJoined_17 : decode cL_membersIfJoined 17 = .ok (.iconst 0, 1) := by decide +kernel
theorem dL_membersIfJoined_18 : decode cL_membersIfJoined 18 = .ok (.ireturn, 1) := by decide +kernel
theorem dL_skipsTo_0 : decode cL_skipsTo 0 = .ok (.aload_n 3, 1) := by decide +kernel
theorem dL_skipsTo_1 : decode cL_skipsTo 1 = .ok (.iconst 0, 1) := by decide +kernel
theorem dL_skipsTo_2 : decode cL_skipsTo 2 = .ok (.aload_n 0, 1) := by decide +kernel
theorem dL_skipsTo_3 : decode cL_skipsTo 3 = .ok (.iload_n 1, 1) := by decide +kernel
theorem dL_skipsTo_4 : decode cL_skipsTo 4 = .ok (.iload_n 2, 1) := by decide +kernel
theorem dL_skipsTo_5 : decode cL_skipsTo 5 = .ok (.invokevirtual 116, 3) := by decide +kernel
theorem dL_skipsTo_8 : decode cL_skipsTo 8 = .ok (.i2l, 1) := by decide +kernel
theorem dL_skipsTo_9 : decode cL_skipsTo 9 = .ok (.lastore, 1) := by decide +kernel
theorem dL_skipsTo_10 : decode cL_skipsTo 10 = .ok (.goto 11, 3) := by decide +kernel
theorem dL_skipsTo_13 : decode cL_skipsTo 13 = .ok (.astore 4, 2) := by decide +kernel
theorem dL_skipsTo_15 : decode cL_skipsTo 15 = .ok (.iconst 1, 1) := by decide +kernel
theorem dL_skipsTo_16 : decode cL_skipsTo 16 = .ok (.ireturn, 1) := by decide +kernel
theorem dL_skipsTo_17 : decode cL_skipsTo 17 = .ok (.astore 4, 2) := by decide +kernel
theorem dL_skipsTo_19 : decode cL_skipsTo 19 = .ok (.iconst 2, 1) := by decide +kernel
theorem dL_skipsTo_20 : decode cL_skipsTo 20 = .ok (.ireturn, 1) := by decide +kernel
theorem dL_skipsTo_21 : decode cL_skipsTo 21 = .ok (.iconst 0, 1) := by decide +kernel
theorem dL_skipsTo_22 : decode cL_skipsTo 22 = .ok (.ireturn, 1) := by decide +kernel
theorem dL_simulate_0 : decode cL_simulate 0 = .ok (.aload 4, 2) := by decide +kernel
theorem dL_simulate_2 : decode cL_simulate 2 = .ok (.iconst 0, 1) := by decide +kernel
theorem dL_simulate_3 : decode cL_simulate 3 = .ok (.aload_n 0, 1) := by decide +kernel
theorem dL_simulate_4 : decode cL_simulate 4 = .ok (.lload_n 1, 1) := by decide +kernel
theorem dL_simulate_5 : decode cL_simulate 5 = .ok (.iload_n 3, 1) := by decide +kernel
theorem dL_simulate_6 : decode cL_simulate 6 = .ok (.invokevirtual 119, 3) := by decide +kernel
theorem dL_simulate_9 : decode cL_simulate 9 = .ok (.i2l, 1) := by decide +kernel
theorem dL_simulate_10 : decode cL_simulate 10 = .ok (.lastore, 1) := by decide +kernel
theorem dL_simulate_11 : decode cL_simulate 11 = .ok (.goto 7, 3) := by decide +kernel
theorem dL_simulate_14 : decode cL_simulate 14 = .ok (.astore 5, 2) := by decide +kernel
theorem dL_simulate_16 : decode cL_simulate 16 = .ok (.iconst 1, 1) := by decide +kernel
theorem dL_simulate_17 : decode cL_simulate 17 = .ok (.ireturn, 1) := by decide +kernel
theorem dL_simulate_18 : decode cL_simulate 18 = .ok (.iconst 0, 1) := by decide +kernel
theorem dL_simulate_19 : decode cL_simulate 19 = .ok (.ireturn, 1) := by decide +kernel
theorem dL_save_0 : decode cL_save 0 = .ok (.aload_n 2, 1) := by decide +kernel
theorem dL_save_1 : decode cL_save 1 = .ok (.iconst 0, 1) := by decide +kernel
theorem dL_save_2 : decode cL_save 2 = .ok (.aload_n 0, 1) := by decide +kernel
theorem dL_save_3 : decode cL_save 3 = .ok (.iload_n 1, 1) := by decide +kernel
theorem dL_save_4 : decode cL_save 4 = .ok (.invokevirtual 123, 3) := by decide +kernel
theorem dL_save_7 : decode cL_save 7 = .ok (.i2l, 1) := by decide +kernel
theorem dL_save_8 : decode cL_save 8 = .ok (.lastore, 1) := by decide +kernel
theorem dL_save_9 : decode cL_save 9 = .ok (.goto 6, 3) := by decide +kernel
theorem dL_save_12 : decode cL_save 12 = .ok (.astore_n 3, 1) := by decide +kernel
theorem dL_save_13 : decode cL_save 13 = .ok (.iconst 1, 1) := by decide +kernel
theorem dL_save_14 : decode cL_save 14 = .ok (.ireturn, 1) := by decide +kernel
theorem dL_save_15 : decode cL_save 15 = .ok (.iconst 0, 1) := by decide +kernel
theorem dL_save_16 : decode cL_save 16 = .ok (.ireturn, 1) := by decide +kernel
theorem dL_restore_0 : decode cL_restore 0 = .ok (.aload_n 2, 1) := by decide +kernel
theorem dL_restore_1 : decode cL_restore 1 = .ok (.iconst 0, 1) := by decide +kernel
theorem dL_restore_2 : decode cL_restore 2 = .ok (.aload_n 0, 1) := by decide +kernel
theorem dL_restore_3 : decode cL_restore 3 = .ok (.iload_n 1, 1) := by decide +kernel
theorem dL_restore_4 : decode cL_restore 4 = .ok (.invokevirtual 126, 3) := by decide +kernel
theorem dL_restore_7 : decode cL_restore 7 = .ok (.i2l, 1) := by decide +kernel
theorem dL_restore_8 : decode cL_restore 8 = .ok (.lastore, 1) := by decide +kernel
theorem dL_restore_9 : decode cL_restore 9 = .ok (.goto 9, 3) := by decide +kernel
theorem dL_restore_12 : decode cL_restore 12 = .ok (.astore_n 3, 1) := by decide +kernel
theorem dL_restore_13 : decode cL_restore 13 = .ok (.iconst 1, 1) := by decide +kernel
theorem dL_restore_14 : decode cL_restore 14 = .ok (.ireturn, 1) := by decide +kernel
theorem dL_restore_15 : decode cL_restore 15 = .ok (.astore_n 3, 1) := by decide +kernel
theorem dL_restore_16 : decode cL_restore 16 = .ok (.iconst 2, 1) := by decide +kernel
theorem dL_restore_17 : decode cL_restore 17 = .ok (.ireturn, 1) := by decide +kernel
theorem dL_restore_18 : decode cL_restore 18 = .ok (.iconst 0, 1) := by decide +kernel
theorem dL_restore_19 : decode cL_restore 19 = .ok (.ireturn, 1) := by decide +kernel
