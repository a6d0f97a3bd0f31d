theorem dL_addNoise_0 : decode cL_addNoise 0 = .ok (.aload 4, 2) := by decide +kernel
theorem dL_addNoise_2 : decode cL_addNoise 2 = .ok (.iconst 0, 1) := by decide +kernel
theorem dL_addNoise_3 : decode cL_addNoise 3 = .ok (.aload_n 0, 1) := by decide +kernel
theorem dL_addNoise_4 : decode cL_addNoise 4 = .ok (.iload_n 1, 1) := by decide +kernel
theorem dL_addNoise_5 : decode cL_addNoise 5 = .ok (.iload_n 2, 1) := by decide +kernel
theorem dL_addNoise_6 : decode cL_addNoise 6 = .ok (.iload_n 3, 1) := by decide +kernel
theorem dL_addNoise_7 : decode cL_addNoise 7 = .ok (.invokevirtual 7, 3) := by decide +kernel
theorem dL_addNoise_10 : decode cL_addNoise 10 = .ok (.i2l, 1) := by decide +kernel
theorem dL_addNoise_11 : decode cL_addNoise 11 = .ok (.lastore, 1) := by decide +kernel
theorem dL_addNoise_12 : decode cL_addNoise 12 = .ok (.goto 11, 3) := by decide +kernel
theorem dL_addNoise_15 : decode cL_addNoise 15 = .ok (.astore 5, 2) := by decide +kernel
theorem dL_addNoise_17 : decode cL_addNoise 17 = .ok (.iconst 1, 1) := by decide +kernel
theorem dL_addNoise_18 : decode cL_addNoise 18 = .ok (.ireturn, 1) := by decide +kernel
theorem dL_addNoise_19 : decode cL_addNoise 19 = .ok (.astore 5, 2) := by decide +kernel
theorem dL_addNoise_21 : decode cL_addNoise 21 = .ok (.iconst 2, 1) := by decide +kernel
theorem dL_addNoise_22 : decode cL_addNoise 22 = .ok (.ireturn, 1) := by decide +kernel
theorem dL_addNoise_23 : decode cL_addNoise 23 = .ok (.iconst 0, 1) := by decide +kernel
theorem dL_addNoise_24 : decode cL_addNoise 24 = .ok (.ireturn, 1) := by decide +kernel
theorem dL_removeNoise_0 : decode cL_removeNoise 0 = .ok (.aload_n 2, 1) := by decide +kernel
theorem dL_removeNoise_1 : decode cL_removeNoise 1 = .ok (.iconst 0, 1) := by decide +kernel
theorem dL_removeNoise_2 : decode cL_removeNoise 2 = .ok (.aload_n 0, 1) := by decide +kernel
theorem dL_removeNoise_3 : decode cL_removeNoise 3 = .ok (.iload_n 1, 1) := by decide +kernel
theorem dL_removeNoise_4 : decode cL_removeNoise 4 = .ok (.invokevirtual 17, 3) := by decide +kernel
theorem dL_removeNoise_7 : decode cL_removeNoise 7 = .ok (.i2l, 1) := by decide +kernel
theorem dL_removeNoise_8 : decode cL_removeNoise 8 = .ok (.lastore, 1) := by decide +kernel
theorem dL_removeNoise_9 : decode cL_removeNoise 9 = .ok (.goto 9, 3) := by decide +kernel
theorem dL_removeNoise_12 : decode cL_removeNoise 12 = .ok (.astore_n 3, 1) := by decide +kernel
theorem dL_removeNoise_13 : decode cL_removeNoise 13 = .ok (.iconst 1, 1) := by decide +kernel
theorem dL_removeNoise_14 : decode cL_removeNoise 14 = .ok (.ireturn, 1) := by decide +kernel
theorem dL_removeNoise_15 : decode cL_removeNoise 15 = .ok (.astore_n 3, 1) := by decide +kernel
theorem dL_removeNoise_16 : decode cL_removeNoise 16 = .ok (.iconst 2, 1) := by decide +kernel
theorem dL_removeNoise_17 : decode cL_removeNoise 17 = .ok (.ireturn, 1) := by decide +kernel
theorem dL_removeNoise_18 : decode cL_removeNoise 18 = .ok (.iconst 0, 1) := by decide +kernel
theorem dL_removeNoise_19 : decode cL_removeNoise 19 = .ok (.ireturn, 1) := by decide +kernel
theorem dL_setGear_0 : decode cL_setGear 0 = .ok (.aload_n 3, 1) := by decide +kernel
theorem dL_setGear_1 : decode cL_setGear 1 = .ok (.iconst 0, 1) := by decide +kernel
theorem dL_setGear_2 : decode cL_setGear 2 = .ok (.aload_n 0, 1) := by decide +kernel
theorem dL_setGear_3 : decode cL_setGear 3 = .ok (.iload_n 1, 1) := by decide +kernel
theorem dL_setGear_4 : decode cL_setGear 4 = .ok (.iload_n 2, 1) := by decide +kernel
theorem dL_setGear_5 : decode cL_setGear 5 = .ok (.invokevirtual 23, 3) := by decide +kernel
theorem dL_setGear_8 : decode cL_setGear 8 = .ok (.i2l, 1) := by decide +kernel
theorem dL_setGear_9 : decode cL_setGear 9 = .ok (.lastore, 1) := by decide +kernel
theorem dL_setGear_10 : decode cL_setGear 10 = .ok (.goto 11, 3) := by decide +kernel
theorem dL_setGear_13 : decode cL_setGear 13 = .ok (.astore 4, 2) := by decide +kernel
theorem dL_setGear_15 : decode cL_setGear 15 = .ok (.iconst 1, 1) := by decide +kernel
theorem dL_setGear_16 : decode cL_setGear 16 = .ok (.ireturn, 1) := by decide +kernel
theorem dL_setGear_17 : decode cL_setGear 17 = .ok (.astore 4, 2) := by decide +kernel
theorem dL_setGear_19 : decode cL_setGear 19 = .ok (.iconst 2, 1) := by decide +kernel
theorem dL_setGear_20 : decode cL_setGear 20 = .ok (.ireturn, 1) := by decide +kernel
theorem dL_setGear_21 : decode cL_setGear 21 = .ok (.iconst 0, 1) := by decide +kernel
theorem dL_setGear_22 : decode cL_setGear 22 = .ok (.ireturn, 1) := by decide +kernel
theorem dL_setMesh_0 : decode cL_setMesh 0 = .ok (.aload_n 3, 1) := by decide +kernel
theorem dL_setMesh_1 : decode cL_setMesh 1 = .ok (.iconst 0, 1) := by decide +kernel
theorem dL_setMesh_2 : decode cL_setMesh 2 = .ok (.aload_n 0, 1) := by decide +kernel
theorem dL_setMesh_3 : decode cL_setMesh 3 = .ok (.iload_n 1, 1) := by decide +kernel
theorem dL_setMesh_4 : decode cL_setMesh 4 = .ok (.iload_n 2, 1) := by decide +kernel
theorem dL_setMesh_5 : decode cL_setMesh 5 = .ok (.invokevirtual 29, 3) := by decide +kernel
theorem dL_setMesh_8 : decode cL_setMesh 8 = .ok (.i2l, 1) := by decide +kernel
theorem dL_setMesh_9 : decode cL_setMesh 9 = .ok (.lastore, 1) := by decide +kernel
theorem dL_setMesh_10 : decode cL_setMesh 10 = .ok (.goto 7, 3) := by decide +kernel
theorem dL_setMesh_13 : decode cL_setMesh 13 = .ok (.astore 4, 2) := by decide +kernel
theorem dL_setMesh_15 : decode cL_setMesh 15 = .ok (.iconst 1, 1) := by decide +kernel
theorem dL_setMesh_16 : decode cL_setMesh 16 = .ok (.ireturn, 1) := by decide +kernel
theorem dL_setMesh_17 : decode cL_setMesh 17 = .ok (.iconst 0, 1) := by decide +kernel
theorem dL_setMesh_18 : decode cL_setMesh 18 = .ok (.ireturn, 1) := by decide +kernel
theorem dL_clearWheel_0 : decode cL_clearWheel 0 = .ok (.aload_n 2, 1) := by decide +kernel
theorem dL_clearWheel_1 : decode cL_clearWheel 1 = .ok (.iconst 0, 1) := by decide +kernel
theorem dL_clearWheel_2 : decode cL_clearWheel 2 = .ok (.aload_n 0, 1) := by decide +kernel
theorem dL_clearWheel_3 : decode cL_clearWheel 3 = .ok (.iload_n 1, 1) := by decide +kernel
theorem dL_clearWheel_4 : decode cL_clearWheel 4 = .ok (.invokevirtual 32, 3) := by decide +kernel
theorem dL_clearWheel_7 : decode cL_clearWheel 7 = .ok (.i2l, 1) := by decide +kernel
theorem dL_clearWheel_8 : decode cL_clearWheel 8 = .ok (.lastore, 1) := by decide +kernel
theorem dL_clearWheel_9 : decode cL_clearWheel 9 = .ok (.goto 6, 3) := by decide +kernel
theorem dL_clearWheel_12 : decode cL_clearWheel 12 = .ok (.astore_n 3, 1) := by decide +kernel
theorem dL_clearWheel_13 : decode cL_clearWheel 13 = .ok (.iconst 1, 1) := by decide +kernel
theorem dL_clearWheel_14 : decode cL_clearWheel 14 = .ok (.ireturn, 1) := by decide +kernel
theorem dL_clearWheel_15 : decode cL_clearWheel 15 = .ok (.iconst 0, 1) := by decide +kernel
theorem dL_clearWheel_16 : decode cL_clearWheel 16 = .ok (.ireturn, 1) := by decide +kernel
theorem dL_releaseNoise_0 : decode cL_releaseNoise 0 = .ok (.aload_n 2, 1) := by decide +kernel
theorem dL_releaseNoise_1 : decode cL_releaseNoise 1 = .ok (.iconst 0, 1) := by decide +kernel
theorem dL_releaseNoise_2 : decode cL_releaseNoise 2 = .ok (.aload_n 0, 1) := by decide +kernel
theorem dL_releaseNoise_3 : decode cL_releaseNoise 3 = .ok (.iload_n 1, 1) := by decide +kernel
theorem dL_releaseNoise_4 : decode cL_releaseNoise 4 = .ok (.invokevirtual 35, 3) := by decide +kernel
theorem dL_releaseNoise_7 : decode cL_releaseNoise 7 = .ok (.i2l, 1) := by decide +kernel
theorem dL_releaseNoise_8 : decode cL_releaseNoise 8 = .ok (.lastore, 1) := by decide +kernel
theorem dL_releaseNoise_9 : decode cL_releaseNoise 9 = .ok (.goto 12, 3) := by decide +kernel
theorem dL_releaseNoise_12 : decode cL_releaseNoise 12 = .ok (.astore_n 3, 1) := by decide +kernel
theorem dL_releaseNoise_13 : decode cL_releaseNoise 13 = .ok (.iconst 1, 1) := by decide +kernel
theorem dL_releaseNoise_14 : decode cL_releaseNoise 14 = .ok (.ireturn, 1) := by decide +kernel
theorem dL_releaseNoise_15 : decode cL_releaseNoise 15 = .ok (.astore_n 3, 1) := by decide +kernel
theorem dL_releaseNoise_16 : decode cL_releaseNoise 16 = .ok (.iconst 2, 1) := by decide +kernel
theorem dL_releaseNoise_17 : decode cL_releaseNoise 17 = .ok (.ireturn, 1) := by decide +kernel
theorem dL_releaseNoise_18 : decode cL_releaseNoise 18 = .ok (.astore_n 3, 1) := by decide +kernel
theorem dL_releaseNoise_19 : decode cL_releaseNoise 19 = .ok (.iconst 3, 1) := by decide +kernel
theorem dL_releaseNoise_20 : decode cL_releaseNoise 20 = .ok (.ireturn, 1) := by decide +kernel
theorem dL_releaseNoise_21 : decode cL_releaseNoise 21 = .ok (.iconst 0, 1) := by decide +kernel
theorem dL_releaseNoise_22 : decode cL_releaseNoise 22 = .ok (.ireturn, 1) := by decide +kernel
theorem dL_shipSacks_0 : decode cL_shipSacks 0 = .ok (.aload_n 3, 1) := by decide +kernel
theorem dL_shipSacks_1 : decode cL_shipSacks 1 = .ok (.iconst 0, 1) := by decide +kernel
theorem dL_shipSacks_2 : decode cL_shipSacks 2 = .ok (.aload_n 0, 1) := by decide +kernel
theorem dL_shipSacks_3 : decode cL_shipSacks 3 = .ok (.iload_n 1, 1) := by decide +kernel
theorem dL_shipSacks_4 : decode cL_shipSacks 4 = .ok (.iload_n 2, 1) := by decide +kernel
theorem dL_shipSacks_5 : decode cL_shipSacks 5 = .ok (.invokevirtual 38, 3) := by decide +kernel
theorem dL_shipSacks_8 : decode cL_shipSacks 8 = .ok (.i2l, 1) := by decide +kernel
theorem dL_shipSacks_9 : decode cL_shipSacks 9 = .ok (.lastore, 1) := by decide +kernel
theorem dL_shipSacks_10 : decode cL_shipSacks 10 = .ok (.goto 11, 3) := by decide +kernel
theorem dL_shipSacks_13 : decode cL_shipSacks 13 = .ok (.astore 4, 2) := by decide +kernel
theorem dL_shipSacks_15 : decode cL_shipSacks 15 = .ok (.iconst 1, 1) := by decide +kernel
theorem dL_shipSacks_16 : decode cL_shipSacks 16 = .ok (.ireturn, 1) := by decide +kernel
theorem dL_shipSacks_17 : decode cL_shipSacks 17 = .ok (.astore 4, 2) := by decide +kernel
theorem dL_shipSacks_19 : decode cL_shipSacks 19 = .ok (.iconst 2, 1) := by decide +kernel
theorem dL_shipSacks_20 : decode cL_shipSacks 20 = .ok (.ireturn, 1) := by decide +kernel
theorem dL_shipSacks_21 : decode cL_shipSacks 21 = .ok (.iconst 0, 1) := by decide +kernel
theorem dL_shipSacks_22 : decode cL_shipSacks 22 = .ok (.ireturn, 1) := by decide +kernel
theorem dL_advance_0 : decode cL_advance 0 = .ok (.aload_n 2, 1) := by decide +kernel
theorem dL_advance_1 : decode cL_advance 1 = .ok (.iconst 0, 1) := by decide +kernel
theorem dL_advance_2 : decode cL_advance 2 = .ok (.aload_n 0, 1) := by decide +kernel
theorem dL_advance_3 : decode cL_advance 3 = .ok (.iload_n 1, 1) := by decide +kernel
theorem dL_advance_4 : decode cL_advance 4 = .ok (.invokevirtual 43, 3) := by decide +kernel
theorem dL_advance_7 : decode cL_advance 7 = .ok (.i2l, 1) := by decide +kernel
theorem dL_advance_8 : decode cL_advance 8 = .ok (.lastore, 1) := by decide +kernel
theorem dL_advance_9 : decode cL_advance 9 = .ok (.goto 6, 3) := by decide +kernel
theorem dL_advance_12 : decode cL_advance 12 = .ok (.astore_n 3, 1) := by decide +kernel
theorem dL_advance_13 : decode cL_advance 13 = .ok (.iconst 1, 1) := by decide +kernel
theorem dL_advance_14 : decode cL_advance 14 = .ok (.ireturn, 1) := by decide +kernel
theorem dL_advance_15 : decode cL_advance 15 = .ok (.iconst 0, 1) := by decide +kernel
theorem dL_advance_16 : decode cL_advance 16 = .ok (.ireturn, 1) := by decide +kernel
theorem dL_waitingAt_0 : decode cL_waitingAt 0 = .ok (.aload_n 2, 1) := by decide +kernel
theorem dL_waitingAt_1 : decode cL_waitingAt 1 = .ok (.iconst 0, 1) := by decide +kernel
theorem dL_waitingAt_2 : decode cL_waitingAt 2 = .ok (.aload_n 0, 1) := by decide +kernel
theorem dL_waitingAt_3 : decode cL_waitingAt 3 = .ok (.iload_n 1, 1) := by decide +kernel
theorem dL_waitingAt_4 : decode cL_waitingAt 4 = .ok (.invokevirtual 46, 3) := by decide +kernel
theorem dL_waitingAt_7 : decode cL_waitingAt 7 = .ok (.i2l, 1) := by decide +kernel
theorem dL_waitingAt_8 : decode cL_waitingAt 8 = .ok (.lastore, 1) := by decide +kernel
theorem dL_waitingAt_9 : decode cL_waitingAt 9 = .ok (.goto 6, 3) := by decide +kernel
theorem dL_waitingAt_12 : decode cL_waitingAt 12 = .ok (.astore_n 3, 1) := by decide +kernel
theorem dL_waitingAt_13 : decode cL_waitingAt 13 = .ok (.iconst 1, 1) := by decide +kernel
theorem dL_waitingAt_14 : decode cL_waitingAt 14 = .ok (.ireturn, 1) := by decide +kernel
theorem dL_waitingAt_15 : decode cL_waitingAt 15 = .ok (.iconst 0, 1) := by decide +kernel
theorem dL_waitingAt_16 : decode cL_waitingAt 16 = .ok (.ireturn, 1) := by decide +kernel
theorem dL_rankOf_0 : decode cL_rankOf 0 = .ok (.aload_n 2, 1) := by decide +kernel
theorem dL_rankOf_1 : decode cL_rankOf 1 = .ok (.iconst 0, 1) := by decide +kernel
theorem dL_rankOf_2 : decode cL_rankOf 2 = .ok (.aload_n 0, 1) := by decide +kernel
theorem dL_rankOf_3 : decode cL_rankOf 3 = .ok (.iload_n 1, 1) := by decide +kernel
theorem dL_rankOf_4 : decode cL_rankOf 4 = .ok (.invokevirtual 49, 3) := by decide +kernel
theorem dL_rankOf_7 : decode cL_rankOf 7 = .ok (.i2l, 1) := by decide +kernel
theorem dL_rankOf_8 : decode cL_rankOf 8 = .ok (.lastore, 1) := by decide +kernel
theorem dL_rankOf_9 : decode cL_rankOf 9 = .ok (.goto 9, 3) := by decide +kernel
theorem dL_rankOf_12 : decode cL_rankOf 12 = .ok (.astore_n 3, 1) := by decide +kernel
theorem dL_rankOf_13 : decode cL_rankOf 13 = .ok (.iconst 1, 1) := by decide +kernel
theorem dL_rankOf_14 : decode cL_rankOf 14 = .ok (.ireturn, 1) := by decide +kernel
theorem dL_rankOf_15 : decode cL_rankOf 15 = .ok (.astore_n 3, 1) := by decide +kernel
theorem dL_rankOf_16 : decode cL_rankOf 16 = .ok (.iconst 2, 1) := by decide +kernel
theorem dL_rankOf_17 : decode cL_rankOf 17 = .ok (.ireturn, 1) := by decide +kernel
theorem dL_rankOf_18 : decode cL_rankOf 18 = .ok (.iconst 0, 1) := by decide +kernel
theorem dL_rankOf_19 : decode cL_rankOf 19 = .ok (.ireturn, 1) := by decide +kernel
theorem dL_band_0 : decode cL_band 0 = .ok (.aload_n 2, 1) := by decide +kernel
theorem dL_band_1 : decode cL_band 1 = .ok (.iconst 0, 1) := by decide +kernel
theorem dL_band_2 : decode cL_band 2 = .ok (.aload_n 0, 1) := by decide +kernel
theorem dL_band_3 : decode cL_band 3 = .ok (.iload_n 1, 1) := by decide +kernel
theorem dL_band_4 : decode cL_band 4 = .ok (.invokevirtual 52, 3) := by decide +kernel
theorem dL_band_7 : decode cL_band 7 = .ok (.i2l, 1) := by decide +kernel
theorem dL_band_8 : decode cL_band 8 = .ok (.lastore, 1) := by decide +kernel
theorem dL_band_9 : decode cL_band 9 = .ok (.goto 6, 3) := by decide +kernel
theorem dL_band_12 : decode cL_band 12 = .ok (.astore_n 3, 1) := by decide +kernel
theorem dL_band_13 : decode cL_band 13 = .ok (.iconst 1, 1) := by decide +kernel
theorem dL_band_14 : decode cL_band 14 = .ok (.ireturn, 1) := by decide +kernel
theorem dL_band_15 : decode cL_band 15 = .ok (.iconst 0, 1) := by decide +kernel
theorem dL_band_16 : decode cL_band 16 = .ok (.ireturn, 1) := by decide +kernel
theorem dL_loudness_0 : decode cL_loudness 0 = .ok (.aload_n 2, 1) := by decide +kernel
theorem dL_loudness_1 : decode cL_loudness 1 = .ok (.iconst 0, 1) := by decide +kernel
theorem dL_loudness_2 : decode cL_loudness 2 = .ok (.aload_n 0, 1) := by decide +kernel
theorem dL_loudness_3 : decode cL_loudness 3 = .ok (.iload_n 1, 1) := by decide +kernel
theorem dL_loudness_4 : decode cL_loudness 4 = .ok (.invokevirtual 55, 3) := by decide +kernel
theorem dL_loudness_7 : decode cL_loudness 7 = .ok (.i2l, 1) := by decide +kernel
theorem dL_loudness_8 : decode cL_loudness 8 = .ok (.lastore, 1) := by decide +kernel
theorem dL_loudness_9 : decode cL_loudness 9 = .ok (.goto 6, 3) := by decide +kernel
theorem dL_loudness_12 : decode cL_loudness 12 = .ok (.astore_n 3, 1) := by decide +kernel
theorem dL_loudness_13 : decode cL_loudness 13 = .ok (.iconst 1, 1) := by decide +kernel
theorem dL_loudness_14 : decode cL_loudness 14 = .ok (.ireturn, 1) := by decide +kernel
theorem dL_loudness_15 : decode cL_loudness 15 = .ok (.iconst 0, 1) := by decide +kernel
theorem dL_loudness_16 : decode cL_loudness 16 = .ok (.ireturn, 1) := by decide +kernel
theorem dL_amount_0 : decode cL_amount 0 = .ok (.aload_n 2, 1) := by decide +kernel
theorem dL_amount_1 : decode cL_amount 1 = .ok (.iconst 0, 1) := by decide +kernel
theorem dL_amount_2 : decode cL_amount 2 = .ok (.aload_n 0, 1) := by decide +kernel
theorem dL_amount_3 : decode cL_amount 3 = .ok (.iload_n 1, 1) := by decide +kernel
theorem dL_amount_4 : decode cL_amount 4 = .ok (.invokevirtual 58, 3) := by decide +kernel
theorem dL_amount_7 : decode cL_amount 7 = .ok (.i2l, 1) := by decide +kernel
theorem dL_amount_8 : decode cL_amount 8 = .ok (.lastore, 1) := by decide +kernel
theorem dL_amount_9 : decode cL_amount 9 = .ok (.goto 6, 3) := by decide +kernel
theorem dL_amount_12 : decode cL_amount 12 = .ok (.astore_n 3, 1) := by decide +kernel
theorem dL_amount_13 : decode cL_amount 13 = .ok (.iconst 1, 1) := by decide +kernel
theorem dL_amount_14 : decode cL_amount 14 = .ok (.ireturn, 1) := by decide +kernel
theorem dL_amount_15 : decode cL_amount 15 = .ok (.iconst 0, 1) := by decide +kernel
theorem dL_amount_16 : decode cL_amount 16 = .ok (.ireturn, 1) := by decide +kernel
theorem dL_isWaiting_0 : decode cL_isWaiting 0 = .ok (.aload_n 2, 1) := by decide +kernel
theorem dL_isWaiting_1 : decode cL_isWaiting 1 = .ok (.iconst 0, 1) := by decide +kernel
theorem dL_isWaiting_2 : decode cL_isWaiting 2 = .ok (.aload_n 0, 1) := by decide +kernel
theorem dL_isWaiting_3 : decode cL_isWaiting 3 = .ok (.iload_n 1, 1) := by decide +kernel
theorem dL_isWaiting_4 : decode cL_isWaiting 4 = .ok (.invokevirtual 61, 3) := by decide +kernel
theorem dL_isWaiting_7 : decode cL_isWaiting 7 = .ok (.ifCond .eq 7, 3) := by decide +kernel
theorem dL_isWaiting_10 : decode cL_isWaiting 10 = .ok (.lconst 1, 1) := by decide +kernel
theorem dL_isWaiting_11 : decode cL_isWaiting 11 = .ok (.goto 4, 3) := by decide +kernel
theorem dL_isWaiting_14 : decode cL_isWaiting 14 = .ok (.lconst 0, 1) := by decide +kernel
theorem dL_isWaiting_15 : decode cL_isWaiting 15 = .ok (.lastore, 1) := by decide +kernel
theorem dL_isWaiting_16 : decode cL_isWaiting 16 = .ok (.goto 6, 3) := by decide +kernel
theorem dL_isWaiting_19 : decode cL_isWaiting 19 = .ok (.astore_n 3, 1) := by decide +kernel
theorem dL_isWaiting_20 : decode cL_isWaiting 20 = .ok (.iconst 1, 1) := by decide +kernel
theorem dL_isWaiting_21 : decode cL_isWaiting 21 = .ok (.ireturn, 1) := by decide +kernel
theorem dL_isWaiting_22 : decode cL_isWaiting 22 = .ok (.iconst 0, 1) := by decide +kernel
theorem dL_isWaiting_23 : decode cL_isWaiting 23 = .ok (.ireturn, 1) := by decide +kernel
theorem dL_wheelOf_0 : decode cL_wheelOf 0 = .ok (.aload_n 2, 1) := by decide +kernel
theorem dL_wheelOf_1 : decode cL_wheelOf 1 = .ok (.iconst 0, 1) := by decide +kernel
theorem dL_wheelOf_2 : decode cL_wheelOf 2 = .ok (.aload_n 0, 1) := by decide +kernel
theorem dL_wheelOf_3 : decode cL_wheelOf 3 = .ok (.iload_n 1, 1) := by decide +kernel
theorem dL_wheelOf_4 : decode cL_wheelOf 4 = .ok (.invokevirtual 65, 3) := by decide +kernel
theorem dL_wheelOf_7 : decode cL_wheelOf 7 = .ok (.i2l, 1) := by decide +kernel
theorem dL_wheelOf_8 : decode cL_wheelOf 8 = .ok (.lastore, 1) := by decide +kernel
theorem dL_wheelOf_9 : decode cL_wheelOf 9 = .ok (.goto 6, 3) := by decide +kernel
theorem dL_wheelOf_12 : decode cL_wheelOf 12 = .ok (.astore_n 3, 1) := by decide +kernel
theorem dL_wheelOf_13 : decode cL_wheelOf 13 = .ok (.iconst 1, 1) := by decide +kernel
theorem dL_wheelOf_14 : decode cL_wheelOf 14 = .ok (.ireturn, 1) := by decide +kernel
theorem dL_wheelOf_15 : decode cL_wheelOf 15 = .ok (.iconst 0, 1) := by decide +kernel
theorem dL_wheelOf_16 : decode cL_wheelOf 16 = .ok (.ireturn, 1) := by decide +kernel
theorem dL_noiseOn_0 : decode cL_noiseOn 0 = .ok (.aload_n 2, 1) := by decide +kernel
theorem dL_noiseOn_1 : decode cL_noiseOn 1 = .ok (.iconst 0, 1) := by decide +kernel
theorem dL_noiseOn_2 : decode cL_noiseOn 2 = .ok (.aload_n 0, 1) := by decide +kernel
theorem dL_noiseOn_3 : decode cL_noiseOn 3 = .ok (.iload_n 1, 1) := by decide +kernel
theorem dL_noiseOn_4 : decode cL_noiseOn 4 = .ok (.invokevirtual 68, 3) := by decide +kernel
theorem dL_noiseOn_7 : decode cL_noiseOn 7 = .ok (.i2l, 1) := by decide +kernel
theorem dL_noiseOn_8 : decode cL_noiseOn 8 = .ok (.lastore, 1) := by decide +kernel
theorem dL_noiseOn_9 : decode cL_noiseOn 9 = .ok (.goto 9, 3) := by decide +kernel
theorem dL_noiseOn_12 : decode cL_noiseOn 12 = .ok (.astore_n 3, 1) := by decide +kernel
theorem dL_noiseOn_13 : decode cL_noiseOn 13 = .ok (.iconst 1, 1) := by decide +kernel
theorem dL_noiseOn_14 : decode cL_noiseOn 14 = .ok (.ireturn, 1) := by decide +kernel
theorem dL_noiseOn_15 : decode cL_noiseOn 15 = .ok (.astore_n 3, 1) := by decide +kernel
theorem dL_noiseOn_16 : decode cL_noiseOn 16 = .ok (.iconst 2, 1) := by decide +kernel
theorem dL_noiseOn_17 : decode cL_noiseOn 17 = .ok (.ireturn, 1) := by decide +kernel
theorem dL_noiseOn_18 : decode cL_noiseOn 18 = .ok (.iconst 0, 1) := by decide +kernel
theorem dL_noiseOn_19 : decode cL_noiseOn 19 = .ok (.ireturn, 1) := by decide +kernel
theorem dL_gear_0 : decode cL_gear 0 = .ok (.aload_n 2, 1) := by decide +kernel
theorem dL_gear_1 : decode cL_gear 1 = .ok (.iconst 0, 1) := by decide +kernel
theorem dL_gear_2 : decode cL_gear 2 = .ok (.aload_n 0, 1) := by decide +kernel
theorem dL_gear_3 : decode cL_gear 3 = .ok (.iload_n 1, 1) := by decide +kernel
theorem dL_gear_4 : decode cL_gear 4 = .ok (.invokevirtual 71, 3) := by decide +kernel
theorem dL_gear_7 : decode cL_gear 7 = .ok (.i2l, 1) := by decide +kernel
theorem dL_gear_8 : decode cL_gear 8 = .ok (.lastore, 1) := by decide +kernel
theorem dL_gear_9 : decode cL_gear 9 = .ok (.goto 6, 3) := by decide +kernel
theorem dL_gear_12 : decode cL_gear 12 = .ok (.astore_n 3, 1) := by decide +kernel
theorem dL_gear_13 : decode cL_gear 13 = .ok (.iconst 1, 1) := by decide +kernel
theorem dL_gear_14 : decode cL_gear 14 = .ok (.ireturn, 1) := by decide +kernel
theorem dL_gear_15 : decode cL_gear 15 = .ok (.iconst 0, 1) := by decide +kernel
theorem dL_gear_16 : decode cL_gear 16 = .ok (.ireturn, 1) := by decide +kernel
theorem dL_wear_0 : decode cL_wear 0 = .ok (.aload_n 2, 1) := by decide +kernel
theorem dL_wear_1 : decode cL_wear 1 = .ok (.iconst 0, 1) := by decide +kernel
theorem dL_wear_2 : decode cL_wear 2 = .ok (.aload_n 0, 1) := by decide +kernel
theorem dL_wear_3 : decode cL_wear 3 = .ok (.iload_n 1, 1) := by decide +kernel
theorem dL_wear_4 : decode cL_wear 4 = .ok (.invokevirtual 74, 3) := by decide +kernel
theorem dL_wear_7 : decode cL_wear 7 = .ok (.i2l, 1) := by decide +kernel
theorem dL_wear_8 : decode cL_wear 8 = .ok (.lastore, 1) := by decide +kernel
theorem dL_wear_9 : decode cL_wear 9 = .ok (.goto 6, 3) := by decide +kernel
theorem dL_wear_12 : decode cL_wear 12 = .ok (.astore_n 3, 1) := by decide +kernel
theorem dL_wear_13 : decode cL_wear 13 = .ok (.iconst 1, 1) := by decide +kernel
theorem dL_wear_14 : decode cL_wear 14 = .ok (.ireturn, 1) := by decide +kernel
theorem dL_wear_15 : decode cL_wear 15 = .ok (.iconst 0, 1) := by decide +kernel
theorem dL_wear_16 : decode cL_wear 16 = .ok (.ireturn, 1) := by decide +kernel
theorem dL_isJammed_0 : decode cL_isJammed 0 = .ok (.aload_n 2, 1) := by decide +kernel
theorem dL_isJammed_1 : decode cL_isJammed 1 = .ok (.iconst 0, 1) := by decide +kernel
theorem dL_isJammed_2 : decode cL_isJammed 2 = .ok (.aload_n 0, 1) := by decide +kernel
theorem dL_isJammed_3 : decode cL_isJammed 3 = .ok (.iload_n 1, 1) := by decide +kernel
theorem dL_isJammed_4 : decode cL_isJammed 4 = .ok (.invokevirtual 77, 3) := by decide +kernel
theorem dL_isJammed_7 : decode cL_isJammed 7 = .ok (.ifCond .eq 7, 3) := by decide +kernel
theorem dL_isJammed_10 : decode cL_isJammed 10 = .ok (.lconst 1, 1) := by decide +kernel
theorem dL_isJammed_11 : decode cL_isJammed 11 = .ok (.goto 4, 3) := by decide +kernel
theorem dL_isJammed_14 : decode cL_isJammed 14 = .ok (.lconst 0, 1) := by decide +kernel
theorem dL_isJammed_15 : decode cL_isJammed 15 = .ok (.lastore, 1) := by decide +kernel
theorem dL_isJammed_16 : decode cL_isJammed 16 = .ok (.goto 6, 3) := by decide +kernel
theorem dL_isJammed_19 : decode cL_isJammed 19 = .ok (.astore_n 3, 1) := by decide +kernel
theorem dL_isJammed_20 : decode cL_isJammed 20 = .ok (.iconst 1, 1) := by decide +kernel
theorem dL_isJammed_21 : decode cL_isJammed 21 = .ok (.ireturn, 1) := by decide +kernel
theorem dL_isJammed_22 : decode cL_isJammed 22 = .ok (.iconst 0, 1) := by decide +kernel
theorem dL_isJammed_23 : decode cL_isJammed 23 = .ok (.ireturn, 1) := by decide +kernel
theorem dL_mesh_0 : decode cL_mesh 0 = .ok (.aload_n 2, 1) := by decide +kernel
theorem dL_mesh_1 : decode cL_mesh 1 = .ok (.iconst 0, 1) := by decide +kernel
theorem dL_mesh_2 : decode cL_mesh 2 = .ok (.aload_n 0, 1) := by decide +kernel
theorem dL_mesh_3 : decode cL_mesh 3 = .ok (.iload_n 1, 1) := by decide +kernel
theorem dL_mesh_4 : decode cL_mesh 4 = .ok (.invokevirtual 80, 3) := by decide +kernel
theorem dL_mesh_7 : decode cL_mesh 7 = .ok (.i2l, 1) := by decide +kernel
theorem dL_mesh_8 : decode cL_mesh 8 = .ok (.lastore, 1) := by decide +kernel
theorem dL_mesh_9 : decode cL_mesh 9 = .ok (.goto 6, 3) := by decide +kernel
theorem dL_mesh_12 : decode cL_mesh 12 = .ok (.astore_n 3, 1) := by decide +kernel
theorem dL_mesh_13 : decode cL_mesh 13 = .ok (.iconst 1, 1) := by decide +kernel
theorem dL_mesh_14 : decode cL_mesh 14 = .ok (.ireturn, 1) := by decide +kernel
theorem dL_mesh_15 : decode cL_mesh 15 = .ok (.iconst 0, 1) := by decide +kernel
theorem dL_mesh_16 : decode cL_mesh 16 = .ok (.ireturn, 1) := by decide +kernel
theorem dL_isBandGround_0 : decode cL_isBandGround 0 = .ok (.aload_n 2, 1) := by decide +kernel
theorem dL_isBandGround_1 : decode cL_isBandGround 1 = .ok (.iconst 0, 1) := by decide +kernel
theorem dL_isBandGround_2 : decode cL_isBandGround 2 = .ok (.aload_n 0, 1) := by decide +kernel
theorem dL_isBandGround_3 : decode cL_isBandGround 3 = .ok (.iload_n 1, 1) := by decide +kernel
theorem dL_isBandGround_4 : decode cL_isBandGround 4 = .ok (.invokevirtual 83, 3) := by decide +kernel
theorem dL_isBandGround_7 : decode cL_isBandGround 7 = .ok (.ifCond .eq 7, 3) := by decide +kernel
theorem dL_isBandGround_10 : decode cL_isBandGround 10 = .ok (.lconst 1, 1) := by decide +kernel
theorem dL_isBandGround_11 : decode cL_isBandGround 11 = .ok (.goto 4, 3) := by decide +kernel
theorem dL_isBandGround_14 : decode cL_isBandGround 14 = .ok (.lconst 0, 1) := by decide +kernel
theorem dL_isBandGround_15 : decode cL_isBandGround 15 = .ok (.lastore, 1) := by decide +kernel
theorem dL_isBandGround_16 : decode cL_isBandGround 16 = .ok (.goto 6, 3) := by decide +kernel
theorem dL_isBandGround_19 : decode cL_isBandGround 19 = .ok (.astore_n 3, 1) := by decide +kernel
theorem dL_isBandGround_20 : decode cL_isBandGround 20 = .ok (.iconst 1, 1) := by decide +kernel
theorem dL_isBandGround_21 : decode cL_isBandGround 21 = .ok (.ireturn, 1) := by decide +kernel
theorem dL_isBandGround_22 : decode cL_isBandGround 22 = .ok (.iconst 0, 1) := by decide +kernel
theorem dL_isBandGround_23 : decode cL_isBandGround 23 = .ok (.ireturn, 1) := by decide +kernel
theorem dL_flour_0 : decode cL_flour 0 = .ok (.aload_n 2, 1) := by decide +kernel
theorem dL_flour_1 : decode cL_flour 1 = .ok (.iconst 0, 1) := by decide +kernel
theorem dL_flour_2 : decode cL_flour 2 = .ok (.aload_n 0, 1) := by decide +kernel
theorem dL_flour_3 : decode cL_flour 3 = .ok (.iload_n 1, 1) := by decide +kernel
theorem dL_flour_4 : decode cL_flour 4 = .ok (.invokevirtual 86, 3) := by decide +kernel
theorem dL_flour_7 : decode cL_flour 7 = .ok (.i2l, 1) := by decide +kernel
theorem dL_flour_8 : decode cL_flour 8 = .ok (.lastore, 1) := by decide +kernel
theorem dL_flour_9 : decode cL_flour 9 = .ok (.goto 6, 3) := by decide +kernel
theorem dL_flour_12 : decode cL_flour 12 = .ok (.astore_n 3, 1) := by decide +kernel
theorem dL_flour_13 : decode cL_flour 13 = .ok (.iconst 1, 1) := by decide +kernel
theorem dL_flour_14 : decode cL_flour 14 = .ok (.ireturn, 1) := by decide +kernel
theorem dL_flour_15 : decode cL_flour 15 = .ok (.iconst 0, 1) := by decide +kernel
theorem dL_flour_16 : decode cL_flour 16 = .ok (.ireturn, 1) := by decide +kernel
theorem dL_flourByRecords_0 : decode cL_flourByRecords 0 = .ok (.aload_n 2, 1) := by decide +kernel
theorem dL_flourByRecords_1 : decode cL_flourByRecords 1 = .ok (.iconst 0, 1) := by decide +kernel
theorem dL_flourByRecords_2 : decode cL_flourByRecords 2 = .ok (.aload_n 0, 1) := by decide +kernel
theorem dL_flourByRecords_3 : decode cL_flourByRecords 3 = .ok (.iload_n 1, 1) := by decide +kernel
theorem dL_flourByRecords_4 : decode cL_flourByRecords 4 = .ok (.invokevirtual 89, 3) := by decide +kernel
theorem dL_flourByRecords_7 : decode cL_flourByRecords 7 = .ok (.i2l, 1) := by decide +kernel
theorem dL_flourByRecords_8 : decode cL_flourByRecords 8 = .ok (.lastore, 1) := by decide +kernel
theorem dL_flourByRecords_9 : decode cL_flourByRecords 9 = .ok (.goto 6, 3) := by decide +kernel
theorem dL_flourByRecords_12 : decode cL_flourByRecords 12 = .ok (.astore_n 3, 1) := by decide +kernel
theorem dL_flourByRecords_13 : decode cL_flourByRecords 13 = .ok (.iconst 1, 1) := by decide +kernel
theorem dL_flourByRecords_14 : decode cL_flourByRecords 14 = .ok (.ireturn, 1) := by decide +kernel
theorem dL_flourByRecords_15 : decode cL_flourByRecords 15 = .ok (.iconst 0, 1) := by decide +kernel
theorem dL_flourByRecords_16 : decode cL_flourByRecords 16 = .ok (.ireturn, 1) := by decide +kernel
theorem dL_fullSacks_0 : decode cL_fullSacks 0 = .ok (.aload_n 2, 1) := by decide +kernel
theorem dL_fullSacks_1 : decode cL_fullSacks 1 = .ok (.iconst 0, 1) := by decide +kernel
theorem dL_fullSacks_2 : decode cL_fullSacks 2 = .ok (.aload_n 0, 1) := by decide +kernel
theorem dL_fullSacks_3 : decode cL_fullSacks 3 = .ok (.iload_n 1, 1) := by decide +kernel
theorem dL_fullSacks_4 : decode cL_fullSacks 4 = .ok (.invokevirtual 92, 3) := by decide +kernel
theorem dL_fullSacks_7 : decode cL_fullSacks 7 = .ok (.i2l, 1) := by decide +kernel
theorem dL_fullSacks_8 : decode cL_fullSacks 8 = .ok (.lastore, 1) := by decide +kernel
theorem dL_fullSacks_9 : decode cL_fullSacks 9 = .ok (.goto 6, 3) := by decide +kernel
theorem dL_fullSacks_12 : decode cL_fullSacks 12 = .ok (.astore_n 3, 1) := by decide +kernel
theorem dL_fullSacks_13 : decode cL_fullSacks 13 = .ok (.iconst 1, 1) := by decide +kernel
theorem dL_fullSacks_14 : decode cL_fullSacks 14 = .ok (.ireturn, 1) := by decide +kernel
theorem dL_fullSacks_15 : decode cL_fullSacks 15 = .ok (.iconst 0, 1) := by decide +kernel
theorem dL_fullSacks_16 : decode cL_fullSacks 16 = .ok (.ireturn, 1) := by decide +kernel
theorem dL_openSack_0 : decode cL_openSack 0 = .ok (.aload_n 2, 1) := by decide +kernel
theorem dL_openSack_1 : decode cL_openSack 1 = .ok (.iconst 0, 1) := by decide +kernel
theorem dL_openSack_2 : decode cL_openSack 2 = .ok (.aload_n 0, 1) := by decide +kernel
theorem dL_openSack_3 : decode cL_openSack 3 = .ok (.iload_n 1, 1) := by decide +kernel
theorem dL_openSack_4 : decode cL_openSack 4 = .ok (.invokevirtual 95, 3) := by decide +kernel
theorem dL_openSack_7 : decode cL_openSack 7 = .ok (.i2l, 1) := by decide +kernel
theorem dL_openSack_8 : decode cL_openSack 8 = .ok (.lastore, 1) := by decide +kernel
theorem dL_openSack_9 : decode cL_openSack 9 = .ok (.goto 6, 3) := by decide +kernel
theorem dL_openSack_12 : decode cL_openSack 12 = .ok (.astore_n 3, 1) := by decide +kernel
theorem dL_openSack_13 : decode cL_openSack 13 = .ok (.iconst 1, 1) := by decide +kernel
theorem dL_openSack_14 : decode cL_openSack 14 = .ok (.ireturn, 1) := by decide +kernel
theorem dL_openSack_15 : decode cL_openSack 15 = .ok (.iconst 0, 1) := by decide +kernel
theorem dL_openSack_16 : decode cL_openSack 16 = .ok (.ireturn, 1) := by decide +kernel
theorem dL_shippedSacks_0 : decode cL_shippedSacks 0 = .ok (.aload_n 2, 1) := by decide +kernel
theorem dL_shippedSacks_1 : decode cL_shippedSacks 1 = .ok (.iconst 0, 1) := by decide +kernel
theorem dL_shippedSacks_2 : decode cL_shippedSacks 2 = .ok (.aload_n 0, 1) := by decide +kernel
theorem dL_shippedSacks_3 : decode cL_shippedSacks 3 = .ok (.iload_n 1, 1) := by decide +kernel
theorem dL_shippedSacks_4 : decode cL_shippedSacks 4 = .ok (.invokevirtual 98, 3) := by decide +kernel
theorem dL_shippedSacks_7 : decode cL_shippedSacks 7 = .ok (.i2l, 1) := by decide +kernel
theorem dL_shippedSacks_8 : decode cL_shippedSacks 8 = .ok (.lastore, 1) := by decide +kernel
theorem dL_shippedSacks_9 : decode cL_shippedSacks 9 = .ok (.goto 6, 3) := by decide +kernel
theorem dL_shippedSacks_12 : decode cL_shippedSacks 12 = .ok (.astore_n 3, 1) := by decide +kernel
theorem dL_shippedSacks_13 : decode cL_shippedSacks 13 = .ok (.iconst 1, 1) := by decide +kernel
theorem dL_shippedSacks_14 : decode cL_shippedSacks 14 = .ok (.ireturn, 1) := by decide +kernel
theorem dL_shippedSacks_15 : decode cL_shippedSacks 15 = .ok (.iconst 0, 1) := by decide +kernel
theorem dL_shippedSacks_16 : decode cL_shippedSacks 16 = .ok (.ireturn, 1) := by decide +kernel
theorem dL_recorded_0 : decode cL_recorded 0 = .ok (.aload_n 3, 1) := by decide +kernel
theorem dL_recorded_1 : decode cL_recorded 1 = .ok (.iconst 0, 1) := by decide +kernel
theorem dL_recorded_2 : decode cL_recorded 2 = .ok (.aload_n 0, 1) := by decide +kernel
theorem dL_recorded_3 : decode cL_recorded 3 = .ok (.iload_n 1, 1) := by decide +kernel
theorem dL_recorded_4 : decode cL_recorded 4 = .ok (.iload_n 2, 1) := by decide +kernel
theorem dL_recorded_5 : decode cL_recorded 5 = .ok (.invokevirtual 101, 3) := by decide +kernel
theorem dL_recorded_8 : decode cL_recorded 8 = .ok (.i2l, 1) := by decide +kernel
theorem dL_recorded_9 : decode cL_recorded 9 = .ok (.lastore, 1) := by decide +kernel
theorem dL_recorded_10 : decode cL_recorded 10 = .ok (.goto 7, 3) := by decide +kernel
theorem dL_recorded_13 : decode cL_recorded 13 = .ok (.astore 4, 2) := by decide +kernel
theorem dL_recorded_15 : decode cL_recorded 15 = .ok (.iconst 1, 1) := by decide +kernel
theorem dL_recorded_16 : decode cL_recorded 16 = .ok (.ireturn, 1) := by decide +kernel
theorem dL_recorded_17 : decode cL_recorded 17 = .ok (.iconst 0, 1) := by decide +kernel
theorem dL_recorded_18 : decode cL_recorded 18 = .ok (.ireturn, 1) := by decide +kernel
theorem dL_stepsUntilDone_0 : decode cL_stepsUntilDone 0 = .ok (.aload_n 2, 1) := by decide +kernel
theorem dL_stepsUntilDone_1 : decode cL_stepsUntilDone 1 = .ok (.iconst 0, 1) := by decide +kernel
theorem dL_stepsUntilDone_2 : decode cL_stepsUntilDone 2 = .ok (.aload_n 0, 1) := by decide +kernel
theorem dL_stepsUntilDone_3 : decode cL_stepsUntilDone 3 = .ok (.iload_n 1, 1) := by decide +kernel
theorem dL_stepsUntilDone_4 : decode cL_stepsUntilDone 4 = .ok (.invokevirtual 104, 3) := by decide +kernel
theorem dL_stepsUntilDone_7 : decode cL_stepsUntilDone 7 = .ok (.i2l, 1) := by decide +kernel
theorem dL_stepsUntilDone_8 : decode cL_stepsUntilDone 8 = .ok (.lastore, 1) := by decide +kernel
theorem dL_stepsUntilDone_9 : decode cL_stepsUntilDone 9 = .ok (.goto 9, 3) := by decide +kernel
theorem dL_stepsUntilDone_12 : decode cL_stepsUntilDone 12 = .ok (.astore_n 3, 1) := by decide +kernel
theorem dL_stepsUntilDone_13 : decode cL_stepsUntilDone 13 = .ok (.iconst 1, 1) := by decide +kernel
theorem dL_stepsUntilDone_14 : decode cL_stepsUntilDone 14 = .ok (.ireturn, 1) := by decide +kernel
theorem dL_stepsUntilDone_15 : decode cL_stepsUntilDone 15 = .ok (.astore_n 3, 1) := by decide +kernel
theorem dL_stepsUntilDone_16 : decode cL_stepsUntilDone 16 = .ok (.iconst 2, 1) := by decide +kernel
theorem dL_stepsUntilDone_17 : decode cL_stepsUntilDone 17 = .ok (.ireturn, 1) := by decide +kernel
theorem dL_stepsUntilDone_18 : decode cL_stepsUntilDone 18 = .ok (.iconst 0, 1) := by decide +kernel
theorem dL_stepsUntilDone_19 : decode cL_stepsUntilDone 19 = .ok (.ireturn, 1) := by decide +kernel
theorem dL_stepsUntilDoneByRate_0 : decode cL_stepsUntilDoneByRate 0 = .ok (.aload_n 2, 1) := by decide +kernel
theorem dL_stepsUntilDoneByRate_1 : decode cL_stepsUntilDoneByRate 1 = .ok (.iconst 0, 1) := by decide +kernel
theorem dL_stepsUntilDoneByRate_2 : decode cL_stepsUntilDoneByRate 2 = .ok (.aload_n 0, 1) := by decide +kernel
theorem dL_stepsUntilDoneByRate_3 : decode cL_stepsUntilDoneByRate 3 = .ok (.iload_n 1, 1) := by decide +kernel
theorem dL_stepsUntilDoneByRate_4 : decode cL_stepsUntilDoneByRate 4 = .ok (.invokevirtual 107, 3) := by decide +kernel
theorem dL_stepsUntilDoneByRate_7 : decode cL_stepsUntilDoneByRate 7 = .ok (.i2l, 1) := by decide +kernel
theorem dL_stepsUntilDoneByRate_8 : decode cL_stepsUntilDoneByRate 8 = .ok (.lastore, 1) := by decide +kernel
theorem dL_stepsUntilDoneByRate_9 : decode cL_stepsUntilDoneByRate 9 = .ok (.goto 9, 3) := by decide +kernel
theorem dL_stepsUntilDoneByRate_12 : decode cL_stepsUntilDoneByRate 12 = .ok (.astore_n 3, 1) := by decide +kernel
theorem dL_stepsUntilDoneByRate_13 : decode cL_stepsUntilDoneByRate 13 = .ok (.iconst 1, 1) := by decide +kernel
theorem dL_stepsUntilDoneByRate_14 : decode cL_stepsUntilDoneByRate 14 = .ok (.ireturn, 1) := by decide +kernel
theorem dL_stepsUntilDoneByRate_15 : decode cL_stepsUntilDoneByRate 15 = .ok (.astore_n 3, 1) := by decide +kernel
theorem dL_stepsUntilDoneByRate_16 : decode cL_stepsUntilDoneByRate 16 = .ok (.iconst 2, 1) := by decide +kernel
theorem dL_stepsUntilDoneByRate_17 : decode cL_stepsUntilDoneByRate 17 = .ok (.ireturn, 1) := by decide +kernel
theorem dL_stepsUntilDoneByRate_18 : decode cL_stepsUntilDoneByRate 18 = .ok (.iconst 0, 1) := by decide +kernel
theorem dL_stepsUntilDoneByRate_19 : decode cL_stepsUntilDoneByRate 19 = .ok (.ireturn, 1) := by decide +kernel
theorem dL_stepsUntilJam_0 : decode cL_stepsUntilJam 0 = .ok (.aload_n 2, 1) := by decide +kernel
theorem dL_stepsUntilJam_1 : decode cL_stepsUntilJam 1 = .ok (.iconst 0, 1) := by decide +kernel
theorem dL_stepsUntilJam_2 : decode cL_stepsUntilJam 2 = .ok (.aload_n 0, 1) := by decide +kernel
theorem dL_stepsUntilJam_3 : decode cL_stepsUntilJam 3 = .ok (.iload_n 1, 1) := by decide +kernel
theorem dL_stepsUntilJam_4 : decode cL_stepsUntilJam 4 = .ok (.invokevirtual 110, 3) := by decide +kernel
theorem dL_stepsUntilJam_7 : decode cL_stepsUntilJam 7 = .ok (.i2l, 1) := by decide +kernel
theorem dL_stepsUntilJam_8 : decode cL_stepsUntilJam 8 = .ok (.lastore, 1) := by decide +kernel
theorem dL_stepsUntilJam_9 : decode cL_stepsUntilJam 9 = .ok (.goto 9, 3) := by decide +kernel
theorem dL_stepsUntilJam_12 : decode cL_stepsUntilJam 12 = .ok (.astore_n 3, 1) := by decide +kernel
theorem dL_stepsUntilJam_13 : decode cL_stepsUntilJam 13 = .ok (.iconst 1, 1) := by decide +kernel
theorem dL_stepsUntilJam_14 : decode cL_stepsUntilJam 14 = .ok (.ireturn, 1) := by decide +kernel
theorem dL_stepsUntilJam_15 : decode cL_stepsUntilJam 15 = .ok (.astore_n 3, 1) := by decide +kernel
theorem dL_stepsUntilJam_16 : decode cL_stepsUntilJam 16 = .ok (.iconst 2, 1) := by decide +kernel
theorem dL_stepsUntilJam_17 : decode cL_stepsUntilJam 17 = .ok (.ireturn, 1) := by decide +kernel
theorem dL_stepsUntilJam_18 : decode cL_stepsUntilJam 18 = .ok (.iconst 0, 1) := by decide +kernel
theorem dL_stepsUntilJam_19 : decode cL_stepsUntilJam 19 = .ok (.ireturn, 1) := by decide +kernel
theorem dL_groundWithin_0 : decode cL_groundWithin 0 = .ok (.aload_n 2, 1) := by decide +kernel
theorem dL_groundWithin_1 : decode cL_groundWithin 1 = .ok (.iconst 0, 1) := by decide +kernel
theorem dL_groundWithin_2 : decode cL_groundWithin 2 = .ok (.aload_n 0, 1) := by decide +kernel
theorem dL_groundWithin_3 : decode cL_groundWithin 3 = .ok (.iload_n 1, 1) := by decide +kernel
theorem dL_groundWithin_4 : decode cL_groundWithin 4 = .ok (.invokevirtual 113, 3) := by decide +kernel
theorem dL_groundWithin_7 : decode cL_groundWithin 7 = .ok (.i2l, 1) := by decide +kernel
theorem dL_groundWithin_8 : decode cL_groundWithin 8 = .ok (.lastore, 1) := by decide +kernel
theorem dL_groundWithin_9 : decode cL_groundWithin 9 = .ok (.goto 6, 3) := by decide +kernel
theorem dL_groundWithin_12 : decode cL_groundWithin 12 = .ok (.astore_n 3, 1) := by decide +kernel
theorem dL_groundWithin_13 : decode cL_groundWithin 13 = .ok (.iconst 1, 1) := by decide +kernel
theorem dL_groundWithin_14 : decode cL_groundWithin 14 = .ok (.ireturn, 1) := by decide +kernel
theorem dL_groundWithin_15 : decode cL_groundWithin 15 = .ok (.iconst 0, 1) := by decide +kernel
theorem dL_groundWithin_16 : decode cL_groundWithin 16 = .ok (.ireturn, 1) := by decide +kernel
theorem dL_doneNumber_0 : decode cL_doneNumber 0 = .ok (.aload_n 2, 1) := by decide +kernel
theorem dL_doneNumber_1 : decode cL_doneNumber 1 = .ok (.iconst 0, 1) := by decide +kernel
theorem dL_doneNumber_2 : decode cL_doneNumber 2 = .ok (.aload_n 0, 1) := by decide +kernel
theorem dL_doneNumber_3 : decode cL_doneNumber 3 = .ok (.iload_n 1, 1) := by decide +kernel
theorem dL_doneNumber_4 : decode cL_doneNumber 4 = .ok (.invokevirtual 116, 3) := by decide +kernel
theorem dL_doneNumber_7 : decode cL_doneNumber 7 = .ok (.i2l, 1) := by decide +kernel
theorem dL_doneNumber_8 : decode cL_doneNumber 8 = .ok (.lastore, 1) := by decide +kernel
theorem dL_doneNumber_9 : decode cL_doneNumber 9 = .ok (.goto 6, 3) := by decide +kernel
theorem dL_doneNumber_12 : decode cL_doneNumber 12 = .ok (.astore_n 3, 1) := by decide +kernel
theorem dL_doneNumber_13 : decode cL_doneNumber 13 = .ok (.iconst 1, 1) := by decide +kernel
theorem dL_doneNumber_14 : decode cL_doneNumber 14 = .ok (.ireturn, 1) := by decide +kernel
theorem dL_doneNumber_15 : decode cL_doneNumber 15 = .ok (.iconst 0, 1) := by decide +kernel
theorem dL_doneNumber_16 : decode cL_doneNumber 16 = .ok (.ireturn, 1) := by decide +kernel
theorem dL_doneWheel_0 : decode cL_doneWheel 0 = .ok (.aload_n 2, 1) := by decide +kernel
theorem dL_doneWheel_1 : decode cL_doneWheel 1 = .ok (.iconst 0, 1) := by decide +kernel
theorem dL_doneWheel_2 : decode cL_doneWheel 2 = .ok (.aload_n 0, 1) := by decide +kernel
theorem dL_doneWheel_3 : decode cL_doneWheel 3 = .ok (.iload_n 1, 1) := by decide +kernel
theorem dL_doneWheel_4 : decode cL_doneWheel 4 = .ok (.invokevirtual 119, 3) := by decide +kernel
theorem dL_doneWheel_7 : decode cL_doneWheel 7 = .ok (.i2l, 1) := by decide +kernel
theorem dL_doneWheel_8 : decode cL_doneWheel 8 = .ok (.lastore, 1) := by decide +kernel
theorem dL_doneWheel_9 : decode cL_doneWheel 9 = .ok (.goto 6, 3) := by decide +kernel
theorem dL_doneWheel_12 : decode cL_doneWheel 12 = .ok (.astore_n 3, 1) := by decide +kernel
theorem dL_doneWheel_13 : decode cL_doneWheel 13 = .ok (.iconst 1, 1) := by decide +kernel
theorem dL_doneWheel_14 : decode cL_doneWheel 14 = .ok (.ireturn, 1) := by decide +kernel
theorem dL_doneWheel_15 : decode cL_doneWheel 15 = .ok (.iconst 0, 1) := by decide +kernel
theorem dL_doneWheel_16 : decode cL_doneWheel 16 = .ok (.ireturn, 1) := by decide +kernel
theorem dL_doneTime_0 : decode cL_doneTime 0 = .ok (.aload_n 2, 1) := by decide +kernel
theorem dL_doneTime_1 : decode cL_doneTime 1 = .ok (.iconst 0, 1) := by decide +kernel
theorem dL_doneTime_2 : decode cL_doneTime 2 = .ok (.aload_n 0, 1) := by decide +kernel
theorem dL_doneTime_3 : decode cL_doneTime 3 = .ok (.iload_n 1, 1) := by decide +kernel
theorem dL_doneTime_4 : decode cL_doneTime 4 = .ok (.invokevirtual 122, 3) := by decide +kernel
theorem dL_doneTime_7 : decode cL_doneTime 7 = .ok (.i2l, 1) := by decide +kernel
theorem dL_doneTime_8 : decode cL_doneTime 8 = .ok (.lastore, 1) := by decide +kernel
theorem dL_doneTime_9 : decode cL_doneTime 9 = .ok (.goto 6, 3) := by decide +kernel
theorem dL_doneTime_12 : decode cL_doneTime 12 = .ok (.astore_n 3, 1) := by decide +kernel
theorem dL_doneTime_13 : decode cL_doneTime 13 = .ok (.iconst 1, 1) := by decide +kernel
theorem dL_doneTime_14 : decode cL_doneTime 14 = .ok (.ireturn, 1) := by decide +kernel
theorem dL_doneTime_15 : decode cL_doneTime 15 = .ok (.iconst 0, 1) := by decide +kernel
theorem dL_doneTime_16 : decode cL_doneTime 16 = .ok (.ireturn, 1) := by decide +kernel
theorem dL_wheelByWear_0 : decode cL_wheelByWear 0 = .ok (.aload_n 2, 1) := by decide +kernel
theorem dL_wheelByWear_1 : decode cL_wheelByWear 1 = .ok (.iconst 0, 1) := by decide +kernel
theorem dL_wheelByWear_2 : decode cL_wheelByWear 2 = .ok (.aload_n 0, 1) := by decide +kernel
theorem dL_wheelByWear_3 : decode cL_wheelByWear 3 = .ok (.iload_n 1, 1) := by decide +kernel
theorem dL_wheelByWear_4 : decode cL_wheelByWear 4 = .ok (.invokevirtual 125, 3) := by decide +kernel
theorem dL_wheelByWear_7 : decode cL_wheelByWear 7 = .ok (.i2l, 1) := by decide +kernel
theorem dL_wheelByWear_8 : decode cL_wheelByWear 8 = .ok (.lastore, 1) := by decide +kernel
theorem dL_wheelByWear_9 : decode cL_wheelByWear 9 = .ok (.goto 6, 3) := by decide +kernel
theorem dL_wheelByWear_12 : decode cL_wheelByWear 12 = .ok (.astore_n 3, 1) := by decide +kernel
theorem dL_wheelByWear_13 : decode cL_wheelByWear 13 = .ok (.iconst 1, 1) := by decide +kernel
theorem dL_wheelByWear_14 : decode cL_wheelByWear 14 = .ok (.ireturn, 1) := by decide +kernel
theorem dL_wheelByWear_15 : decode cL_wheelByWear 15 = .ok (.iconst 0, 1) := by decide +kernel
theorem dL_wheelByWear_16 : decode cL_wheelByWear 16 = .ok (.ireturn, 1) := by decide +kernel
theorem dL_bandByGrains_0 : decode cL_bandByGrains 0 = .ok (.aload_n 2, 1) := by decide +kernel
theorem dL_bandByGrains_1 : decode cL_bandByGrains 1 = .ok (.iconst 0, 1) := by decide +kernel
theorem dL_bandByGrains_2 : decode cL_bandByGrains 2 = .ok (.aload_n 0, 1) := by decide +kernel
theorem dL_bandByGrains_3 : decode cL_bandByGrains 3 = .ok (.iload_n 1, 1) := by decide +kernel
theorem dL_bandByGrains_4 : decode cL_bandByGrains 4 = .ok (.invokevirtual 128, 3) := by decide +kernel
theorem dL_bandByGrains_7 : decode cL_bandByGrains 7 = .ok (.i2l, 1) := by decide +kernel
theorem dL_bandByGrains_8 : decode cL_bandByGrains 8 = .ok (.lastore, 1) := by decide +kernel
theorem dL_bandByGrains_9 : decode cL_bandByGrains 9 = .ok (.goto 6, 3) := by decide +kernel
theorem dL_bandByGrains_12 : decode cL_bandByGrains 12 = .ok (.astore_n 3, 1) := by decide +kernel
theorem dL_bandByGrains_13 : decode cL_bandByGrains 13 = .ok (.iconst 1, 1) := by decide +kernel
theorem dL_bandByGrains_14 : decode cL_bandByGrains 14 = .ok (.ireturn, 1) := by decide +kernel
theorem dL_bandByGrains_15 : decode cL_bandByGrains 15 = .ok (.iconst 0, 1) := by decide +kernel
theorem dL_bandByGrains_16 : decode cL_bandByGrains 16 = .ok (.ireturn, 1) := by decide +kernel
theorem dL_meanLoudness_0 : decode cL_meanLoudness 0 = .ok (.aload_n 1, 1) := by decide +kernel
theorem dL_meanLoudness_1 : decode cL_meanLoudness 1 = .ok (.iconst 0, 1) := by decide +kernel
theorem dL_meanLoudness_2 : decode cL_meanLoudness 2 = .ok (.aload_n 0, 1) := by decide +kernel
theorem dL_meanLoudness_3 : decode cL_meanLoudness 3 = .ok (.invokevirtual 131, 3) := by decide +kernel
theorem dL_meanLoudness_6 : decode cL_meanLoudness 6 = .ok (.dastore, 1) := by decide +kernel
theorem dL_meanLoudness_7 : decode cL_meanLoudness 7 = .ok (.goto 6, 3) := by decide +kernel
theorem dL_meanLoudness_10 : decode cL_meanLoudness 10 = .ok (.astore_n 2, 1) := by decide +kernel
theorem dL_meanLoudness_11 : decode cL_meanLoudness 11 = .ok (.iconst 1, 1) := by decide +kernel
theorem dL_meanLoudness_12 : decode cL_meanLoudness 12 = .ok (.ireturn, 1) := by decide +kernel
theorem dL_meanLoudness_13 : decode cL_meanLoudness 13 = .ok (.iconst 0, 1) := by decide +kernel
theorem dL_meanLoudness_14 : decode cL_meanLoudness 14 = .ok (.ireturn, 1) := by decide +kernel
theorem dL_lostShare_0 : decode cL_lostShare 0 = .ok (.aload_n 1, 1) := by decide +kernel
theorem dL_lostShare_1 : decode cL_lostShare 1 = .ok (.iconst 0, 1) := by decide +kernel
theorem dL_lostShare_2 : decode cL_lostShare 2 = .ok (.aload_n 0, 1) := by decide +kernel
theorem dL_lostShare_3 : decode cL_lostShare 3 = .ok (.invokevirtual 137, 3) := by decide +kernel
theorem dL_lostShare_6 : decode cL_lostShare 6 = .ok (.f2d, 1) := by decide +kernel
theorem dL_lostShare_7 : decode cL_lostShare 7 = .ok (.dastore, 1) := by decide +kernel
theorem dL_lostShare_8 : decode cL_lostShare 8 = .ok (.goto 6, 3) := by decide +kernel
theorem dL_lostShare_11 : decode cL_lostShare 11 = .ok (.astore_n 2, 1) := by decide +kernel
theorem dL_lostShare_12 : decode cL_lostShare 12 = .ok (.iconst 1, 1) := by decide +kernel
theorem dL_lostShare_13 : decode cL_lostShare 13 = .ok (.ireturn, 1) := by decide +kernel
theorem dL_lostShare_14 : decode cL_lostShare 14 = .ok (.iconst 0, 1) := by decide +kernel
theorem dL_lostShare_15 : decode cL_lostShare 15 = .ok (.ireturn, 1) := by decide +kernel
theorem dL_renderWheel_0 : decode cL_renderWheel 0 = .ok (.aload_n 2, 1) := by decide +kernel
theorem dL_renderWheel_1 : decode cL_renderWheel 1 = .ok (.iconst 0, 1) := by decide +kernel
theorem dL_renderWheel_2 : decode cL_renderWheel 2 = .ok (.aload_n 0, 1) := by decide +kernel
theorem dL_renderWheel_3 : decode cL_renderWheel 3 = .ok (.iload_n 1, 1) := by decide +kernel
theorem dL_renderWheel_4 : decode cL_renderWheel 4 = .ok (.invokevirtual 141, 3) := by decide +kernel
theorem dL_renderWheel_7 : decode cL_renderWheel 7 = .ok (.i2l, 1) := by decide +kernel
theorem dL_renderWheel_8 : decode cL_renderWheel 8 = .ok (.lastore, 1) := by decide +kernel
theorem dL_renderWheel_9 : decode cL_renderWheel 9 = .ok (.goto 6, 3) := by decide +kernel
theorem dL_renderWheel_12 : decode cL_renderWheel 12 = .ok (.astore_n 3, 1) := by decide +kernel
theorem dL_renderWheel_13 : decode cL_renderWheel 13 = .ok (.iconst 1, 1) := by decide +kernel
theorem dL_renderWheel_14 : decode cL_renderWheel 14 = .ok (.ireturn, 1) := by decide +kernel
theorem dL_renderWheel_15 : decode cL_renderWheel 15 = .ok (.iconst 0, 1) := by decide +kernel
theorem dL_renderWheel_16 : decode cL_renderWheel 16 = .ok (.ireturn, 1) := by decide +kernel
theorem dL_outputAt_0 : decode cL_outputAt 0 = .ok (.aload_n 2, 1) := by decide +kernel
theorem dL_outputAt_1 : decode cL_outputAt 1 = .ok (.iconst 0, 1) := by decide +kernel
theorem dL_outputAt_2 : decode cL_outputAt 2 = .ok (.aload_n 0, 1) := by decide +kernel
theorem dL_outputAt_3 : decode cL_outputAt 3 = .ok (.iload_n 1, 1) := by decide +kernel
theorem dL_outputAt_4 : decode cL_outputAt 4 = .ok (.invokevirtual 144, 3) := by decide +kernel
theorem dL_outputAt_7 : decode cL_outputAt 7 = .ok (.i2l, 1) := by decide +kernel
theorem dL_outputAt_8 : decode cL_outputAt 8 = .ok (.lastore, 1) := by decide +kernel
theorem dL_outputAt_9 : decode cL_outputAt 9 = .ok (.goto 6, 3) := by decide +kernel
theorem dL_outputAt_12 : decode cL_outputAt 12 = .ok (.astore_n 3, 1) := by decide +kernel
theorem dL_outputAt_13 : decode cL_outputAt 13 = .ok (.iconst 1, 1) := by decide +kernel
theorem dL_outputAt_14 : decode cL_outputAt 14 = .ok (.ireturn, 1) := by decide +kernel
theorem dL_outputAt_15 : decode cL_outputAt 15 = .ok (.iconst 0, 1) := by decide +kernel
theorem dL_outputAt_16 : decode cL_outputAt 16 = .ok (.ireturn, 1) := by decide +kernel
theorem dL_type_0 : decode cL_type 0 = .ok (.aload_n 2, 1) := by decide +kernel
theorem dL_type_1 : decode cL_type 1 = .ok (.iconst 0, 1) := by decide +kernel
theorem dL_type_2 : decode cL_type 2 = .ok (.aload_n 0, 1) := by decide +kernel
theorem dL_type_3 : decode cL_type 3 = .ok (.iload_n 1, 1) := by decide +kernel
theorem dL_type_4 : decode cL_type 4 = .ok (.invokevirtual 148, 3) := by decide +kernel
theorem dL_type_7 : decode cL_type 7 = .ok (.i2l, 1) := by decide +kernel
theorem dL_type_8 : decode cL_type 8 = .ok (.lastore, 1) := by decide +kernel
theorem dL_type_9 : decode cL_type 9 = .ok (.goto 9, 3) := by decide +kernel
theorem dL_type_12 : decode cL_type 12 = .ok (.astore_n 3, 1) := by decide +kernel
theorem dL_type_13 : decode cL_type 13 = .ok (.iconst 1, 1) := by decide +kernel
theorem dL_type_14 : decode cL_type 14 = .ok (.ireturn, 1) := by decide +kernel
theorem dL_type_15 : decode cL_type 15 = .ok (.astore_n 3, 1) := by decide +kernel
theorem dL_type_16 : decode cL_type 16 = .ok (.iconst 2, 1) := by decide +kernel
theorem dL_type_17 : decode cL_type 17 = .ok (.ireturn, 1) := by decide +kernel
theorem dL_type_18 : decode cL_type 18 = .ok (.iconst 0, 1) := by decide +kernel
theorem dL_type_19 : decode cL_type 19 = .ok (.ireturn, 1) := by decide +kernel
theorem dL_runScript_0 : decode cL_runScript 0 = .ok (.aload_n 1, 1) := by decide +kernel
theorem dL_runScript_1 : decode cL_runScript 1 = .ok (.iconst 0, 1) := by decide +kernel
theorem dL_runScript_2 : decode cL_runScript 2 = .ok (.aload_n 0, 1) := by decide +kernel
theorem dL_runScript_3 : decode cL_runScript 3 = .ok (.invokevirtual 152, 3) := by decide +kernel
theorem dL_runScript_6 : decode cL_runScript 6 = .ok (.i2l, 1) := by decide +kernel
theorem dL_runScript_7 : decode cL_runScript 7 = .ok (.lastore, 1) := by decide +kernel
theorem dL_runScript_8 : decode cL_runScript 8 = .ok (.goto 9, 3) := by decide +kernel
theorem dL_runScript_11 : decode cL_runScript 11 = .ok (.astore_n 2, 1) := by decide +kernel
theorem dL_runScript_12 : decode cL_runScript 12 = .ok (.iconst 1, 1) := by decide +kernel
theorem dL_runScript_13 : decode cL_runScript 13 = .ok (.ireturn, 1) := by decide +kernel
theorem dL_runScript_14 : decode cL_runScript 14 = .ok (.astore_n 2, 1) := by decide +kernel
theorem dL_runScript_15 : decode cL_runScript 15 = .ok (.iconst 2, 1) := by decide +kernel
theorem dL_runScript_16 : decode cL_runScript 16 = .ok (.ireturn, 1) := by decide +kernel
theorem dL_runScript_17 : decode cL_runScript 17 = .ok (.iconst 0, 1) := by decide +kernel
theorem dL_runScript_18 : decode cL_runScript 18 = .ok (.ireturn, 1) := by decide +kernel
theorem dL_errorPosition_0 : decode cL_errorPosition 0 = .ok (.aload_n 1, 1) := by decide +kernel
theorem dL_errorPosition_1 : decode cL_errorPosition 1 = .ok (.iconst 0, 1) := by decide +kernel
theorem dL_errorPosition_2 : decode cL_errorPosition 2 = .ok (.aload_n 0, 1) := by decide +kernel
theorem dL_errorPosition_3 : decode cL_errorPosition 3 = .ok (.invokevirtual 156, 3) := by decide +kernel
theorem dL_errorPosition_6 : decode cL_errorPosition 6 = .ok (.i2l, 1) := by decide +kernel
theorem dL_errorPosition_7 : decode cL_errorPosition 7 = .ok (.lastore, 1) := by decide +kernel
theorem dL_errorPosition_8 : decode cL_errorPosition 8 = .ok (.goto 6, 3) := by decide +kernel
theorem dL_errorPosition_11 : decode cL_errorPosition 11 = .ok (.astore_n 2, 1) := by decide +kernel
theorem dL_errorPosition_12 : decode cL_errorPosition 12 = .ok (.iconst 1, 1) := by decide +kernel
theorem dL_errorPosition_13 : decode cL_errorPosition 13 = .ok (.ireturn, 1) := by decide +kernel
theorem dL_errorPosition_14 : decode cL_errorPosition 14 = .ok (.iconst 0, 1) := by decide +kernel
theorem dL_errorPosition_15 : decode cL_errorPosition 15 = .ok (.ireturn, 1) := by decide +kernel
theorem dL_failedCommand_0 : decode cL_failedCommand 0 = .ok (.aload_n 1, 1) := by decide +kernel
theorem dL_failedCommand_1 : decode cL_failedCommand 1 = .ok (.iconst 0, 1) := by decide +kernel
theorem dL_failedCommand_2 : decode cL_failedCommand 2 = .ok (.aload_n 0, 1) := by decide +kernel
theorem dL_failedCommand_3 : decode cL_failedCommand 3 = .ok (.invokevirtual 159, 3) := by decide +kernel
theorem dL_failedCommand_6 : decode cL_failedCommand 6 = .ok (.i2l, 1) := by decide +kernel
theorem dL_failedCommand_7 : decode cL_failedCommand 7 = .ok (.lastore, 1) := by decide +kernel
theorem dL_failedCommand_8 : decode cL_failedCommand 8 = .ok (.goto 6, 3) := by decide +kernel
theorem dL_failedCommand_11 : decode cL_failedCommand 11 = .ok (.astore_n 2, 1) := by decide +kernel
theorem dL_failedCommand_12 : decode cL_failedCommand 12 = .ok (.iconst 1, 1) := by decide +kernel
theorem dL_failedCommand_13 : decode cL_failedCommand 13 = .ok (.ireturn, 1) := by decide +kernel
theorem dL_failedCommand_14 : decode cL_failedCommand 14 = .ok (.iconst 0, 1) := by decide +kernel
theorem dL_failedCommand_15 : decode cL_failedCommand 15 = .ok (.ireturn, 1) := by decide +kernel
theorem dL_undo_0 : decode cL_undo 0 = .ok (.aload_n 1, 1) := by decide +kernel
theorem dL_undo_1 : decode cL_undo 1 = .ok (.iconst 0, 1) := by decide +kernel
theorem dL_undo_2 : decode cL_undo 2 = .ok (.aload_n 0, 1) := by decide +kernel
theorem dL_undo_3 : decode cL_undo 3 = .ok (.invokevirtual 162, 3) := by decide +kernel
theorem dL_undo_6 : decode cL_undo 6 = .ok (.i2l, 1) := by decide +kernel
theorem dL_undo_7 : decode cL_undo 7 = .ok (.lastore, 1) := by decide +kernel
theorem dL_undo_8 : decode cL_undo 8 = .ok (.goto 6, 3) := by decide +kernel
theorem dL_undo_11 : decode cL_undo 11 = .ok (.astore_n 2, 1) := by decide +kernel
theorem dL_undo_12 : decode cL_undo 12 = .ok (.iconst 1, 1) := by decide +kernel
theorem dL_undo_13 : decode cL_undo 13 = .ok (.ireturn, 1) := by decide +kernel
theorem dL_undo_14 : decode cL_undo 14 = .ok (.iconst 0, 1) := by decide +kernel
theorem dL_undo_15 : decode cL_undo 15 = .ok (.ireturn, 1) := by decide +kernel
theorem dL_restore_0 : decode cL_restore 0 = .ok (.aload_n 1, 1) := by decide +kernel
theorem dL_restore_1 : decode cL_restore 1 = .ok (.iconst 0, 1) := by decide +kernel
theorem dL_restore_2 : decode cL_restore 2 = .ok (.aload_n 0, 1) := by decide +kernel
theorem dL_restore_3 : decode cL_restore 3 = .ok (.invokevirtual 165, 3) := by decide +kernel
theorem dL_restore_6 : decode cL_restore 6 = .ok (.i2l, 1) := by decide +kernel
theorem dL_restore_7 : decode cL_restore 7 = .ok (.lastore, 1) := by decide +kernel
theorem dL_restore_8 : decode cL_restore 8 = .ok (.goto 6, 3) := by decide +kernel
theorem dL_restore_11 : decode cL_restore 11 = .ok (.astore_n 2, 1) := by decide +kernel
theorem dL_restore_12 : decode cL_restore 12 = .ok (.iconst 1, 1) := by decide +kernel
theorem dL_restore_13 : decode cL_restore 13 = .ok (.ireturn, 1) := by decide +kernel
theorem dL_restore_14 : decode cL_restore 14 = .ok (.iconst 0, 1) := by decide +kernel
theorem dL_restore_15 : decode cL_restore 15 = .ok (.ireturn, 1) := by decide +kernel
-- ===== the law's rows: a frame's first cell is the row 'out' =====
abbrev ocL (cA : Nat → ClassId) (ao : Nat) (g : Nat → Int64) : Nat × va_E := (ao, .inl (cA 6, 1, .inr (.inl g)))
abbrev ocD (cA : Nat → ClassId) (ao : Nat) (g : Nat → UInt64) : Nat × va_E := (ao, .inl (cA 7, 1, .inr (.inr (.inr (.inl g)))))
theorem gwd_fr {N : Nat} {sh : Nat → Sh} {cA : Nat → ClassId} {ad a : Nat → Nat} {x : Nat × va_E} {fr : va_W} {σ : St} : (gwd N sh cA ad a (x :: fr) σ)[N]? = some x := by
  unfold gwd
  rw [List.getElem?_append_right (by simp)]
  simp
theorem gwd_frs {N : Nat} {sh : Nat → Sh} {cA : Nat → ClassId} {ad a : Nat → Nat} {x y : Nat × va_E} {fr : va_W} {σ : St} : (gwd N sh cA ad a (x :: fr) σ).set N y = gwd N sh cA ad a (y :: fr) σ := by
  unfold gwd
  rw [List.set_append_right _ _ (by simp)]
  simp
/-- the code that a wrapper answers: 0, or the place of the exception among those that it catches -/
def hix (L : List Nat) (c : Nat) : Int32 := if c = 0 then 0 else nI (L.idxOf c + 1)
abbrev RML (d : Nat) : Room := { frames := d, cells := 2, slots := 12, locals := 40 * d }
def gQl {α : Type} (D : va_G) (tys : List (ClassId × FieldType)) (A : Nat → Prop) (wd : St × (Nat → α) → va_W) (r : Int32) (u' : St × (Nat → α)) : Array Value → State → Outcome → State → Prop :=
  va_Qi (fun r1 u => r1 = r ∧ u = u') (fun u t => va_P D vwCl (wd u) t.heap ∧ va_K D vwCl tys t ∧ va_D A (wd u)) A
def gMetL (l : Launch) (y : MethodName) (cc : ByteArray) (maxL : Nat) (ret : Option FieldType) (hh : List (Nat × Nat × Nat × Nat)) (d : Nat) (D : va_G) (tys : List (ClassId × FieldType)) (ST : gST) (ws : va_W) (av : List Value) (Qk : (Nat → Prop) → Array Value → State → Outcome → State → Prop) : Prop :=
  ∀ sz : Nat, Met l y (.codeWith y cc maxL ret hh :: BIG) (RML d) (gPre D tys ST ws sz av) (Qk (va_A ws sz)) 2 12 (va_A ws sz)
theorem g_ofWL {l : Launch} {y : MethodName} {cc : ByteArray} {maxL d : Nat} {ret : Option FieldType} {hh : List (Nat × Nat × Nat × Nat)} {D : va_G} {tys : List (ClassId × FieldType)} {ST : gST} {ws : va_W} {av : List Value} {Qk : (Nat → Prop) → Array Value → State → Outcome → State → Prop} (hT : STok ST) (hy : plainName y.cls = true) (hav : (lg_sl av).length ≤ maxL)
    (body : ∀ p e s m args below meth c ls A, GC p s m args meth c cc maxL y.cls ret A D tys ST → c.exceptionTable.toList = tableOf hh → va_P D vwCl ws s.heap → va_D A ws → lv_has ls maxL (lv_args 0 av) → W p l e (RML d) s m args below meth c s.heap [] 0 0 (MQ below (Qk A) args s 2 12 A) (F0 m 0 ls [])) : gMetL l y cc maxL ret hh d D tys ST ws av Qk := by
  intro sz
  refine va_MetW (cc := cc) (maxL := maxL) (ret := ret) (hh := hh) hy rfl ?_
  intro p e s m args below meth c s₁ B hml hv
  obtain ⟨rfl, hsz, hP, hK, hD0, hN, hX⟩ := hv
  subst hsz
  have hts0 := atoms_spec (ws := .codeWith y cc maxL ret hh :: BIG) B.pre
  have htab := vx_table (x := y) B (hts0 _ List.mem_cons_self)
  rw [lg_entry_eq]
  exact body p e s m av.toArray below meth c _ _ ⟨B.exec, B.bytes, hml, findClass_of_methodNamed B.named, fun w h => hts0 w (List.mem_cons_of_mem _ h), B.returns, B.notSynchronized, fun q h => Or.inr h, hK, hN, hX, hT⟩ htab hP hD0.self (lv_entry av hav)
/-- classes that are not each other's: none of these exceptions is caught as another -/
def NCL : List (String × String) := [("java/lang/IllegalArgumentException", "java/lang/IndexOutOfBoundsException"), ("java/lang/IllegalStateException", "java/lang/IllegalArgumentException"), ("java/lang/IllegalStateException", "java/lang/IndexOutOfBoundsException"), ("java/lang/IllegalStateException", "java/util/NoSuchElementException"), ("java/lang/UnsupportedOperationException", "java/lang/IllegalArgumentException"), ("java/util/NoSuchElementException", "java/lang/IndexOutOfBoundsException")]
def STN (ST : gST) : Prop := ∀ (A : Nat → Prop) (U : State), ST A U → ∀ q ∈ NCL, va_Nc q.1 q.2 U
section L13
variable {p : Program} {l : Launch} {e : Env} {R : Room} {s : State} {m : MethodId} {args : Array Value} {below : List Frame} {meth : Method} {c : Code} {H : Heap} {locs : List Loc} {cells slots : Nat} {Q : State → Prop}
variable {cc : ByteArray} {maxL : Nat} {ret : Option FieldType} {pc : Nat} {ls : Array Slot} {rest : List Value} {D : va_G} {A : Nat → Prop} {cA : Nat → ClassId} {ad a : Nat → Nat} {fr : va_W} {σ : St}
variable {ST : gST} {own : String} {N : Nat} {sh : Nat → Sh} {tys : List (ClassId × FieldType)} {ao : Nat}
theorem gl_last {i : Int32} {x : Int64} {g : Nat → Int64} (hi0 : i = 0) (G : GC p s m args meth c cc maxL own ret A D (TYS cA) ST) (hP : va_P D vwCl (gwd N sh cA ad a (ocL cA ao g :: fr) σ) H) (hD : va_D A (gwd N sh cA ad a (ocL cA ao g :: fr) σ)) (hS : va_S A s.heap H locs) (hdg : decode cc pc = .ok (.lastore, 1))
    (kk : ∀ (H1 : Heap) (locs1 : List Loc), va_P D vwCl (gwd N sh cA ad a (ocL cA ao (vp_updL g 0 x) :: fr) σ) H1 → va_D A (gwd N sh cA ad a (ocL cA ao (vp_updL g 0 x) :: fr) σ) → va_S A s.heap H1 locs1 → W p l e R s m args below meth c H1 locs1 cells slots Q (F0 m (pc + 1) ls rest)) : W p l e R s m args below meth c H locs cells slots Q (F0 m pc ls (.long x :: .int i :: .ref ao :: rest)) := by
  subst hi0
  refine va_last G.1 G.2.1 G.2.2.2.2.2.2.2.2.1 hP hD hS N 6 gwd_fr rfl (by unfold vp_in; decide) hdg (fun H1 locs1 hP1 hD1 hS1 => ?_)
  rw [gwd_frs] at hP1 hD1
  exact kk H1 locs1 hP1 hD1 hS1
theorem gl_dast {i : Int32} {x : UInt64} {g : Nat → UInt64} (hi0 : i = 0) (G : GC p s m args meth c cc maxL own ret A D (TYS cA) ST) (hP : va_P D vwCl (gwd N sh cA ad a (ocD cA ao g :: fr) σ) H) (hD : va_D A (gwd N sh cA ad a (ocD cA ao g :: fr) σ)) (hS : va_S A s.heap H locs) (hdg : decode cc pc = .ok (.dastore, 1))
    (kk : ∀ (H1 : Heap) (locs1 : List Loc), va_P D vwCl (gwd N sh cA ad a (ocD cA ao (fun j => if j = 0 then x else g j) :: fr) σ) H1 → va_D A (gwd N sh cA ad a (ocD cA ao (fun j => if j = 0 then x else g j) :: fr) σ) → va_S A s.heap H1 locs1 → W p l e R s m args below meth c H1 locs1 cells slots Q (F0 m (pc + 1) ls rest)) : W p l e R s m args below meth c H locs cells slots Q (F0 m pc ls (.double x :: .int i :: .ref ao :: rest)) := by
  subst hi0
  refine va_dast G.1 G.2.1 G.2.2.2.2.2.2.2.2.1 hP hD hS N 7 gwd_fr rfl (by unfold vp_in; decide) hdg (fun H1 locs1 hP1 hD1 hS1 => ?_)
  rw [gwd_frs] at hP1 hD1
  exact kk H1 locs1 hP1 hD1 hS1
theorem gl_ret {α : Type} {wd : St × (Nat → α) → va_W} {v r : Int32} {u u' : St × (Nat → α)} (G : GC p s m args meth c cc maxL own (some .int) A D tys ST) (hP : va_P D vwCl (wd u) H) (hD : va_D A (wd u)) (hS : va_S A s.heap H locs) (hr9 : v = r) (hu : u = u') (hc : cells ≤ 2 ∧ slots ≤ 12) (hdg : decode cc pc = .ok (.ireturn, 1)) : W p l e R s m args below meth c H locs cells slots (MQ below (gQl D tys A wd r u') args s 2 12 A) (F0 m pc ls [.int v]) := by
  subst hr9
  subst hu
  obtain ⟨hx, hb, hml, hown, hts, hr, hlocks, hA, hK, hN, hX, hT⟩ := G
  refine W.widen (k := 2) (n := 12) hc.1 hc.2 ?_
  exact W.iret hx hb hr (fun t ht hW => ⟨⟨v, u, rfl, ⟨rfl, rfl⟩, by rw [ht]; exact hP, va_K.moved hW.alike hK, hD⟩, hS.F ht⟩) hS.2.2 hdg
/-- an exception of class xcls c1 comes to the handler of that class -/
theorem gl_catch {E : String} {ce : Cell} {q : Addr} {hh : List (Nat × Nat × Nat × Nat)} (hSN : STN ST) (hSX : STX ST) (G : GC p s m args meth c cc maxL own ret A D tys ST) (htab : c.exceptionTable.toList = tableOf hh) (j : Nat) {st en hp ct : Nat} (pre : List (Nat × Nat × Nat × Nat)) (suf : List (Nat × Nat × Nat × Nat)) (hhs : hh = pre ++ (st, en, hp, ct) :: suf)
    (hpass : ∀ z ∈ pre, z.2.2.2 ≠ 0 ∧ ∃ nm : String, Cond.classLink own z.2.2.2 nm ∈ BIG ∧ (E, nm) ∈ NCL) (hcov : covers ⟨st, en, hp, ct⟩ pc = true) (h0 : ct ≠ 0) (hlink : Cond.classLink own ct E ∈ BIG) (hcast : Cond.castable E E ∈ XL) (hcell : H[q]? = some ce) (hv : ce.vm = .none) (hcl : s.vm.findClass E = some ce.cls)
    (kk : W p l e R s m args below meth c H locs cells slots Q (F0 m hp ls [.ref q])) : vx_W p l e R s m args below meth c H locs cells slots Q (F0 m pc ls rest) q := by
  subst hhs
  obtain ⟨hx, hb, hml, hown, hts, hr, hlocks, hA, hK, hN, hX, hT⟩ := G
  refine vx_catch hown (tableOf pre) ⟨st, en, hp, ct⟩ (tableOf suf) (by rw [htab]; simp [tableOf]) (fun z hz => ?_) hcov h0 (hts _ hlink) (nw_use rfl ((hSX _ _ hX).1 _ hcast)) hcell hv hcl kk
  obtain ⟨y, hy, rfl⟩ := List.mem_map.mp hz
  obtain ⟨h1, nm, h2, h3⟩ := hpass y hy
  exact Or.inr ⟨h1, nm, hts _ h2, hSN _ _ hX _ h3⟩
theorem gl_callVi {n1 c1 : Nat} {d1 : Nat} {y : MethodName} {bytes : ByteArray} {n nA index ci : Nat} {ret' : Option FieldType} {C : String} {T : u_T} {M : Nat} {sl : List Nat} {σ1 : St} {r : Int32} {As st0 : List Value} {k : Nat} (hM : gMetX l y bytes n ret' n1 d1 D tys ST (gwd N sh cA ad a fr σ) (.ref (a k) :: As) (fun A => gQxi D tys A (gwd N sh cA ad a fr) c1 r σ1) (fun A => gXC D tys A (gwd N sh cA ad a fr) c1 σ1)) (G : GC p s m args meth c cc maxL own ret A D tys ST) (hP : va_P D vwCl (gwd N sh cA ad a fr σ) H) (hD : va_D A (gwd N sh cA ad a fr σ)) (hS : va_S A s.heap H locs)
    (hg : GoodIn BIG (wsV own index C y (.code y bytes n ret' :: BIG))) (hd : y.cls = C ∧ y.cls ≠ "java/lang/invoke/MethodHandle" ∧ y.cls ≠ "java/lang/invoke/VarHandle" ∧ (parseMethodDescriptor y.desc).map (fun d => d.parameters.length) = some nA) (hr : d1 + 1 ≤ R.frames ∧ 19 + n + 40 * d1 ≤ R.locals ∧ cells + n1 ≤ R.cells ∧ slots + 6 * n1 ≤ R.slots) (hk : k < N) (hs : sh k = .inl (ci, sl)) (hc : vwCl[ci]? = some (C, T, M)) (hn : As.length = nA) (hls : ls.size = maxL) (rest : List Value) (hst : st0 = As.reverse ++ .ref (a k) :: rest) (hcat : (rest.map fun v => v.category).sum ≤ 8) (hdg : decode cc pc = .ok (.invokevirtual index, 3))
    (kx : c1 ≠ 0 → ∀ (ce : Cell) (q9 : Addr) (H1 : Heap) (locs1 : List Loc), va_P D vwCl (gwd N sh cA ad a fr σ1) H1 → va_D A (gwd N sh cA ad a fr σ1) → va_S A s.heap H1 locs1 → H1[q9]? = some ce → ce.vm = .none → s.vm.findClass (xcls c1) = some ce.cls → vx_W p l e R s m args below meth c H1 locs1 (cells + n1) (slots + 6 * n1) Q (F0 m pc ls rest) q9)
    (kk : c1 = 0 → ∀ (H1 : Heap) (locs1 : List Loc), va_P D vwCl (gwd N sh cA ad a fr σ1) H1 → va_D A (gwd N sh cA ad a fr σ1) → va_S A s.heap H1 locs1 → W p l e R s m args below meth c H1 locs1 (cells + n1) (slots + 6 * n1) Q (F0 m (pc + 3) ls (.int r :: rest))) : W p l e R s m args below meth c H locs cells slots Q (F0 m pc ls st0) := by
  obtain ⟨hx, hb, hml, hown, hts, -, hlocks, hA, hK, hN, hX, hT⟩ := G
  have hF := g_free hD hS hA
  refine vx_calli (vx_runV (As := As) (rest := rest) ⟨hx, hb, hml, hown, hts⟩ (hM H.size) (cwV nA hts hg rfl rfl rfl hd ⟨by show d1 + 1 ≤ R.frames; exact hr.1, by show 8 + (n + 11) + 40 * d1 ≤ R.locals; omega⟩) ⟨gPre_blind hT, va_recv hK hP hc (gwd_get hk hs), fun U hU hW => ⟨rfl, by rw [hU], by rw [hU]; exact hP, va_K.moved hW.alike hK, hD.weaken (fun _ _ _ _ => trivial), hN.warm hW, hT.2 _ _ _ _ _ _ hX hS hU hW hF⟩⟩ rfl hn hls hst (lv_room hcat) hdg ⟨hr.2.2.1, hr.2.2.2⟩) hS (fun q _ h => hF q h) hF (fun q _ h => hF q h) (fun E9 ce q9 u9 t H1 locs1 ht hvm hp hB hz1 hk1 hS1 hce hcv hcl => ?_) (fun r9 u9 t H1 locs1 ht hvm hw hB hz1 hk1 hS1 => ?_)
  · obtain ⟨hc0, rfl⟩ := hp
    obtain ⟨rfl, hP1, hK1, hD1⟩ := hB
    rw [ht] at hP1
    exact kx hc0 ce q9 H1 locs1 hP1 (hD1.weaken (fun _ q _ h => hF q.1 h)) hS1 hce hcv hcl
  · obtain ⟨⟨hc0, rfl⟩, rfl⟩ := hw
    obtain ⟨hP1, hK1, hD1⟩ := hB
    rw [ht] at hP1
    exact kk hc0 H1 locs1 hP1 (hD1.weaken (fun _ q _ h => hF q.1 h)) hS1

theorem gl_callVd {n1 c1 : Nat} {d1 : Nat} {y : MethodName} {bytes : ByteArray} {n nA index ci : Nat} {ret' : Option FieldType} {C : String} {T : u_T} {M : Nat} {sl : List Nat} {σ1 : St} {r : UInt64} {As st0 : List Value} {k : Nat} (hM : gMetX l y bytes n ret' n1 d1 D tys ST (gwd N sh cA ad a fr σ) (.ref (a k) :: As) (fun A => gQxd D tys A (gwd N sh cA ad a fr) c1 r σ1) (fun A => gXC D tys A (gwd N sh cA ad a fr) c1 σ1)) (G : GC p s m args meth c cc maxL own ret A D tys ST) (hP : va_P D vwCl (gwd N sh cA ad a fr σ) H) (hD : va_D A (gwd N sh cA ad a fr σ)) (hS : va_S A s.heap H locs)
    (hg : GoodIn BIG (wsV own index C y (.code y bytes n ret' :: BIG))) (hd : y.cls = C ∧ y.cls ≠ "java/lang/invoke/MethodHandle" ∧ y.cls ≠ "java/lang/invoke/VarHandle" ∧ (parseMethodDescriptor y.desc).map (fun d => d.parameters.length) = some nA) (hr : d1 + 1 ≤ R.frames ∧ 19 + n + 40 * d1 ≤ R.locals ∧ cells + n1 ≤ R.cells ∧ slots + 6 * n1 ≤ R.slots) (hk : k < N) (hs : sh k = .inl (ci, sl)) (hc : vwCl[ci]? = some (C, T, M)) (hn : As.length = nA) (hls : ls.size = maxL) (rest : List Value) (hst : st0 = As.reverse ++ .ref (a k) :: rest) (hcat : (rest.map fun v => v.category).sum ≤ 8) (hdg : decode cc pc = .ok (.invokevirtual index, 3))
    (kx : c1 ≠ 0 → ∀ (ce : Cell) (q9 : Addr) (H1 : Heap) (locs1 : List Loc), va_P D vwCl (gwd N sh cA ad a fr σ1) H1 → va_D A (gwd N sh cA ad a fr σ1) → va_S A s.heap H1 locs1 → H1[q9]? = some ce → ce.vm = .none → s.vm.findClass (xcls c1) = some ce.cls → vx_W p l e R s m args below meth c H1 locs1 (cells + n1) (slots + 6 * n1) Q (F0 m pc ls rest) q9)
    (kk : c1 = 0 → ∀ (H1 : Heap) (locs1 : List Loc), va_P D vwCl (gwd N sh cA ad a fr σ1) H1 → va_D A (gwd N sh cA ad a fr σ1) → va_S A s.heap H1 locs1 → W p l e R s m args below meth c H1 locs1 (cells + n1) (slots + 6 * n1) Q (F0 m (pc + 3) ls (.double r :: rest))) : W p l e R s m args below meth c H locs cells slots Q (F0 m pc ls st0) := by
  obtain ⟨hx, hb, hml, hown, hts, -, hlocks, hA, hK, hN, hX, hT⟩ := G
  have hF := g_free hD hS hA
  refine vx_calld (vx_runV (As := As) (rest := rest) ⟨hx, hb, hml, hown, hts⟩ (hM H.size) (cwV nA hts hg rfl rfl rfl hd ⟨by show d1 + 1 ≤ R.frames; exact hr.1, by show 8 + (n + 11) + 40 * d1 ≤ R.locals; omega⟩) ⟨gPre_blind hT, va_recv hK hP hc (gwd_get hk hs), fun U hU hW => ⟨rfl, by rw [hU], by rw [hU]; exact hP, va_K.moved hW.alike hK, hD.weaken (fun _ _ _ _ => trivial), hN.warm hW, hT.2 _ _ _ _ _ _ hX hS hU hW hF⟩⟩ rfl hn hls hst (lv_room hcat) hdg ⟨hr.2.2.1, hr.2.2.2⟩) hS (fun q _ h => hF q h) hF (fun q _ h => hF q h) (fun E9 ce q9 u9 t H1 locs1 ht hvm hp hB hz1 hk1 hS1 hce hcv hcl => ?_) (fun r9 u9 t H1 locs1 ht hvm hw hB hz1 hk1 hS1 => ?_)
  · obtain ⟨hc0, rfl⟩ := hp
    obtain ⟨rfl, hP1, hK1, hD1⟩ := hB
    rw [ht] at hP1
    exact kx hc0 ce q9 H1 locs1 hP1 (hD1.weaken (fun _ q _ h => hF q.1 h)) hS1 hce hcv hcl
  · obtain ⟨⟨hc0, rfl⟩, rfl⟩ := hw
    obtain ⟨hP1, hK1, hD1⟩ := hB
    rw [ht] at hP1
    exact kk hc0 H1 locs1 hP1 (hD1.weaken (fun _ q _ h => hF q.1 h)) hS1

theorem gl_callVf {n1 c1 : Nat} {d1 : Nat} {y : MethodName} {bytes : ByteArray} {n nA index ci : Nat} {ret' : Option FieldType} {C : String} {T : u_T} {M : Nat} {sl : List Nat} {σ1 : St} {r : UInt32} {As st0 : List Value} {k : Nat} (hM : gMetX l y bytes n ret' n1 d1 D tys ST (gwd N sh cA ad a fr σ) (.ref (a k) :: As) (fun A => gQxf D tys A (gwd N sh cA ad a fr) c1 r σ1) (fun A => gXC D tys A (gwd N sh cA ad a fr) c1 σ1)) (G : GC p s m args meth c cc maxL own ret A D tys ST) (hP : va_P D vwCl (gwd N sh cA ad a fr σ) H) (hD : va_D A (gwd N sh cA ad a fr σ)) (hS : va_S A s.heap H locs)
    (hg : GoodIn BIG (wsV own index C y (.code y bytes n ret' :: BIG))) (hd : y.cls = C ∧ y.cls ≠ "java/lang/invoke/MethodHandle" ∧ y.cls ≠ "java/lang/invoke/VarHandle" ∧ (parseMethodDescriptor y.desc).map (fun d => d.parameters.length) = some nA) (hr : d1 + 1 ≤ R.frames ∧ 19 + n + 40 * d1 ≤ R.locals ∧ cells + n1 ≤ R.cells ∧ slots + 6 * n1 ≤ R.slots) (hk : k < N) (hs : sh k = .inl (ci, sl)) (hc : vwCl[ci]? = some (C, T, M)) (hn : As.length = nA) (hls : ls.size = maxL) (rest : List Value) (hst : st0 = As.reverse ++ .ref (a k) :: rest) (hcat : (rest.map fun v => v.category).sum ≤ 8) (hdg : decode cc pc = .ok (.invokevirtual index, 3))
    (kx : c1 ≠ 0 → ∀ (ce : Cell) (q9 : Addr) (H1 : Heap) (locs1 : List Loc), va_P D vwCl (gwd N sh cA ad a fr σ1) H1 → va_D A (gwd N sh cA ad a fr σ1) → va_S A s.heap H1 locs1 → H1[q9]? = some ce → ce.vm = .none → s.vm.findClass (xcls c1) = some ce.cls → vx_W p l e R s m args below meth c H1 locs1 (cells + n1) (slots + 6 * n1) Q (F0 m pc ls rest) q9)
    (kk : c1 = 0 → ∀ (H1 : Heap) (locs1 : List Loc), va_P D vwCl (gwd N sh cA ad a fr σ1) H1 → va_D A (gwd N sh cA ad a fr σ1) → va_S A s.heap H1 locs1 → W p l e R s m args below meth c H1 locs1 (cells + n1) (slots + 6 * n1) Q (F0 m (pc + 3) ls (.float r :: rest))) : W p l e R s m args below meth c H locs cells slots Q (F0 m pc ls st0) := by
  obtain ⟨hx, hb, hml, hown, hts, -, hlocks, hA, hK, hN, hX, hT⟩ := G
  have hF := g_free hD hS hA
  refine vx_callf (vx_runV (As := As) (rest := rest) ⟨hx, hb, hml, hown, hts⟩ (hM H.size) (cwV nA hts hg rfl rfl rfl hd ⟨by show d1 + 1 ≤ R.frames; exact hr.1, by show 8 + (n + 11) + 40 * d1 ≤ R.locals; omega⟩) ⟨gPre_blind hT, va_recv hK hP hc (gwd_get hk hs), fun U hU hW => ⟨rfl, by rw [hU], by rw [hU]; exact hP, va_K.moved hW.alike hK, hD.weaken (fun _ _ _ _ => trivial), hN.warm hW, hT.2 _ _ _ _ _ _ hX hS hU hW hF⟩⟩ rfl hn hls hst (lv_room hcat) hdg ⟨hr.2.2.1, hr.2.2.2⟩) hS (fun q _ h => hF q h) hF (fun q _ h => hF q h) (fun E9 ce q9 u9 t H1 locs1 ht hvm hp hB hz1 hk1 hS1 hce hcv hcl => ?_) (fun r9 u9 t H1 locs1 ht hvm hw hB hz1 hk1 hS1 => ?_)
  · obtain ⟨hc0, rfl⟩ := hp
    obtain ⟨rfl, hP1, hK1, hD1⟩ := hB
    rw [ht] at hP1
    exact kx hc0 ce q9 H1 locs1 hP1 (hD1.weaken (fun _ q _ h => hF q.1 h)) hS1 hce hcv hcl
  · obtain ⟨⟨hc0, rfl⟩, rfl⟩ := hw
    obtain ⟨hP1, hK1, hD1⟩ := hB
    rw [ht] at hP1
    exact kk hc0 H1 locs1 hP1 (hD1.weaken (fun _ q _ h => hF q.1 h)) hS1

end L13
theorem cs_1 : Cond.castable "java/lang/IllegalArgumentException" "java/lang/IllegalArgumentException" ∈ XL := by decide +kernel
theorem cs_2 : Cond.castable "java/lang/IndexOutOfBoundsException" "java/lang/IndexOutOfBoundsException" ∈ XL := by decide +kernel
theorem cs_3 : Cond.castable "java/util/NoSuchElementException" "java/util/NoSuchElementException" ∈ XL := by decide +kernel
theorem cs_4 : Cond.castable "java/lang/IllegalStateException" "java/lang/IllegalStateException" ∈ XL := by decide +kernel
theorem cs_5 : Cond.castable "java/lang/UnsupportedOperationException" "java/lang/UnsupportedOperationException" ∈ XL := by decide +kernel
theorem cs_6 : Cond.castable "java/lang/ArithmeticException" "java/lang/ArithmeticException" ∈ XL := by decide +kernel
set_option maxHeartbeats 4000000 in
set_option maxRecDepth 100000 in
theorem mL_addNoise (l : Launch) (hlt : l.stackTraces = false) (D : va_G) (cA : Nat → ClassId) (ad adF adW tt a : Nat → Nat) (fr : va_W) (ST : gST) (hT : STE ad adF adW tt ST) (hSX : STX ST) (hSN : STN ST) (nF : Nat) (p1 : Int32) (p2 : Int32) (p3 : Int32) (s0 : St) (c1 : Nat) (r : Int32) (s' : St) (ao : Nat) (g : Nat → Int64) (h : fX11_addNoise nF p1 p2 p3 s0 = some ((c1, r), s')) (hc1 : c1 = 0 ∨ c1 = 1 ∨ c1 = 4) : gMetL l yL_addNoise cL_addNoise 6 (some .int) [(0, 12, 15, 13), (0, 12, 19, 15)] 8 D (TYS cA) ST (wc cA ad a (ocL cA ao g :: fr) s0) [.ref (a 209), .int p1, .int p2, .int p3, .ref ao] (fun A => gQl D (TYS cA) A (fun u => wc cA ad a (ocL cA ao u.2 :: fr) u.1) (hix [1, 4] c1) (s', if c1 = 0 then vp_updL g 0 (r.toInt64) else g)) := by
  refine g_ofWL hT.1 (by decide +kernel) (Nat.le_of_ble_eq_true rfl) ?_
  intro p e s m args below meth c ls A G htab hP hD hl
  have G : GC p s m args meth c cL_addNoise 6 RL (some .int) A D (TYS cA) ST := G
  have hx := G.1
  have hb := G.2.1
  have hS : va_S A s.heap s.heap [] := va_S.rf
  have hl : lv_has ls 6 [(0, .ref (a 209)), (1, .int p1), (2, .int p2), (3, .int p3), (4, .ref ao)] := hl
  refine lv_aload hx hb dL_addNoise_0 (lv_at hl 4 rfl) ?_
  refine lv_iconst (v := 0) hx hb dL_addNoise_2 (by decide) ?_
  refine lv_aload_n hx hb dL_addNoise_3 rfl (lv_at hl 0 rfl) ?_
  refine lv_iload_n hx hb dL_addNoise_4 rfl (lv_at hl 1 rfl) ?_
  refine lv_iload_n hx hb dL_addNoise_5 rfl (lv_at hl 2 rfl) ?_
  refine lv_iload_n hx hb dL_addNoise_6 rfl (lv_at hl 3 rfl) ?_
  refine gl_callVi (nA := 3) (mX11_addNoise l hlt D cA ad adF adW tt a (ocL cA ao g :: fr) ST hT hSX nF p1 p2 p3 s0 c1 r s' h) G hP hD hS (g_good q4_173 q4_174 q4_175 q1_1 q4_176) (by decide +kernel) (by decide) (by decide) sc_209 rfl rfl hl.1 [.int 0, .ref ao] rfl (Nat.le_of_ble_eq_true rfl) dL_addNoise_7 (fun hc0 ce q9 H locs hP hD hS hce hcv hcl => ?_) (fun hc0 H locs hP hD hS => ?_)
  · rcases hc1 with rfl | rfl | rfl
    · exact absurd rfl hc0
    · refine gl_catch (E := "java/lang/IllegalArgumentException") hSN hSX G htab 0 (st := 0) (en := 12) (hp := 15) (ct := 13) [] [(0, 12, 19, 15)] rfl (List.forall_mem_nil _) (by decide +kernel) (by decide) q4_171 cs_1 hce hcv hcl ?_
      refine lv_astore (lv' := [(5, .ref q9), (0, .ref (a 209)), (1, .int p1), (2, .int p2), (3, .int p3), (4, .ref ao)]) hx hb dL_addNoise_15 hl (by decide) rfl (fun ls hl => ?_)
      refine lv_iconst (v := 1) hx hb dL_addNoise_17 (by decide) ?_
      exact gl_ret (u := (s', g)) G hP hD hS rfl rfl (by decide) dL_addNoise_18
    · refine gl_catch (E := "java/lang/IllegalStateException") hSN hSX G htab 1 (st := 0) (en := 12) (hp := 19) (ct := 15) [(0, 12, 15, 13)] [] rfl (List.forall_mem_cons.mpr ⟨⟨by decide, "java/lang/IllegalArgumentException", q4_171, (List.mem_of_getElem? (i := 1) rfl)⟩, List.forall_mem_nil _⟩) (by decide +kernel) (by decide) q4_172 cs_4 hce hcv hcl ?_
      refine lv_astore (lv' := [(5, .ref q9), (0, .ref (a 209)), (1, .int p1), (2, .int p2), (3, .int p3), (4, .ref ao)]) hx hb dL_addNoise_19 hl (by decide) rfl (fun ls hl => ?_)
      refine lv_iconst (v := 2) hx hb dL_addNoise_21 (by decide) ?_
      exact gl_ret (u := (s', g)) G hP hD hS rfl rfl (by decide) dL_addNoise_22
  · subst hc0
    refine lv_i2l hx hb dL_addNoise_10 rfl ?_
    refine gl_last rfl G hP hD hS dL_addNoise_11 (fun H locs hP hD hS => ?_)
    refine lv_goto (tgt := 23) hx hb dL_addNoise_12 (by decide) ?_
    refine lv_iconst (v := 0) hx hb dL_addNoise_23 (by decide) ?_
    exact gl_ret (u := (s', vp_updL g 0 (r.toInt64))) G hP hD hS rfl rfl (by decide) dL_addNoise_24
set_option maxHeartbeats 4000000 in
set_option maxRecDepth 100000 in
theorem mL_advance (l : Launch) (hlt : l.stackTraces = false) (D : va_G) (cA : Nat → ClassId) (ad adF adW tt a : Nat → Nat) (fr : va_W) (ST : gST) (hT : STE ad adF adW tt ST) (hSX : STX ST) (hSN : STN ST) (nF : Nat) (p1 : Int32) (s0 : St) (c1 : Nat) (r : Int32) (s' : St) (ao : Nat) (g : Nat → Int64) (h : fX11_advance nF p1 s0 = some ((c1, r), s')) (hc1 : c1 = 0 ∨ c1 = 1) : gMetL l yL_advance cL_advance 4 (some .int) [(0, 9, 12, 13)] 8 D (TYS cA) ST (wc cA ad a (ocL cA ao g :: fr) s0) [.ref (a 209), .int p1, .ref ao] (fun A => gQl D (TYS cA) A (fun u => wc cA ad a (ocL cA ao u.2 :: fr) u.1) (hix [1] c1) (s', if c1 = 0 then vp_updL g 0 (r.toInt64) else g)) := by
  refine g_ofWL hT.1 (by decide +kernel) (Nat.le_of_ble_eq_true rfl) ?_
  intro p e s m args below meth c ls A G htab hP hD hl
  have G : GC p s m args meth c cL_advance 4 RL (some .int) A D (TYS cA) ST := G
  have hx := G.1
  have hb := G.2.1
  have hS : va_S A s.heap s.heap [] := va_S.rf
  have hl : lv_has ls 4 [(0, .ref (a 209)), (1, .int p1), (2, .ref ao)] := hl
  refine lv_aload_n hx hb dL_advance_0 rfl (lv_at hl 2 rfl) ?_
  refine lv_iconst (v := 0) hx hb dL_advance_1 (by decide) ?_
  refine lv_aload_n hx hb dL_advance_2 rfl (lv_at hl 0 rfl) ?_
  refine lv_iload_n hx hb dL_advance_3 rfl (lv_at hl 1 rfl) ?_
  refine gl_callVi (nA := 1) (mX11_advance l hlt D cA ad adF adW tt a (ocL cA ao g :: fr) ST hT hSX nF p1 s0 c1 r s' h) G hP hD hS (g_good q5_169 q5_170 q5_171 q1_1 q5_172) (by decide +kernel) (by decide) (by decide) sc_209 rfl rfl hl.1 [.int 0, .ref ao] rfl (Nat.le_of_ble_eq_true rfl) dL_advance_4 (fun hc0 ce q9 H locs hP hD hS hce hcv hcl => ?_) (fun hc0 H locs hP hD hS => ?_)
  · rcases hc1 with rfl | rfl
    · exact absurd rfl hc0
    · refine gl_catch (E := "java/lang/IllegalArgumentException") hSN hSX G htab 0 (st := 0) (en := 9) (hp := 12) (ct := 13) [] [] rfl (List.forall_mem_nil _) (by decide +kernel) (by decide) q4_171 cs_1 hce hcv hcl ?_
      refine lv_astore_n (lv' := [(3, .ref q9), (0, .ref (a 209)), (1, .int p1), (2, .ref ao)]) hx hb dL_advance_12 rfl hl (by decide) rfl (fun ls hl => ?_)
      refine lv_iconst (v := 1) hx hb dL_advance_13 (by decide) ?_
      exact gl_ret (u := (s', g)) G hP hD hS rfl rfl (by decide) dL_advance_14
  · subst hc0
    refine lv_i2l hx hb dL_advance_7 rfl ?_
    refine gl_last rfl G hP hD hS dL_advance_8 (fun H locs hP hD hS => ?_)
    refine lv_goto (tgt := 15) hx hb dL_advance_9 (by decide) ?_
    refine lv_iconst (v := 0) hx hb dL_advance_15 (by decide) ?_
    exact gl_ret (u := (s', vp_updL g 0 (r.toInt64))) G hP hD hS rfl rfl (by decide) dL_advance_16
set_option maxHeartbeats 4000000 in
set_option maxRecDepth 100000 in
theorem mL_amount (l : Launch) (hlt : l.stackTraces = false) (D : va_G) (cA : Nat → ClassId) (ad adF adW tt a : Nat → Nat) (fr : va_W) (ST : gST) (hT : STE ad adF adW tt ST) (hSX : STX ST) (hSN : STN ST) (nF : Nat) (p1 : Int32) (s0 : St) (c1 : Nat) (r : Int32) (s' : St) (ao : Nat) (g : Nat → Int64) (h : fX11_amount nF p1 s0 = some ((c1, r), s')) (hc1 : c1 = 0 ∨ c1 = 3) : gMetL l yL_amount cL_amount 4 (some .int) [(0, 9, 12, 21)] 8 D (TYS cA) ST (wc cA ad a (ocL cA ao g :: fr) s0) [.ref (a 209), .int p1, .ref ao] (fun A => gQl D (TYS cA) A (fun u => wc cA ad a (ocL cA ao u.2 :: fr) u.1) (hix [3] c1) (s', if c1 = 0 then vp_updL g 0 (r.toInt64) else g)) := by
  refine g_ofWL hT.1 (by decide +kernel) (Nat.le_of_ble_eq_true rfl) ?_
  intro p e s m args below meth c ls A G htab hP hD hl
  have G : GC p s m args meth c cL_amount 4 RL (some .int) A D (TYS cA) ST := G
  have hx := G.1
  have hb := G.2.1
  have hS : va_S A s.heap s.heap [] := va_S.rf
  have hl : lv_has ls 4 [(0, .ref (a 209)), (1, .int p1), (2, .ref ao)] := hl
  refine lv_aload_n hx hb dL_amount_0 rfl (lv_at hl 2 rfl) ?_
  refine lv_iconst (v := 0) hx hb dL_amount_1 (by decide) ?_
  refine lv_aload_n hx hb dL_amount_2 rfl (lv_at hl 0 rfl) ?_
  refine lv_iload_n hx hb dL_amount_3 rfl (lv_at hl 1 rfl) ?_
  refine gl_callVi (nA := 1) (mX11_amount l hlt D cA ad adF adW tt a (ocL cA ao g :: fr) ST hT hSX nF p1 s0 c1 r s' h) G hP hD hS (g_good q5_214 q5_215 q5_216 q1_1 q5_217) (by decide +kernel) (by decide) (by decide) sc_209 rfl rfl hl.1 [.int 0, .ref ao] rfl (Nat.le_of_ble_eq_true rfl) dL_amount_4 (fun hc0 ce q9 H locs hP hD hS hce hcv hcl => ?_) (fun hc0 H locs hP hD hS => ?_)
  · rcases hc1 with rfl | rfl
    · exact absurd rfl hc0
    · refine gl_catch (E := "java/util/NoSuchElementException") hSN hSX G htab 0 (st := 0) (en := 9) (hp := 12) (ct := 21) [] [] rfl (List.forall_mem_nil _) (by decide +kernel) (by decide) q5_51 cs_3 hce hcv hcl ?_
      refine lv_astore_n (lv' := [(3, .ref q9), (0, .ref (a 209)), (1, .int p1), (2, .ref ao)]) hx hb dL_amount_12 rfl hl (by decide) rfl (fun ls hl => ?_)
      refine lv_iconst (v := 1) hx hb dL_amount_13 (by decide) ?_
      exact gl_ret (u := (s', g)) G hP hD hS rfl rfl (by decide) dL_amount_14
  · subst hc0
    refine lv_i2l hx hb dL_amount_7 rfl ?_
    refine gl_last rfl G hP hD hS dL_amount_8 (fun H locs hP hD hS => ?_)
    refine lv_goto (tgt := 15) hx hb dL_amount_9 (by decide) ?_
    refine lv_iconst (v := 0) hx hb dL_amount_15 (by decide) ?_
    exact gl_ret (u := (s', vp_updL g 0 (r.toInt64))) G hP hD hS rfl rfl (by decide) dL_amount_16
set_option maxHeartbeats 4000000 in
set_option maxRecDepth 100000 in
theorem mL_band (l : Launch) (hlt : l.stackTraces = false) (D : va_G) (cA : Nat → ClassId) (ad adF adW tt a : Nat → Nat) (fr : va_W) (ST : gST) (hT : STE ad adF adW tt ST) (hSX : STX ST) (hSN : STN ST) (nF : Nat) (p1 : Int32) (s0 : St) (c1 : Nat) (r : Int32) (s' : St) (ao : Nat) (g : Nat → Int64) (h : fX11_band nF p1 s0 = some ((c1, r), s')) (hc1 : c1 = 0 ∨ c1 = 3) : gMetL l yL_band cL_band 4 (some .int) [(0, 9, 12, 21)] 8 D (TYS cA) ST (wc cA ad a (ocL cA ao g :: fr) s0) [.ref (a 209), .int p1, .ref ao] (fun A => gQl D (TYS cA) A (fun u => wc cA ad a (ocL cA ao u.2 :: fr) u.1) (hix [3] c1) (s', if c1 = 0 then vp_updL g 0 (r.toInt64) else g)) := by
  refine g_ofWL hT.1 (by decide +kernel) (Nat.le_of_ble_eq_true rfl) ?_
  intro p e s m args below meth c ls A G htab hP hD hl
  have G : GC p s m args meth c cL_band 4 RL (some .int) A D (TYS cA) ST := G
  have hx := G.1
  have hb := G.2.1
  have hS : va_S A s.heap s.heap [] := va_S.rf
  have hl : lv_has ls 4 [(0, .ref (a 209)), (1, .int p1), (2, .ref ao)] := hl
  refine lv_aload_n hx hb dL_band_0 rfl (lv_at hl 2 rfl) ?_
  refine lv_iconst (v := 0) hx hb dL_band_1 (by decide) ?_
  refine lv_aload_n hx hb dL_band_2 rfl (lv_at hl 0 rfl) ?_
  refine lv_iload_n hx hb dL_band_3 rfl (lv_at hl 1 rfl) ?_
  refine gl_callVi (nA := 1) (mX11_band l hlt D cA ad adF adW tt a (ocL cA ao g :: fr) ST hT hSX nF p1 s0 c1 r s' h) G hP hD hS (g_good q5_200 q5_201 q5_202 q1_1 q5_203) (by decide +kernel) (by decide) (by decide) sc_209 rfl rfl hl.1 [.int 0, .ref ao] rfl (Nat.le_of_ble_eq_true rfl) dL_band_4 (fun hc0 ce q9 H locs hP hD hS hce hcv hcl => ?_) (fun hc0 H locs hP hD hS => ?_)
  · rcases hc1 with rfl | rfl
    · exact absurd rfl hc0
    · refine gl_catch (E := "java/util/NoSuchElementException") hSN hSX G htab 0 (st := 0) (en := 9) (hp := 12) (ct := 21) [] [] rfl (List.forall_mem_nil _) (by decide +kernel) (by decide) q5_51 cs_3 hce hcv hcl ?_
      refine lv_astore_n (lv' := [(3, .ref q9), (0, .ref (a 209)), (1, .int p1), (2, .ref ao)]) hx hb dL_band_12 rfl hl (by decide) rfl (fun ls hl => ?_)
      refine lv_iconst (v := 1) hx hb dL_band_13 (by decide) ?_
      exact gl_ret (u := (s', g)) G hP hD hS rfl rfl (by decide) dL_band_14
  · subst hc0
    refine lv_i2l hx hb dL_band_7 rfl ?_
    refine gl_last rfl G hP hD hS dL_band_8 (fun H locs hP hD hS => ?_)
    refine lv_goto (tgt := 15) hx hb dL_band_9 (by decide) ?_
    refine lv_iconst (v := 0) hx hb dL_band_15 (by decide) ?_
    exact gl_ret (u := (s', vp_updL g 0 (r.toInt64))) G hP hD hS rfl rfl (by decide) dL_band_16
set_option maxHeartbeats 4000000 in
set_option maxRecDepth 100000 in
theorem mL_bandByGrains (l : Launch) (hlt : l.stackTraces = false) (D : va_G) (cA : Nat → ClassId) (ad adF adW tt a : Nat → Nat) (fr : va_W) (ST : gST) (hT : STE ad adF adW tt ST) (hSX : STX ST) (hSN : STN ST) (nF : Nat) (p1 : Int32) (s0 : St) (c1 : Nat) (r : Int32) (s' : St) (ao : Nat) (g : Nat → Int64) (h : fX11_bandByGrains nF p1 s0 = some ((c1, r), s')) (hc1 : c1 = 0 ∨ c1 = 3) : gMetL l yL_bandByGrains cL_bandByGrains 4 (some .int) [(0, 9, 12, 21)] 7 D (TYS cA) ST (wc cA ad a (ocL cA ao g :: fr) s0) [.ref (a 209), .int p1, .ref ao] (fun A => gQl D (TYS cA) A (fun u => wc cA ad a (ocL cA ao u.2 :: fr) u.1) (hix [3] c1) (s', if c1 = 0 then vp_updL g 0 (r.toInt64) else g)) := by
  refine g_ofWL hT.1 (by decide +kernel) (Nat.le_of_ble_eq_true rfl) ?_
  intro p e s m args below meth c ls A G htab hP hD hl
  have G : GC p s m args meth c cL_bandByGrains 4 RL (some .int) A D (TYS cA) ST := G
  have hx := G.1
  have hb := G.2.1
  have hS : va_S A s.heap s.heap [] := va_S.rf
  have hl : lv_has ls 4 [(0, .ref (a 209)), (1, .int p1), (2, .ref ao)] := hl
  refine lv_aload_n hx hb dL_bandByGrains_0 rfl (lv_at hl 2 rfl) ?_
  refine lv_iconst (v := 0) hx hb dL_bandByGrains_1 (by decide) ?_
  refine lv_aload_n hx hb dL_bandByGrains_2 rfl (lv_at hl 0 rfl) ?_
  refine lv_iload_n hx hb dL_bandByGrains_3 rfl (lv_at hl 1 rfl) ?_
  refine gl_callVi (nA := 1) (mX11_bandByGrains l hlt D cA ad adF adW tt a (ocL cA ao g :: fr) ST hT hSX nF p1 s0 c1 r s' h) G hP hD hS (g_good q6_182 q6_183 q6_184 q1_1 q6_185) (by decide +kernel) (by decide) (by decide) sc_209 rfl rfl hl.1 [.int 0, .ref ao] rfl (Nat.le_of_ble_eq_true rfl) dL_bandByGrains_4 (fun hc0 ce q9 H locs hP hD hS hce hcv hcl => ?_) (fun hc0 H locs hP hD hS => ?_)
  · rcases hc1 with rfl | rfl
    · exact absurd rfl hc0
    · refine gl_catch (E := "java/util/NoSuchElementException") hSN hSX G htab 0 (st := 0) (en := 9) (hp := 12) (ct := 21) [] [] rfl (List.forall_mem_nil _) (by decide +kernel) (by decide) q5_51 cs_3 hce hcv hcl ?_
      refine lv_astore_n (lv' := [(3, .ref q9), (0, .ref (a 209)), (1, .int p1), (2, .ref ao)]) hx hb dL_bandByGrains_12 rfl hl (by decide) rfl (fun ls hl => ?_)
      refine lv_iconst (v := 1) hx hb dL_bandByGrains_13 (by decide) ?_
      exact gl_ret (u := (s', g)) G hP hD hS rfl rfl (by decide) dL_bandByGrains_14
  · subst hc0
    refine lv_i2l hx hb dL_bandByGrains_7 rfl ?_
    refine gl_last rfl G hP hD hS dL_bandByGrains_8 (fun H locs hP hD hS => ?_)
    refine lv_goto (tgt := 15) hx hb dL_bandByGrains_9 (by decide) ?_
    refine lv_iconst (v := 0) hx hb dL_bandByGrains_15 (by decide) ?_
    exact gl_ret (u := (s', vp_updL g 0 (r.toInt64))) G hP hD hS rfl rfl (by decide) dL_bandByGrains_16
set_option maxHeartbeats 4000000 in
set_option maxRecDepth 100000 in
theorem mL_clearWheel (l : Launch) (hlt : l.stackTraces = false) (D : va_G) (cA : Nat → ClassId) (ad adF adW tt a : Nat → Nat) (fr : va_W) (ST : gST) (hT : STE ad adF adW tt ST) (hSX : STX ST) (hSN : STN ST) (nF : Nat) (p1 : Int32) (s0 : St) (c1 : Nat) (r : Int32) (s' : St) (ao : Nat) (g : Nat → Int64) (h : fX11_clearWheel nF p1 s0 = some ((c1, r), s')) (hc1 : c1 = 0 ∨ c1 = 2) : gMetL l yL_clearWheel cL_clearWheel 4 (some .int) [(0, 9, 12, 27)] 8 D (TYS cA) ST (wc cA ad a (ocL cA ao g :: fr) s0) [.ref (a 209), .int p1, .ref ao] (fun A => gQl D (TYS cA) A (fun u => wc cA ad a (ocL cA ao u.2 :: fr) u.1) (hix [2] c1) (s', if c1 = 0 then vp_updL g 0 (r.toInt64) else g)) := by
  refine g_ofWL hT.1 (by decide +kernel) (Nat.le_of_ble_eq_true rfl) ?_
  intro p e s m args below meth c ls A G htab hP hD hl
  have G : GC p s m args meth c cL_clearWheel 4 RL (some .int) A D (TYS cA) ST := G
  have hx := G.1
  have hb := G.2.1
  have hS : va_S A s.heap s.heap [] := va_S.rf
  have hl : lv_has ls 4 [(0, .ref (a 209)), (1, .int p1), (2, .ref ao)] := hl
  refine lv_aload_n hx hb dL_clearWheel_0 rfl (lv_at hl 2 rfl) ?_
  refine lv_iconst (v := 0) hx hb dL_clearWheel_1 (by decide) ?_
  refine lv_aload_n hx hb dL_clearWheel_2 rfl (lv_at hl 0 rfl) ?_
  refine lv_iload_n hx hb dL_clearWheel_3 rfl (lv_at hl 1 rfl) ?_
  refine gl_callVi (nA := 1) (mX11_clearWheel l hlt D cA ad adF adW tt a (ocL cA ao g :: fr) ST hT hSX nF p1 s0 c1 r s' h) G hP hD hS (g_good q5_110 q5_111 q5_112 q1_1 q5_113) (by decide +kernel) (by decide) (by decide) sc_209 rfl rfl hl.1 [.int 0, .ref ao] rfl (Nat.le_of_ble_eq_true rfl) dL_clearWheel_4 (fun hc0 ce q9 H locs hP hD hS hce hcv hcl => ?_) (fun hc0 H locs hP hD hS => ?_)
  · rcases hc1 with rfl | rfl
    · exact absurd rfl hc0
    · refine gl_catch (E := "java/lang/IndexOutOfBoundsException") hSN hSX G htab 0 (st := 0) (en := 9) (hp := 12) (ct := 27) [] [] rfl (List.forall_mem_nil _) (by decide +kernel) (by decide) q5_74 cs_2 hce hcv hcl ?_
      refine lv_astore_n (lv' := [(3, .ref q9), (0, .ref (a 209)), (1, .int p1), (2, .ref ao)]) hx hb dL_clearWheel_12 rfl hl (by decide) rfl (fun ls hl => ?_)
      refine lv_iconst (v := 1) hx hb dL_clearWheel_13 (by decide) ?_
      exact gl_ret (u := (s', g)) G hP hD hS rfl rfl (by decide) dL_clearWheel_14
  · subst hc0
    refine lv_i2l hx hb dL_clearWheel_7 rfl ?_
    refine gl_last rfl G hP hD hS dL_clearWheel_8 (fun H locs hP hD hS => ?_)
    refine lv_goto (tgt := 15) hx hb dL_clearWheel_9 (by decide) ?_
    refine lv_iconst (v := 0) hx hb dL_clearWheel_15 (by decide) ?_
    exact gl_ret (u := (s', vp_updL g 0 (r.toInt64))) G hP hD hS rfl rfl (by decide) dL_clearWheel_16
set_option maxHeartbeats 4000000 in
set_option maxRecDepth 100000 in
theorem mL_doneNumber (l : Launch) (hlt : l.stackTraces = false) (D : va_G) (cA : Nat → ClassId) (ad adF adW tt a : Nat → Nat) (fr : va_W) (ST : gST) (hT : STE ad adF adW tt ST) (hSX : STX ST) (hSN : STN ST) (p1 : Int32) (s0 : St) (c1 : Nat) (r : Int32) (s' : St) (ao : Nat) (g : Nat → Int64) (h : fX11_doneNumber p1 s0 = some ((c1, r), s')) (hc1 : c1 = 0 ∨ c1 = 3) : gMetL l yL_doneNumber cL_doneNumber 4 (some .int) [(0, 9, 12, 21)] 8 D (TYS cA) ST (wc cA ad a (ocL cA ao g :: fr) s0) [.ref (a 209), .int p1, .ref ao] (fun A => gQl D (TYS cA) A (fun u => wc cA ad a (ocL cA ao u.2 :: fr) u.1) (hix [3] c1) (s', if c1 = 0 then vp_updL g 0 (r.toInt64) else g)) := by
  refine g_ofWL hT.1 (by decide +kernel) (Nat.le_of_ble_eq_true rfl) ?_
  intro p e s m args below meth c ls A G htab hP hD hl
  have G : GC p s m args meth c cL_doneNumber 4 RL (some .int) A D (TYS cA) ST := G
  have hx := G.1
  have hb := G.2.1
  have hS : va_S A s.heap s.heap [] := va_S.rf
  have hl : lv_has ls 4 [(0, .ref (a 209)), (1, .int p1), (2, .ref ao)] := hl
  refine lv_aload_n hx hb dL_doneNumber_0 rfl (lv_at hl 2 rfl) ?_
  refine lv_iconst (v := 0) hx hb dL_doneNumber_1 (by decide) ?_
  refine lv_aload_n hx hb dL_doneNumber_2 rfl (lv_at hl 0 rfl) ?_
  refine lv_iload_n hx hb dL_doneNumber_3 rfl (lv_at hl 1 rfl) ?_
  refine gl_callVi (nA := 1) (mX11_doneNumber l hlt D cA ad adF adW tt a (ocL cA ao g :: fr) ST hT hSX p1 s0 c1 r s' h) G hP hD hS (g_good q6_137 q6_138 q6_139 q1_1 q6_140) (by decide +kernel) (by decide) (by decide) sc_209 rfl rfl hl.1 [.int 0, .ref ao] rfl (Nat.le_of_ble_eq_true rfl) dL_doneNumber_4 (fun hc0 ce q9 H locs hP hD hS hce hcv hcl => ?_) (fun hc0 H locs hP hD hS => ?_)
  · rcases hc1 with rfl | rfl
    · exact absurd rfl hc0
    · refine gl_catch (E := "java/util/NoSuchElementException") hSN hSX G htab 0 (st := 0) (en := 9) (hp := 12) (ct := 21) [] [] rfl (List.forall_mem_nil _) (by decide +kernel) (by decide) q5_51 cs_3 hce hcv hcl ?_
      refine lv_astore_n (lv' := [(3, .ref q9), (0, .ref (a 209)), (1, .int p1), (2, .ref ao)]) hx hb dL_doneNumber_12 rfl hl (by decide) rfl (fun ls hl => ?_)
      refine lv_iconst (v := 1) hx hb dL_doneNumber_13 (by decide) ?_
      exact gl_ret (u := (s', g)) G hP hD hS rfl rfl (by decide) dL_doneNumber_14
  · subst hc0
    refine lv_i2l hx hb dL_doneNumber_7 rfl ?_
    refine gl_last rfl G hP hD hS dL_doneNumber_8 (fun H locs hP hD hS => ?_)
    refine lv_goto (tgt := 15) hx hb dL_doneNumber_9 (by decide) ?_
    refine lv_iconst (v := 0) hx hb dL_doneNumber_15 (by decide) ?_
    exact gl_ret (u := (s', vp_updL g 0 (r.toInt64))) G hP hD hS rfl rfl (by decide) dL_doneNumber_16
set_option maxHeartbeats 4000000 in
set_option maxRecDepth 100000 in
theorem mL_doneTime (l : Launch) (hlt : l.stackTraces = false) (D : va_G) (cA : Nat → ClassId) (ad adF adW tt a : Nat → Nat) (fr : va_W) (ST : gST) (hT : STE ad adF adW tt ST) (hSX : STX ST) (hSN : STN ST) (p1 : Int32) (s0 : St) (c1 : Nat) (r : Int32) (s' : St) (ao : Nat) (g : Nat → Int64) (h : fX11_doneTime p1 s0 = some ((c1, r), s')) (hc1 : c1 = 0 ∨ c1 = 3) : gMetL l yL_doneTime cL_doneTime 4 (some .int) [(0, 9, 12, 21)] 8 D (TYS cA) ST (wc cA ad a (ocL cA ao g :: fr) s0) [.ref (a 209), .int p1, .ref ao] (fun A => gQl D (TYS cA) A (fun u => wc cA ad a (ocL cA ao u.2 :: fr) u.1) (hix [3] c1) (s', if c1 = 0 then vp_updL g 0 (r.toInt64) else g)) := by
  refine g_ofWL hT.1 (by decide +kernel) (Nat.le_of_ble_eq_true rfl) ?_
  intro p e s m args below meth c ls A G htab hP hD hl
  have G : GC p s m args meth c cL_doneTime 4 RL (some .int) A D (TYS cA) ST := G
  have hx := G.1
  have hb := G.2.1
  have hS : va_S A s.heap s.heap [] := va_S.rf
  have hl : lv_has ls 4 [(0, .ref (a 209)), (1, .int p1), (2, .ref ao)] := hl
  refine lv_aload_n hx hb dL_doneTime_0 rfl (lv_at hl 2 rfl) ?_
  refine lv_iconst (v := 0) hx hb dL_doneTime_1 (by decide) ?_
  refine lv_aload_n hx hb dL_doneTime_2 rfl (lv_at hl 0 rfl) ?_
  refine lv_iload_n hx hb dL_doneTime_3 rfl (lv_at hl 1 rfl) ?_
  refine gl_callVi (nA := 1) (mX11_doneTime l hlt D cA ad adF adW tt a (ocL cA ao g :: fr) ST hT hSX p1 s0 c1 r s' h) G hP hD hS (g_good q6_160 q6_161 q6_162 q1_1 q6_163) (by decide +kernel) (by decide) (by decide) sc_209 rfl rfl hl.1 [.int 0, .ref ao] rfl (Nat.le_of_ble_eq_true rfl) dL_doneTime_4 (fun hc0 ce q9 H locs hP hD hS hce hcv hcl => ?_) (fun hc0 H locs hP hD hS => ?_)
  · rcases hc1 with rfl | rfl
    · exact absurd rfl hc0
    · refine gl_catch (E := "java/util/NoSuchElementException") hSN hSX G htab 0 (st := 0) (en := 9) (hp := 12) (ct := 21) [] [] rfl (List.forall_mem_nil _) (by decide +kernel) (by decide) q5_51 cs_3 hce hcv hcl ?_
      refine lv_astore_n (lv' := [(3, .ref q9), (0, .ref (a 209)), (1, .int p1), (2, .ref ao)]) hx hb dL_doneTime_12 rfl hl (by decide) rfl (fun ls hl => ?_)
      refine lv_iconst (v := 1) hx hb dL_doneTime_13 (by decide) ?_
      exact gl_ret (u := (s', g)) G hP hD hS rfl rfl (by decide) dL_doneTime_14
  · subst hc0
    refine lv_i2l hx hb dL_doneTime_7 rfl ?_
    refine gl_last rfl G hP hD hS dL_doneTime_8 (fun H locs hP hD hS => ?_)
    refine lv_goto (tgt := 15) hx hb dL_doneTime_9 (by decide) ?_
    refine lv_iconst (v := 0) hx hb dL_doneTime_15 (by decide) ?_
    exact gl_ret (u := (s', vp_updL g 0 (r.toInt64))) G hP hD hS rfl rfl (by decide) dL_doneTime_16
set_option maxHeartbeats 4000000 in
set_option maxRecDepth 100000 in
theorem mL_doneWheel (l : Launch) (hlt : l.stackTraces = false) (D : va_G) (cA : Nat → ClassId) (ad adF adW tt a : Nat → Nat) (fr : va_W) (ST : gST) (hT : STE ad adF adW tt ST) (hSX : STX ST) (hSN : STN ST) (p1 : Int32) (s0 : St) (c1 : Nat) (r : Int32) (s' : St) (ao : Nat) (g : Nat → Int64) (h : fX11_doneWheel p1 s0 = some ((c1, r), s')) (hc1 : c1 = 0 ∨ c1 = 3) : gMetL l yL_doneWheel cL_doneWheel 4 (some .int) [(0, 9, 12, 21)] 8 D (TYS cA) ST (wc cA ad a (ocL cA ao g :: fr) s0) [.ref (a 209), .int p1, .ref ao] (fun A => gQl D (TYS cA) A (fun u => wc cA ad a (ocL cA ao u.2 :: fr) u.1) (hix [3] c1) (s', if c1 = 0 then vp_updL g 0 (r.toInt64) else g)) := by
  refine g_ofWL hT.1 (by decide +kernel) (Nat.le_of_ble_eq_true rfl) ?_
  intro p e s m args below meth c ls A G htab hP hD hl
  have G : GC p s m args meth c cL_doneWheel 4 RL (some .int) A D (TYS cA) ST := G
  have hx := G.1
  have hb := G.2.1
  have hS : va_S A s.heap s.heap [] := va_S.rf
  have hl : lv_has ls 4 [(0, .ref (a 209)), (1, .int p1), (2, .ref ao)] := hl
  refine lv_aload_n hx hb dL_doneWheel_0 rfl (lv_at hl 2 rfl) ?_
  refine lv_iconst (v := 0) hx hb dL_doneWheel_1 (by decide) ?_
  refine lv_aload_n hx hb dL_doneWheel_2 rfl (lv_at hl 0 rfl) ?_
  refine lv_iload_n hx hb dL_doneWheel_3 rfl (lv_at hl 1 rfl) ?_
  refine gl_callVi (nA := 1) (mX11_doneWheel l hlt D cA ad adF adW tt a (ocL cA ao g :: fr) ST hT hSX p1 s0 c1 r s' h) G hP hD hS (g_good q6_153 q6_154 q6_155 q1_1 q6_156) (by decide +kernel) (by decide) (by decide) sc_209 rfl rfl hl.1 [.int 0, .ref ao] rfl (Nat.le_of_ble_eq_true rfl) dL_doneWheel_4 (fun hc0 ce q9 H locs hP hD hS hce hcv hcl => ?_) (fun hc0 H locs hP hD hS => ?_)
  · rcases hc1 with rfl | rfl
    · exact absurd rfl hc0
    · refine gl_catch (E := "java/util/NoSuchElementException") hSN hSX G htab 0 (st := 0) (en := 9) (hp := 12) (ct := 21) [] [] rfl (List.forall_mem_nil _) (by decide +kernel) (by decide) q5_51 cs_3 hce hcv hcl ?_
      refine lv_astore_n (lv' := [(3, .ref q9), (0, .ref (a 209)), (1, .int p1), (2, .ref ao)]) hx hb dL_doneWheel_12 rfl hl (by decide) rfl (fun ls hl => ?_)
      refine lv_iconst (v := 1) hx hb dL_doneWheel_13 (by decide) ?_
      exact gl_ret (u := (s', g)) G hP hD hS rfl rfl (by decide) dL_doneWheel_14
  · subst hc0
    refine lv_i2l hx hb dL_doneWheel_7 rfl ?_
    refine gl_last rfl G hP hD hS dL_doneWheel_8 (fun H locs hP hD hS => ?_)
    refine lv_goto (tgt := 15) hx hb dL_doneWheel_9 (by decide) ?_
    refine lv_iconst (v := 0) hx hb dL_doneWheel_15 (by decide) ?_
    exact gl_ret (u := (s', vp_updL g 0 (r.toInt64))) G hP hD hS rfl rfl (by decide) dL_doneWheel_16
set_option maxHeartbeats 4000000 in
set_option maxRecDepth 100000 in
theorem mL_errorPosition (l : Launch) (hlt : l.stackTraces = false) (D : va_G) (cA : Nat → ClassId) (ad adF adW tt a : Nat → Nat) (fr : va_W) (ST : gST) (hT : STE ad adF adW tt ST) (hSX : STX ST) (hSN : STN ST) (s0 : St) (c1 : Nat) (r : Int32) (s' : St) (ao : Nat) (g : Nat → Int64) (h : fX11_errorPosition s0 = some ((c1, r), s')) (hc1 : c1 = 0 ∨ c1 = 3) : gMetL l yL_errorPosition cL_errorPosition 3 (some .int) [(0, 8, 11, 21)] 7 D (TYS cA) ST (wc cA ad a (ocL cA ao g :: fr) s0) [.ref (a 209), .ref ao] (fun A => gQl D (TYS cA) A (fun u => wc cA ad a (ocL cA ao u.2 :: fr) u.1) (hix [3] c1) (s', if c1 = 0 then vp_updL g 0 (r.toInt64) else g)) := by
  refine g_ofWL hT.1 (by decide +kernel) (Nat.le_of_ble_eq_true rfl) ?_
  intro p e s m args below meth c ls A G htab hP hD hl
  have G : GC p s m args meth c cL_errorPosition 3 RL (some .int) A D (TYS cA) ST := G
  have hx := G.1
  have hb := G.2.1
  have hS : va_S A s.heap s.heap [] := va_S.rf
  have hl : lv_has ls 3 [(0, .ref (a 209)), (1, .ref ao)] := hl
  refine lv_aload_n hx hb dL_errorPosition_0 rfl (lv_at hl 1 rfl) ?_
  refine lv_iconst (v := 0) hx hb dL_errorPosition_1 (by decide) ?_
  refine lv_aload_n hx hb dL_errorPosition_2 rfl (lv_at hl 0 rfl) ?_
  refine gl_callVi (nA := 0) (mX11_errorPosition l hlt D cA ad adF adW tt a (ocL cA ao g :: fr) ST hT hSX  s0 c1 r s' h) G hP hD hS (g_good q7_121 q7_122 q7_123 q1_1 q7_124) (by decide +kernel) (by decide) (by decide) sc_209 rfl rfl hl.1 [.int 0, .ref ao] rfl (Nat.le_of_ble_eq_true rfl) dL_errorPosition_3 (fun hc0 ce q9 H locs hP hD hS hce hcv hcl => ?_) (fun hc0 H locs hP hD hS => ?_)
  · rcases hc1 with rfl | rfl
    · exact absurd rfl hc0
    · refine gl_catch (E := "java/util/NoSuchElementException") hSN hSX G htab 0 (st := 0) (en := 8) (hp := 11) (ct := 21) [] [] rfl (List.forall_mem_nil _) (by decide +kernel) (by decide) q5_51 cs_3 hce hcv hcl ?_
      refine lv_astore_n (lv' := [(2, .ref q9), (0, .ref (a 209)), (1, .ref ao)]) hx hb dL_errorPosition_11 rfl hl (by decide) rfl (fun ls hl => ?_)
      refine lv_iconst (v := 1) hx hb dL_errorPosition_12 (by decide) ?_
      exact gl_ret (u := (s', g)) G hP hD hS rfl rfl (by decide) dL_errorPosition_13
  · subst hc0
    refine lv_i2l hx hb dL_errorPosition_6 rfl ?_
    refine gl_last rfl G hP hD hS dL_errorPosition_7 (fun H locs hP hD hS => ?_)
    refine lv_goto (tgt := 14) hx hb dL_errorPosition_8 (by decide) ?_
    refine lv_iconst (v := 0) hx hb dL_errorPosition_14 (by decide) ?_
    exact gl_ret (u := (s', vp_updL g 0 (r.toInt64))) G hP hD hS rfl rfl (by decide) dL_errorPosition_15
set_option maxHeartbeats 4000000 in
set_option maxRecDepth 100000 in
theorem mL_failedCommand (l : Launch) (hlt : l.stackTraces = false) (D : va_G) (cA : Nat → ClassId) (ad adF adW tt a : Nat → Nat) (fr : va_W) (ST : gST) (hT : STE ad adF adW tt ST) (hSX : STX ST) (hSN : STN ST) (s0 : St) (c1 : Nat) (r : Int32) (s' : St) (ao : Nat) (g : Nat → Int64) (h : fX11_failedCommand s0 = some ((c1, r), s')) (hc1 : c1 = 0 ∨ c1 = 3) : gMetL l yL_failedCommand cL_failedCommand 3 (some .int) [(0, 8, 11, 21)] 7 D (TYS cA) ST (wc cA ad a (ocL cA ao g :: fr) s0) [.ref (a 209), .ref ao] (fun A => gQl D (TYS cA) A (fun u => wc cA ad a (ocL cA ao u.2 :: fr) u.1) (hix [3] c1) (s', if c1 = 0 then vp_updL g 0 (r.toInt64) else g)) := by
  refine g_ofWL hT.1 (by decide +kernel) (Nat.le_of_ble_eq_true rfl) ?_
  intro p e s m args below meth c ls A G htab hP hD hl
  have G : GC p s m args meth c cL_failedCommand 3 RL (some .int) A D (TYS cA) ST := G
  have hx := G.1
  have hb := G.2.1
  have hS : va_S A s.heap s.heap [] := va_S.rf
  have hl : lv_has ls 3 [(0, .ref (a 209)), (1, .ref ao)] := hl
  refine lv_aload_n hx hb dL_failedCommand_0 rfl (lv_at hl 1 rfl) ?_
  refine lv_iconst (v := 0) hx hb dL_failedCommand_1 (by decide) ?_
  refine lv_aload_n hx hb dL_failedCommand_2 rfl (lv_at hl 0 rfl) ?_
  refine gl_callVi (nA := 0) (mX11_failedCommand l hlt D cA ad adF adW tt a (ocL cA ao g :: fr) ST hT hSX  s0 c1 r s' h) G hP hD hS (g_good q7_129 q7_130 q7_131 q1_1 q7_132) (by decide +kernel) (by decide) (by decide) sc_209 rfl rfl hl.1 [.int 0, .ref ao] rfl (Nat.le_of_ble_eq_true rfl) dL_failedCommand_3 (fun hc0 ce q9 H locs hP hD hS hce hcv hcl => ?_) (fun hc0 H locs hP hD hS => ?_)
  · rcases hc1 with rfl | rfl
    · exact absurd rfl hc0
    · refine gl_catch (E := "java/util/NoSuchElementException") hSN hSX G htab 0 (st := 0) (en := 8) (hp := 11) (ct := 21) [] [] rfl (List.forall_mem_nil _) (by decide +kernel) (by decide) q5_51 cs_3 hce hcv hcl ?_
      refine lv_astore_n (lv' := [(2, .ref q9), (0, .ref (a 209)), (1, .ref ao)]) hx hb dL_failedCommand_11 rfl hl (by decide) rfl (fun ls hl => ?_)
      refine lv_iconst (v := 1) hx hb dL_failedCommand_12 (by decide) ?_
      exact gl_ret (u := (s', g)) G hP hD hS rfl rfl (by decide) dL_failedCommand_13
  · subst hc0
    refine lv_i2l hx hb dL_failedCommand_6 rfl ?_
    refine gl_last rfl G hP hD hS dL_failedCommand_7 (fun H locs hP hD hS => ?_)
    refine lv_goto (tgt := 14) hx hb dL_failedCommand_8 (by decide) ?_
    refine lv_iconst (v := 0) hx hb dL_failedCommand_14 (by decide) ?_
    exact gl_ret (u := (s', vp_updL g 0 (r.toInt64))) G hP hD hS rfl rfl (by decide) dL_failedCommand_15
set_option maxHeartbeats 4000000 in
set_option maxRecDepth 100000 in
theorem mL_flour (l : Launch) (hlt : l.stackTraces = false) (D : va_G) (cA : Nat → ClassId) (ad adF adW tt a : Nat → Nat) (fr : va_W) (ST : gST) (hT : STE ad adF adW tt ST) (hSX : STX ST) (hSN : STN ST) (p1 : Int32) (s0 : St) (c1 : Nat) (r : Int32) (s' : St) (ao : Nat) (g : Nat → Int64) (h : fX11_flour p1 s0 = some ((c1, r), s')) (hc1 : c1 = 0 ∨ c1 = 1) : gMetL l yL_flour cL_flour 4 (some .int) [(0, 9, 12, 13)] 8 D (TYS cA) ST (wc cA ad a (ocL cA ao g :: fr) s0) [.ref (a 209), .int p1, .ref ao] (fun A => gQl D (TYS cA) A (fun u => wc cA ad a (ocL cA ao u.2 :: fr) u.1) (hix [1] c1) (s', if c1 = 0 then vp_updL g 0 (r.toInt64) else g)) := by
  refine g_ofWL hT.1 (by decide +kernel) (Nat.le_of_ble_eq_true rfl) ?_
  intro p e s m args below meth c ls A G htab hP hD hl
  have G : GC p s m args meth c cL_flour 4 RL (some .int) A D (TYS cA) ST := G
  have hx := G.1
  have hb := G.2.1
  have hS : va_S A s.heap s.heap [] := va_S.rf
  have hl : lv_has ls 4 [(0, .ref (a 209)), (1, .int p1), (2, .ref ao)] := hl
  refine lv_aload_n hx hb dL_flour_0 rfl (lv_at hl 2 rfl) ?_
  refine lv_iconst (v := 0) hx hb dL_flour_1 (by decide) ?_
  refine lv_aload_n hx hb dL_flour_2 rfl (lv_at hl 0 rfl) ?_
  refine lv_iload_n hx hb dL_flour_3 rfl (lv_at hl 1 rfl) ?_
  refine gl_callVi (nA := 1) (mX11_flour l hlt D cA ad adF adW tt a (ocL cA ao g :: fr) ST hT hSX p1 s0 c1 r s' h) G hP hD hS (g_good q6_52 q6_53 q6_54 q1_1 q6_55) (by decide +kernel) (by decide) (by decide) sc_209 rfl rfl hl.1 [.int 0, .ref ao] rfl (Nat.le_of_ble_eq_true rfl) dL_flour_4 (fun hc0 ce q9 H locs hP hD hS hce hcv hcl => ?_) (fun hc0 H locs hP hD hS => ?_)
  · rcases hc1 with rfl | rfl
    · exact absurd rfl hc0
    · refine gl_catch (E := "java/lang/IllegalArgumentException") hSN hSX G htab 0 (st := 0) (en := 9) (hp := 12) (ct := 13) [] [] rfl (List.forall_mem_nil _) (by decide +kernel) (by decide) q4_171 cs_1 hce hcv hcl ?_
      refine lv_astore_n (lv' := [(3, .ref q9), (0, .ref (a 209)), (1, .int p1), (2, .ref ao)]) hx hb dL_flour_12 rfl hl (by decide) rfl (fun ls hl => ?_)
      refine lv_iconst (v := 1) hx hb dL_flour_13 (by decide) ?_
      exact gl_ret (u := (s', g)) G hP hD hS rfl rfl (by decide) dL_flour_14
  · subst hc0
    refine lv_i2l hx hb dL_flour_7 rfl ?_
    refine gl_last rfl G hP hD hS dL_flour_8 (fun H locs hP hD hS => ?_)
    refine lv_goto (tgt := 15) hx hb dL_flour_9 (by decide) ?_
    refine lv_iconst (v := 0) hx hb dL_flour_15 (by decide) ?_
    exact gl_ret (u := (s', vp_updL g 0 (r.toInt64))) G hP hD hS rfl rfl (by decide) dL_flour_16
set_option maxHeartbeats 4000000 in
set_option maxRecDepth 100000 in
theorem mL_flourByRecords (l : Launch) (hlt : l.stackTraces = false) (D : va_G) (cA : Nat → ClassId) (ad adF adW tt a : Nat → Nat) (fr : va_W) (ST : gST) (hT : STE ad adF adW tt ST) (hSX : STX ST) (hSN : STN ST) (nF : Nat) (p1 : Int32) (s0 : St) (c1 : Nat) (r : Int32) (s' : St) (ao : Nat) (g : Nat → Int64) (h : fX11_flourByRecords nF p1 s0 = some ((c1, r), s')) (hc1 : c1 = 0 ∨ c1 = 1) : gMetL l yL_flourByRecords cL_flourByRecords 4 (some .int) [(0, 9, 12, 13)] 8 D (TYS cA) ST (wc cA ad a (ocL cA ao g :: fr) s0) [.ref (a 209), .int p1, .ref ao] (fun A => gQl D (TYS cA) A (fun u => wc cA ad a (ocL cA ao u.2 :: fr) u.1) (hix [1] c1) (s', if c1 = 0 then vp_updL g 0 (r.toInt64) else g)) := by
  refine g_ofWL hT.1 (by decide +kernel) (Nat.le_of_ble_eq_true rfl) ?_
  intro p e s m args below meth c ls A G htab hP hD hl
  have G : GC p s m args meth c cL_flourByRecords 4 RL (some .int) A D (TYS cA) ST := G
  have hx := G.1
  have hb := G.2.1
  have hS : va_S A s.heap s.heap [] := va_S.rf
  have hl : lv_has ls 4 [(0, .ref (a 209)), (1, .int p1), (2, .ref ao)] := hl
  refine lv_aload_n hx hb dL_flourByRecords_0 rfl (lv_at hl 2 rfl) ?_
  refine lv_iconst (v := 0) hx hb dL_flourByRecords_1 (by decide) ?_
  refine lv_aload_n hx hb dL_flourByRecords_2 rfl (lv_at hl 0 rfl) ?_
  refine lv_iload_n hx hb dL_flourByRecords_3 rfl (lv_at hl 1 rfl) ?_
  refine gl_callVi (nA := 1) (mX11_flourByRecords l hlt D cA ad adF adW tt a (ocL cA ao g :: fr) ST hT hSX nF p1 s0 c1 r s' h) G hP hD hS (g_good q6_64 q6_65 q6_66 q1_1 q6_67) (by decide +kernel) (by decide) (by decide) sc_209 rfl rfl hl.1 [.int 0, .ref ao] rfl (Nat.le_of_ble_eq_true rfl) dL_flourByRecords_4 (fun hc0 ce q9 H locs hP hD hS hce hcv hcl => ?_) (fun hc0 H locs hP hD hS => ?_)
  · rcases hc1 with rfl | rfl
    · exact absurd rfl hc0
    · refine gl_catch (E := "java/lang/IllegalArgumentException") hSN hSX G htab 0 (st := 0) (en := 9) (hp := 12) (ct := 13) [] [] rfl (List.forall_mem_nil _) (by decide +kernel) (by decide) q4_171 cs_1 hce hcv hcl ?_
      refine lv_astore_n (lv' := [(3, .ref q9), (0, .ref (a 209)), (1, .int p1), (2, .ref ao)]) hx hb dL_flourByRecords_12 rfl hl (by decide) rfl (fun ls hl => ?_)
      refine lv_iconst (v := 1) hx hb dL_flourByRecords_13 (by decide) ?_
      exact gl_ret (u := (s', g)) G hP hD hS rfl rfl (by decide) dL_flourByRecords_14
  · subst hc0
    refine lv_i2l hx hb dL_flourByRecords_7 rfl ?_
    refine gl_last rfl G hP hD hS dL_flourByRecords_8 (fun H locs hP hD hS => ?_)
    refine lv_goto (tgt := 15) hx hb dL_flourByRecords_9 (by decide) ?_
    refine lv_iconst (v := 0) hx hb dL_flourByRecords_15 (by decide) ?_
    exact gl_ret (u := (s', vp_updL g 0 (r.toInt64))) G hP hD hS rfl rfl (by decide) dL_flourByRecords_16
set_option maxHeartbeats 4000000 in
set_option maxRecDepth 100000 in
theorem mL_fullSacks (l : Launch) (hlt : l.stackTraces = false) (D : va_G) (cA : Nat → ClassId) (ad adF adW tt a : Nat → Nat) (fr : va_W) (ST : gST) (hT : STE ad adF adW tt ST) (hSX : STX ST) (hSN : STN ST) (p1 : Int32) (s0 : St) (c1 : Nat) (r : Int32) (s' : St) (ao : Nat) (g : Nat → Int64) (h : fX11_fullSacks p1 s0 = some ((c1, r), s')) (hc1 : c1 = 0 ∨ c1 = 1) : gMetL l yL_fullSacks cL_fullSacks 4 (some .int) [(0, 9, 12, 13)] 8 D (TYS cA) ST (wc cA ad a (ocL cA ao g :: fr) s0) [.ref (a 209), .int p1, .ref ao] (fun A => gQl D (TYS cA) A (fun u => wc cA ad a (ocL cA ao u.2 :: fr) u.1) (hix [1] c1) (s', if c1 = 0 then vp_updL g 0 (r.toInt64) else g)) := by
  refine g_ofWL hT.1 (by decide +kernel) (Nat.le_of_ble_eq_true rfl) ?_
  intro p e s m args below meth c ls A G htab hP hD hl
  have G : GC p s m args meth c cL_fullSacks 4 RL (some .int) A D (TYS cA) ST := G
  have hx := G.1
  have hb := G.2.1
  have hS : va_S A s.heap s.heap [] := va_S.rf
  have hl : lv_has ls 4 [(0, .ref (a 209)), (1, .int p1), (2, .ref ao)] := hl
  refine lv_aload_n hx hb dL_fullSacks_0 rfl (lv_at hl 2 rfl) ?_
  refine lv_iconst (v := 0) hx hb dL_fullSacks_1 (by decide) ?_
  refine lv_aload_n hx hb dL_fullSacks_2 rfl (lv_at hl 0 rfl) ?_
  refine lv_iload_n hx hb dL_fullSacks_3 rfl (lv_at hl 1 rfl) ?_
  refine gl_callVi (nA := 1) (mX11_fullSacks l hlt D cA ad adF adW tt a (ocL cA ao g :: fr) ST hT hSX p1 s0 c1 r s' h) G hP hD hS (g_good q6_71 q6_72 q6_73 q1_1 q6_74) (by decide +kernel) (by decide) (by decide) sc_209 rfl rfl hl.1 [.int 0, .ref ao] rfl (Nat.le_of_ble_eq_true rfl) dL_fullSacks_4 (fun hc0 ce q9 H locs hP hD hS hce hcv hcl => ?_) (fun hc0 H locs hP hD hS => ?_)
  · rcases hc1 with rfl | rfl
    · exact absurd rfl hc0
    · refine gl_catch (E := "java/lang/IllegalArgumentException") hSN hSX G htab 0 (st := 0) (en := 9) (hp := 12) (ct := 13) [] [] rfl (List.forall_mem_nil _) (by decide +kernel) (by decide) q4_171 cs_1 hce hcv hcl ?_
      refine lv_astore_n (lv' := [(3, .ref q9), (0, .ref (a 209)), (1, .int p1), (2, .ref ao)]) hx hb dL_fullSacks_12 rfl hl (by decide) rfl (fun ls hl => ?_)
      refine lv_iconst (v := 1) hx hb dL_fullSacks_13 (by decide) ?_
      exact gl_ret (u := (s', g)) G hP hD hS rfl rfl (by decide) dL_fullSacks_14
  · subst hc0
    refine lv_i2l hx hb dL_fullSacks_7 rfl ?_
    refine gl_last rfl G hP hD hS dL_fullSacks_8 (fun H locs hP hD hS => ?_)
    refine lv_goto (tgt := 15) hx hb dL_fullSacks_9 (by decide) ?_
    refine lv_iconst (v := 0) hx hb dL_fullSacks_15 (by decide) ?_
    exact gl_ret (u := (s', vp_updL g 0 (r.toInt64))) G hP hD hS rfl rfl (by decide) dL_fullSacks_16
set_option maxHeartbeats 4000000 in
set_option maxRecDepth 100000 in
theorem mL_gear (l : Launch) (hlt : l.stackTraces = false) (D : va_G) (cA : Nat → ClassId) (ad adF adW tt a : Nat → Nat) (fr : va_W) (ST : gST) (hT : STE ad adF adW tt ST) (hSX : STX ST) (hSN : STN ST) (p1 : Int32) (s0 : St) (c1 : Nat) (r : Int32) (s' : St) (ao : Nat) (g : Nat → Int64) (h : fX11_gear p1 s0 = some ((c1, r), s')) (hc1 : c1 = 0 ∨ c1 = 2) : gMetL l yL_gear cL_gear 4 (some .int) [(0, 9, 12, 27)] 8 D (TYS cA) ST (wc cA ad a (ocL cA ao g :: fr) s0) [.ref (a 209), .int p1, .ref ao] (fun A => gQl D (TYS cA) A (fun u => wc cA ad a (ocL cA ao u.2 :: fr) u.1) (hix [2] c1) (s', if c1 = 0 then vp_updL g 0 (r.toInt64) else g)) := by
  refine g_ofWL hT.1 (by decide +kernel) (Nat.le_of_ble_eq_true rfl) ?_
  intro p e s m args below meth c ls A G htab hP hD hl
  have G : GC p s m args meth c cL_gear 4 RL (some .int) A D (TYS cA) ST := G
  have hx := G.1
  have hb := G.2.1
  have hS : va_S A s.heap s.heap [] := va_S.rf
  have hl : lv_has ls 4 [(0, .ref (a 209)), (1, .int p1), (2, .ref ao)] := hl
  refine lv_aload_n hx hb dL_gear_0 rfl (lv_at hl 2 rfl) ?_
  refine lv_iconst (v := 0) hx hb dL_gear_1 (by decide) ?_
  refine lv_aload_n hx hb dL_gear_2 rfl (lv_at hl 0 rfl) ?_
  refine lv_iload_n hx hb dL_gear_3 rfl (lv_at hl 1 rfl) ?_
  refine gl_callVi (nA := 1) (mX11_gear l hlt D cA ad adF adW tt a (ocL cA ao g :: fr) ST hT hSX p1 s0 c1 r s' h) G hP hD hS (g_good q6_12 q6_13 q6_14 q1_1 q6_15) (by decide +kernel) (by decide) (by decide) sc_209 rfl rfl hl.1 [.int 0, .ref ao] rfl (Nat.le_of_ble_eq_true rfl) dL_gear_4 (fun hc0 ce q9 H locs hP hD hS hce hcv hcl => ?_) (fun hc0 H locs hP hD hS => ?_)
  · rcases hc1 with rfl | rfl
    · exact absurd rfl hc0
    · refine gl_catch (E := "java/lang/IndexOutOfBoundsException") hSN hSX G htab 0 (st := 0) (en := 9) (hp := 12) (ct := 27) [] [] rfl (List.forall_mem_nil _) (by decide +kernel) (by decide) q5_74 cs_2 hce hcv hcl ?_
      refine lv_astore_n (lv' := [(3, .ref q9), (0, .ref (a 209)), (1, .int p1), (2, .ref ao)]) hx hb dL_gear_12 rfl hl (by decide) rfl (fun ls hl => ?_)
      refine lv_iconst (v := 1) hx hb dL_gear_13 (by decide) ?_
      exact gl_ret (u := (s', g)) G hP hD hS rfl rfl (by decide) dL_gear_14
  · subst hc0
    refine lv_i2l hx hb dL_gear_7 rfl ?_
    refine gl_last rfl G hP hD hS dL_gear_8 (fun H locs hP hD hS => ?_)
    refine lv_goto (tgt := 15) hx hb dL_gear_9 (by decide) ?_
    refine lv_iconst (v := 0) hx hb dL_gear_15 (by decide) ?_
    exact gl_ret (u := (s', vp_updL g 0 (r.toInt64))) G hP hD hS rfl rfl (by decide) dL_gear_16
set_option maxHeartbeats 4000000 in
set_option maxRecDepth 100000 in
theorem mL_groundWithin (l : Launch) (hlt : l.stackTraces = false) (D : va_G) (cA : Nat → ClassId) (ad adF adW tt a : Nat → Nat) (fr : va_W) (ST : gST) (hT : STE ad adF adW tt ST) (hSX : STX ST) (hSN : STN ST) (nF : Nat) (p1 : Int32) (s0 : St) (c1 : Nat) (r : Int32) (s' : St) (ao : Nat) (g : Nat → Int64) (h : fX11_groundWithin nF p1 s0 = some ((c1, r), s')) (hc1 : c1 = 0 ∨ c1 = 1) : gMetL l yL_groundWithin cL_groundWithin 4 (some .int) [(0, 9, 12, 13)] 7 D (TYS cA) ST (wc cA ad a (ocL cA ao g :: fr) s0) [.ref (a 209), .int p1, .ref ao] (fun A => gQl D (TYS cA) A (fun u => wc cA ad a (ocL cA ao u.2 :: fr) u.1) (hix [1] c1) (s', if c1 = 0 then vp_updL g 0 (r.toInt64) else g)) := by
  refine g_ofWL hT.1 (by decide +kernel) (Nat.le_of_ble_eq_true rfl) ?_
  intro p e s m args below meth c ls A G htab hP hD hl
  have G : GC p s m args meth c cL_groundWithin 4 RL (some .int) A D (TYS cA) ST := G
  have hx := G.1
  have hb := G.2.1
  have hS : va_S A s.heap s.heap [] := va_S.rf
  have hl : lv_has ls 4 [(0, .ref (a 209)), (1, .int p1), (2, .ref ao)] := hl
  refine lv_aload_n hx hb dL_groundWithin_0 rfl (lv_at hl 2 rfl) ?_
  refine lv_iconst (v := 0) hx hb dL_groundWithin_1 (by decide) ?_
  refine lv_aload_n hx hb dL_groundWithin_2 rfl (lv_at hl 0 rfl) ?_
  refine lv_iload_n hx hb dL_groundWithin_3 rfl (lv_at hl 1 rfl) ?_
  refine gl_callVi (nA := 1) (mX11_groundWithin l hlt D cA ad adF adW tt a (ocL cA ao g :: fr) ST hT hSX nF p1 s0 c1 r s' h) G hP hD hS (g_good q6_129 q6_130 q6_131 q1_1 q6_132) (by decide +kernel) (by decide) (by decide) sc_209 rfl rfl hl.1 [.int 0, .ref ao] rfl (Nat.le_of_ble_eq_true rfl) dL_groundWithin_4 (fun hc0 ce q9 H locs hP hD hS hce hcv hcl => ?_) (fun hc0 H locs hP hD hS => ?_)
  · rcases hc1 with rfl | rfl
    · exact absurd rfl hc0
    · refine gl_catch (E := "java/lang/IllegalArgumentException") hSN hSX G htab 0 (st := 0) (en := 9) (hp := 12) (ct := 13) [] [] rfl (List.forall_mem_nil _) (by decide +kernel) (by decide) q4_171 cs_1 hce hcv hcl ?_
      refine lv_astore_n (lv' := [(3, .ref q9), (0, .ref (a 209)), (1, .int p1), (2, .ref ao)]) hx hb dL_groundWithin_12 rfl hl (by decide) rfl (fun ls hl => ?_)
      refine lv_iconst (v := 1) hx hb dL_groundWithin_13 (by decide) ?_
      exact gl_ret (u := (s', g)) G hP hD hS rfl rfl (by decide) dL_groundWithin_14
  · subst hc0
    refine lv_i2l hx hb dL_groundWithin_7 rfl ?_
    refine gl_last rfl G hP hD hS dL_groundWithin_8 (fun H locs hP hD hS => ?_)
    refine lv_goto (tgt := 15) hx hb dL_groundWithin_9 (by decide) ?_
    refine lv_iconst (v := 0) hx hb dL_groundWithin_15 (by decide) ?_
    exact gl_ret (u := (s', vp_updL g 0 (r.toInt64))) G hP hD hS rfl rfl (by decide) dL_groundWithin_16
set_option maxHeartbeats 4000000 in
set_option maxRecDepth 100000 in
theorem mL_isBandGround (l : Launch) (hlt : l.stackTraces = false) (D : va_G) (cA : Nat → ClassId) (ad adF adW tt a : Nat → Nat) (fr : va_W) (ST : gST) (hT : STE ad adF adW tt ST) (hSX : STX ST) (hSN : STN ST) (p1 : Int32) (s0 : St) (c1 : Nat) (r : Int32) (s' : St) (ao : Nat) (g : Nat → Int64) (h : fX11_isBandGround p1 s0 = some ((c1, r), s')) (hc1 : c1 = 0 ∨ c1 = 1) : gMetL l yL_isBandGround cL_isBandGround 4 (some .int) [(0, 16, 19, 13)] 8 D (TYS cA) ST (wc cA ad a (ocL cA ao g :: fr) s0) [.ref (a 209), .int p1, .ref ao] (fun A => gQl D (TYS cA) A (fun u => wc cA ad a (ocL cA ao u.2 :: fr) u.1) (hix [1] c1) (s', if c1 = 0 then vp_updL g 0 (if r = 0 then (0 : Int64) else 1) else g)) := by
  refine g_ofWL hT.1 (by decide +kernel) (Nat.le_of_ble_eq_true rfl) ?_
  intro p e s m args below meth c ls A G htab hP hD hl
  have G : GC p s m args meth c cL_isBandGround 4 RL (some .int) A D (TYS cA) ST := G
  have hx := G.1
  have hb := G.2.1
  have hS : va_S A s.heap s.heap [] := va_S.rf
  have hl : lv_has ls 4 [(0, .ref (a 209)), (1, .int p1), (2, .ref ao)] := hl
  refine lv_aload_n hx hb dL_isBandGround_0 rfl (lv_at hl 2 rfl) ?_
  refine lv_iconst (v := 0) hx hb dL_isBandGround_1 (by decide) ?_
  refine lv_aload_n hx hb dL_isBandGround_2 rfl (lv_at hl 0 rfl) ?_
  refine lv_iload_n hx hb dL_isBandGround_3 rfl (lv_at hl 1 rfl) ?_
  refine gl_callVi (nA := 1) (mX11_isBandGround l hlt D cA ad adF adW tt a (ocL cA ao g :: fr) ST hT hSX p1 s0 c1 r s' h) G hP hD hS (g_good q6_45 q6_46 q6_47 q1_1 q6_48) (by decide +kernel) (by decide) (by decide) sc_209 rfl rfl hl.1 [.int 0, .ref ao] rfl (Nat.le_of_ble_eq_true rfl) dL_isBandGround_4 (fun hc0 ce q9 H locs hP hD hS hce hcv hcl => ?_) (fun hc0 H locs hP hD hS => ?_)
  · rcases hc1 with rfl | rfl
    · exact absurd rfl hc0
    · refine gl_catch (E := "java/lang/IllegalArgumentException") hSN hSX G htab 0 (st := 0) (en := 16) (hp := 19) (ct := 13) [] [] rfl (List.forall_mem_nil _) (by decide +kernel) (by decide) q4_171 cs_1 hce hcv hcl ?_
      refine lv_astore_n (lv' := [(3, .ref q9), (0, .ref (a 209)), (1, .int p1), (2, .ref ao)]) hx hb dL_isBandGround_19 rfl hl (by decide) rfl (fun ls hl => ?_)
      refine lv_iconst (v := 1) hx hb dL_isBandGround_20 (by decide) ?_
      exact gl_ret (u := (s', g)) G hP hD hS rfl rfl (by decide) dL_isBandGround_21
  · subst hc0
    refine lv_if_eq (tgt := 14) hx hb dL_isBandGround_7 (by decide) (fun c9 => ?_) (fun c9 => ?_)
    · refine lv_lconst (v := 0) hx hb dL_isBandGround_14 rfl ?_
      refine gl_last rfl G hP hD hS dL_isBandGround_15 (fun H locs hP hD hS => ?_)
      refine lv_goto (tgt := 22) hx hb dL_isBandGround_16 (by decide) ?_
      refine lv_iconst (v := 0) hx hb dL_isBandGround_22 (by decide) ?_
      exact gl_ret (u := (s', vp_updL g 0 0)) G hP hD hS rfl (by rw [if_pos rfl, if_pos c9]) (by decide) dL_isBandGround_23
    · refine lv_lconst (v := 1) hx hb dL_isBandGround_10 rfl ?_
      refine lv_goto (tgt := 15) hx hb dL_isBandGround_11 (by decide) ?_
      refine gl_last rfl G hP hD hS dL_isBandGround_15 (fun H locs hP hD hS => ?_)
      refine lv_goto (tgt := 22) hx hb dL_isBandGround_16 (by decide) ?_
      refine lv_iconst (v := 0) hx hb dL_isBandGround_22 (by decide) ?_
      exact gl_ret (u := (s', vp_updL g 0 1)) G hP hD hS rfl (by rw [if_pos rfl, if_neg c9]) (by decide) dL_isBandGround_23
set_option maxHeartbeats 4000000 in
set_option maxRecDepth 100000 in
theorem mL_isJammed (l : Launch) (hlt : l.stackTraces = false) (D : va_G) (cA : Nat → ClassId) (ad adF adW tt a : Nat → Nat) (fr : va_W) (ST : gST) (hT : STE ad adF adW tt ST) (hSX : STX ST) (hSN : STN ST) (p1 : Int32) (s0 : St) (c1 : Nat) (r : Int32) (s' : St) (ao : Nat) (g : Nat → Int64) (h : fX11_isJammed p1 s0 = some ((c1, r), s')) (hc1 : c1 = 0 ∨ c1 = 2) : gMetL l yL_isJammed cL_isJammed 4 (some .int) [(0, 16, 19, 27)] 8 D (TYS cA) ST (wc cA ad a (ocL cA ao g :: fr) s0) [.ref (a 209), .int p1, .ref ao] (fun A => gQl D (TYS cA) A (fun u => wc cA ad a (ocL cA ao u.2 :: fr) u.1) (hix [2] c1) (s', if c1 = 0 then vp_updL g 0 (if r = 0 then (0 : Int64) else 1) else g)) := by
  refine g_ofWL hT.1 (by decide +kernel) (Nat.le_of_ble_eq_true rfl) ?_
  intro p e s m args below meth c ls A G htab hP hD hl
  have G : GC p s m args meth c cL_isJammed 4 RL (some .int) A D (TYS cA) ST := G
  have hx := G.1
  have hb := G.2.1
  have hS : va_S A s.heap s.heap [] := va_S.rf
  have hl : lv_has ls 4 [(0, .ref (a 209)), (1, .int p1), (2, .ref ao)] := hl
  refine lv_aload_n hx hb dL_isJammed_0 rfl (lv_at hl 2 rfl) ?_
  refine lv_iconst (v := 0) hx hb dL_isJammed_1 (by decide) ?_
  refine lv_aload_n hx hb dL_isJammed_2 rfl (lv_at hl 0 rfl) ?_
  refine lv_iload_n hx hb dL_isJammed_3 rfl (lv_at hl 1 rfl) ?_
  refine gl_callVi (nA := 1) (mX11_isJammed l hlt D cA ad adF adW tt a (ocL cA ao g :: fr) ST hT hSX p1 s0 c1 r s' h) G hP hD hS (g_good q6_26 q6_27 q6_28 q1_1 q6_29) (by decide +kernel) (by decide) (by decide) sc_209 rfl rfl hl.1 [.int 0, .ref ao] rfl (Nat.le_of_ble_eq_true rfl) dL_isJammed_4 (fun hc0 ce q9 H locs hP hD hS hce hcv hcl => ?_) (fun hc0 H locs hP hD hS => ?_)
  · rcases hc1 with rfl | rfl
    · exact absurd rfl hc0
    · refine gl_catch (E := "java/lang/IndexOutOfBoundsException") hSN hSX G htab 0 (st := 0) (en := 16) (hp := 19) (ct := 27) [] [] rfl (List.forall_mem_nil _) (by decide +kernel) (by decide) q5_74 cs_2 hce hcv hcl ?_
      refine lv_astore_n (lv' := [(3, .ref q9), (0, .ref (a 209)), (1, .int p1), (2, .ref ao)]) hx hb dL_isJammed_19 rfl hl (by decide) rfl (fun ls hl => ?_)
      refine lv_iconst (v := 1) hx hb dL_isJammed_20 (by decide) ?_
      exact gl_ret (u := (s', g)) G hP hD hS rfl rfl (by decide) dL_isJammed_21
  · subst hc0
    refine lv_if_eq (tgt := 14) hx hb dL_isJammed_7 (by decide) (fun c9 => ?_) (fun c9 => ?_)
    · refine lv_lconst (v := 0) hx hb dL_isJammed_14 rfl ?_
      refine gl_last rfl G hP hD hS dL_isJammed_15 (fun H locs hP hD hS => ?_)
      refine lv_goto (tgt := 22) hx hb dL_isJammed_16 (by decide) ?_
      refine lv_iconst (v := 0) hx hb dL_isJammed_22 (by decide) ?_
      exact gl_ret (u := (s', vp_updL g 0 0)) G hP hD hS rfl (by rw [if_pos rfl, if_pos c9]) (by decide) dL_isJammed_23
    · refine lv_lconst (v := 1) hx hb dL_isJammed_10 rfl ?_
      refine lv_goto (tgt := 15) hx hb dL_isJammed_11 (by decide) ?_
      refine gl_last rfl G hP hD hS dL_isJammed_15 (fun H locs hP hD hS => ?_)
      refine lv_goto (tgt := 22) hx hb dL_isJammed_16 (by decide) ?_
      refine lv_iconst (v := 0) hx hb dL_isJammed_22 (by decide) ?_
      exact gl_ret (u := (s', vp_updL g 0 1)) G hP hD hS rfl (by rw [if_pos rfl, if_neg c9]) (by decide) dL_isJammed_23
set_option maxHeartbeats 4000000 in
set_option maxRecDepth 100000 in
theorem mL_isWaiting (l : Launch) (hlt : l.stackTraces = false) (D : va_G) (cA : Nat → ClassId) (ad adF adW tt a : Nat → Nat) (fr : va_W) (ST : gST) (hT : STE ad adF adW tt ST) (hSX : STX ST) (hSN : STN ST) (nF : Nat) (p1 : Int32) (s0 : St) (c1 : Nat) (r : Int32) (s' : St) (ao : Nat) (g : Nat → Int64) (h : fX11_isWaiting nF p1 s0 = some ((c1, r), s')) (hc1 : c1 = 0 ∨ c1 = 3) : gMetL l yL_isWaiting cL_isWaiting 4 (some .int) [(0, 16, 19, 21)] 8 D (TYS cA) ST (wc cA ad a (ocL cA ao g :: fr) s0) [.ref (a 209), .int p1, .ref ao] (fun A => gQl D (TYS cA) A (fun u => wc cA ad a (ocL cA ao u.2 :: fr) u.1) (hix [3] c1) (s', if c1 = 0 then vp_updL g 0 (if r = 0 then (0 : Int64) else 1) else g)) := by
  refine g_ofWL hT.1 (by decide +kernel) (Nat.le_of_ble_eq_true rfl) ?_
  intro p e s m args below meth c ls A G htab hP hD hl
  have G : GC p s m args meth c cL_isWaiting 4 RL (some .int) A D (TYS cA) ST := G
  have hx := G.1
  have hb := G.2.1
  have hS : va_S A s.heap s.heap [] := va_S.rf
  have hl : lv_has ls 4 [(0, .ref (a 209)), (1, .int p1), (2, .ref ao)] := hl
  refine lv_aload_n hx hb dL_isWaiting_0 rfl (lv_at hl 2 rfl) ?_
  refine lv_iconst (v := 0) hx hb dL_isWaiting_1 (by decide) ?_
  refine lv_aload_n hx hb dL_isWaiting_2 rfl (lv_at hl 0 rfl) ?_
  refine lv_iload_n hx hb dL_isWaiting_3 rfl (lv_at hl 1 rfl) ?_
  refine gl_callVi (nA := 1) (mX11_isWaiting l hlt D cA ad adF adW tt a (ocL cA ao g :: fr) ST hT hSX nF p1 s0 c1 r s' h) G hP hD hS (g_good q5_221 q5_222 q5_223 q1_1 q5_224) (by decide +kernel) (by decide) (by decide) sc_209 rfl rfl hl.1 [.int 0, .ref ao] rfl (Nat.le_of_ble_eq_true rfl) dL_isWaiting_4 (fun hc0 ce q9 H locs hP hD hS hce hcv hcl => ?_) (fun hc0 H locs hP hD hS => ?_)
  · rcases hc1 with rfl | rfl
    · exact absurd rfl hc0
    · refine gl_catch (E := "java/util/NoSuchElementException") hSN hSX G htab 0 (st := 0) (en := 16) (hp := 19) (ct := 21) [] [] rfl (List.forall_mem_nil _) (by decide +kernel) (by decide) q5_51 cs_3 hce hcv hcl ?_
      refine lv_astore_n (lv' := [(3, .ref q9), (0, .ref (a 209)), (1, .int p1), (2, .ref ao)]) hx hb dL_isWaiting_19 rfl hl (by decide) rfl (fun ls hl => ?_)
      refine lv_iconst (v := 1) hx hb dL_isWaiting_20 (by decide) ?_
      exact gl_ret (u := (s', g)) G hP hD hS rfl rfl (by decide) dL_isWaiting_21
  · subst hc0
    refine lv_if_eq (tgt := 14) hx hb dL_isWaiting_7 (by decide) (fun c9 => ?_) (fun c9 => ?_)
    · refine lv_lconst (v := 0) hx hb dL_isWaiting_14 rfl ?_
      refine gl_last rfl G hP hD hS dL_isWaiting_15 (fun H locs hP hD hS => ?_)
      refine lv_goto (tgt := 22) hx hb dL_isWaiting_16 (by decide) ?_
      refine lv_iconst (v := 0) hx hb dL_isWaiting_22 (by decide) ?_
      exact gl_ret (u := (s', vp_updL g 0 0)) G hP hD hS rfl (by rw [if_pos rfl, if_pos c9]) (by decide) dL_isWaiting_23
    · refine lv_lconst (v := 1) hx hb dL_isWaiting_10 rfl ?_
      refine lv_goto (tgt := 15) hx hb dL_isWaiting_11 (by decide) ?_
      refine gl_last rfl G hP hD hS dL_isWaiting_15 (fun H locs hP hD hS => ?_)
      refine lv_goto (tgt := 22) hx hb dL_isWaiting_16 (by decide) ?_
      refine lv_iconst (v := 0) hx hb dL_isWaiting_22 (by decide) ?_
      exact gl_ret (u := (s', vp_updL g 0 1)) G hP hD hS rfl (by rw [if_pos rfl, if_neg c9]) (by decide) dL_isWaiting_23
set_option maxHeartbeats 4000000 in
set_option maxRecDepth 100000 in
theorem mL_lostShare (l : Launch) (hlt : l.stackTraces = false) (D : va_G) (cA : Nat → ClassId) (ad adF adW tt a : Nat → Nat) (fr : va_W) (ST : gST) (hT : STE ad adF adW tt ST) (hSX : STX ST) (hSN : STN ST) (s0 : St) (c1 : Nat) (r : UInt32) (s' : St) (ao : Nat) (g : Nat → UInt64) (h : fX11_lostShare s0 = some ((c1, r), s')) (hc1 : c1 = 0 ∨ c1 = 6) (hnn : c1 = 0 → vf_n64 (FP.f2d r)) : gMetL l yL_lostShare cL_lostShare 3 (some .int) [(0, 8, 11, 135)] 7 D (TYS cA) ST (wc cA ad a (ocD cA ao g :: fr) s0) [.ref (a 209), .ref ao] (fun A => gQl D (TYS cA) A (fun u => wc cA ad a (ocD cA ao u.2 :: fr) u.1) (hix [6] c1) (s', if c1 = 0 then (fun j => if j = 0 then (FP.f2d r) else g j) else g)) := by
  refine g_ofWL hT.1 (by decide +kernel) (Nat.le_of_ble_eq_true rfl) ?_
  intro p e s m args below meth c ls A G htab hP hD hl
  have G : GC p s m args meth c cL_lostShare 3 RL (some .int) A D (TYS cA) ST := G
  have hx := G.1
  have hb := G.2.1
  have hS : va_S A s.heap s.heap [] := va_S.rf
  have hl : lv_has ls 3 [(0, .ref (a 209)), (1, .ref ao)] := hl
  refine lv_aload_n hx hb dL_lostShare_0 rfl (lv_at hl 1 rfl) ?_
  refine lv_iconst (v := 0) hx hb dL_lostShare_1 (by decide) ?_
  refine lv_aload_n hx hb dL_lostShare_2 rfl (lv_at hl 0 rfl) ?_
  refine gl_callVf (nA := 0) (mX11_lostShare l hlt D cA ad adF adW tt a (ocD cA ao g :: fr) ST hT hSX  s0 c1 r s' h) G hP hD hS (g_good q6_229 q6_230 q6_231 q1_1 q6_232) (by decide +kernel) (by decide) (by decide) sc_209 rfl rfl hl.1 [.int 0, .ref ao] rfl (Nat.le_of_ble_eq_true rfl) dL_lostShare_3 (fun hc0 ce q9 H locs hP hD hS hce hcv hcl => ?_) (fun hc0 H locs hP hD hS => ?_)
  · rcases hc1 with rfl | rfl
    · exact absurd rfl hc0
    · refine gl_catch (E := "java/lang/ArithmeticException") hSN hSX G htab 0 (st := 0) (en := 8) (hp := 11) (ct := 135) [] [] rfl (List.forall_mem_nil _) (by decide +kernel) (by decide) q6_201 cs_6 hce hcv hcl ?_
      refine lv_astore_n (lv' := [(2, .ref q9), (0, .ref (a 209)), (1, .ref ao)]) hx hb dL_lostShare_11 rfl hl (by decide) rfl (fun ls hl => ?_)
      refine lv_iconst (v := 1) hx hb dL_lostShare_12 (by decide) ?_
      exact gl_ret (u := (s', g)) G hP hD hS rfl rfl (by decide) dL_lostShare_13
  · subst hc0
    refine lv_f2d hx hb dL_lostShare_6 (hnn rfl) ?_
    refine gl_dast rfl G hP hD hS dL_lostShare_7 (fun H locs hP hD hS => ?_)
    refine lv_goto (tgt := 14) hx hb dL_lostShare_8 (by decide) ?_
    refine lv_iconst (v := 0) hx hb dL_lostShare_14 (by decide) ?_
    exact gl_ret (u := (s', (fun j => if j = 0 then (FP.f2d r) else g j))) G hP hD hS rfl rfl (by decide) dL_lostShare_15
set_option maxHeartbeats 4000000 in
set_option maxRecDepth 100000 in
theorem mL_loudness (l : Launch) (hlt : l.stackTraces = false) (D : va_G) (cA : Nat → ClassId) (ad adF adW tt a : Nat → Nat) (fr : va_W) (ST : gST) (hT : STE ad adF adW tt ST) (hSX : STX ST) (hSN : STN ST) (nF : Nat) (p1 : Int32) (s0 : St) (c1 : Nat) (r : Int32) (s' : St) (ao : Nat) (g : Nat → Int64) (h : fX11_loudness nF p1 s0 = some ((c1, r), s')) (hc1 : c1 = 0 ∨ c1 = 3) : gMetL l yL_loudness cL_loudness 4 (some .int) [(0, 9, 12, 21)] 8 D (TYS cA) ST (wc cA ad a (ocL cA ao g :: fr) s0) [.ref (a 209), .int p1, .ref ao] (fun A => gQl D (TYS cA) A (fun u => wc cA ad a (ocL cA ao u.2 :: fr) u.1) (hix [3] c1) (s', if c1 = 0 then vp_updL g 0 (r.toInt64) else g)) := by
  refine g_ofWL hT.1 (by decide +kernel) (Nat.le_of_ble_eq_true rfl) ?_
  intro p e s m args below meth c ls A G htab hP hD hl
  have G : GC p s m args meth c cL_loudness 4 RL (some .int) A D (TYS cA) ST := G
  have hx := G.1
  have hb := G.2.1
  have hS : va_S A s.heap s.heap [] := va_S.rf
  have hl : lv_has ls 4 [(0, .ref (a 209)), (1, .int p1), (2, .ref ao)] := hl
  refine lv_aload_n hx hb dL_loudness_0 rfl (lv_at hl 2 rfl) ?_
  refine lv_iconst (v := 0) hx hb dL_loudness_1 (by decide) ?_
  refine lv_aload_n hx hb dL_loudness_2 rfl (lv_at hl 0 rfl) ?_
  refine lv_iload_n hx hb dL_loudness_3 rfl (lv_at hl 1 rfl) ?_
  refine gl_callVi (nA := 1) (mX11_loudness l hlt D cA ad adF adW tt a (ocL cA ao g :: fr) ST hT hSX nF p1 s0 c1 r s' h) G hP hD hS (g_good q5_207 q5_208 q5_209 q1_1 q5_210) (by decide +kernel) (by decide) (by decide) sc_209 rfl rfl hl.1 [.int 0, .ref ao] rfl (Nat.le_of_ble_eq_true rfl) dL_loudness_4 (fun hc0 ce q9 H locs hP hD hS hce hcv hcl => ?_) (fun hc0 H locs hP hD hS => ?_)
  · rcases hc1 with rfl | rfl
    · exact absurd rfl hc0
    · refine gl_catch (E := "java/util/NoSuchElementException") hSN hSX G htab 0 (st := 0) (en := 9) (hp := 12) (ct := 21) [] [] rfl (List.forall_mem_nil _) (by decide +kernel) (by decide) q5_51 cs_3 hce hcv hcl ?_
      refine lv_astore_n (lv' := [(3, .ref q9), (0, .ref (a 209)), (1, .int p1), (2, .ref ao)]) hx hb dL_loudness_12 rfl hl (by decide) rfl (fun ls hl => ?_)
      refine lv_iconst (v := 1) hx hb dL_loudness_13 (by decide) ?_
      exact gl_ret (u := (s', g)) G hP hD hS rfl rfl (by decide) dL_loudness_14
  · subst hc0
    refine lv_i2l hx hb dL_loudness_7 rfl ?_
    refine gl_last rfl G hP hD hS dL_loudness_8 (fun H locs hP hD hS => ?_)
    refine lv_goto (tgt := 15) hx hb dL_loudness_9 (by decide) ?_
    refine lv_iconst (v := 0) hx hb dL_loudness_15 (by decide) ?_
    exact gl_ret (u := (s', vp_updL g 0 (r.toInt64))) G hP hD hS rfl rfl (by decide) dL_loudness_16
set_option maxHeartbeats 4000000 in
set_option maxRecDepth 100000 in
theorem mL_meanLoudness (l : Launch) (hlt : l.stackTraces = false) (D : va_G) (cA : Nat → ClassId) (ad adF adW tt a : Nat → Nat) (fr : va_W) (ST : gST) (hT : STE ad adF adW tt ST) (hSX : STX ST) (hSN : STN ST) (nF : Nat) (s0 : St) (c1 : Nat) (r : UInt64) (s' : St) (ao : Nat) (g : Nat → UInt64) (h : fX11_meanLoudness nF s0 = some ((c1, r), s')) (hc1 : c1 = 0 ∨ c1 = 6) : gMetL l yL_meanLoudness cL_meanLoudness 3 (some .int) [(0, 7, 10, 135)] 7 D (TYS cA) ST (wc cA ad a (ocD cA ao g :: fr) s0) [.ref (a 209), .ref ao] (fun A => gQl D (TYS cA) A (fun u => wc cA ad a (ocD cA ao u.2 :: fr) u.1) (hix [6] c1) (s', if c1 = 0 then (fun j => if j = 0 then r else g j) else g)) := by
  refine g_ofWL hT.1 (by decide +kernel) (Nat.le_of_ble_eq_true rfl) ?_
  intro p e s m args below meth c ls A G htab hP hD hl
  have G : GC p s m args meth c cL_meanLoudness 3 RL (some .int) A D (TYS cA) ST := G
  have hx := G.1
  have hb := G.2.1
  have hS : va_S A s.heap s.heap [] := va_S.rf
  have hl : lv_has ls 3 [(0, .ref (a 209)), (1, .ref ao)] := hl
  refine lv_aload_n hx hb dL_meanLoudness_0 rfl (lv_at hl 1 rfl) ?_
  refine lv_iconst (v := 0) hx hb dL_meanLoudness_1 (by decide) ?_
  refine lv_aload_n hx hb dL_meanLoudness_2 rfl (lv_at hl 0 rfl) ?_
  refine gl_callVd (nA := 0) (mX11_meanLoudness l hlt D cA ad adF adW tt a (ocD cA ao g :: fr) ST hT hSX nF  s0 c1 r s' h) G hP hD hS (g_good q6_215 q6_216 q6_217 q1_1 q6_218) (by decide +kernel) (by decide) (by decide) sc_209 rfl rfl hl.1 [.int 0, .ref ao] rfl (Nat.le_of_ble_eq_true rfl) dL_meanLoudness_3 (fun hc0 ce q9 H locs hP hD hS hce hcv hcl => ?_) (fun hc0 H locs hP hD hS => ?_)
  · rcases hc1 with rfl | rfl
    · exact absurd rfl hc0
    · refine gl_catch (E := "java/lang/ArithmeticException") hSN hSX G htab 0 (st := 0) (en := 7) (hp := 10) (ct := 135) [] [] rfl (List.forall_mem_nil _) (by decide +kernel) (by decide) q6_201 cs_6 hce hcv hcl ?_
      refine lv_astore_n (lv' := [(2, .ref q9), (0, .ref (a 209)), (1, .ref ao)]) hx hb dL_meanLoudness_10 rfl hl (by decide) rfl (fun ls hl => ?_)
      refine lv_iconst (v := 1) hx hb dL_meanLoudness_11 (by decide) ?_
      exact gl_ret (u := (s', g)) G hP hD hS rfl rfl (by decide) dL_meanLoudness_12
  · subst hc0
    refine gl_dast rfl G hP hD hS dL_meanLoudness_6 (fun H locs hP hD hS => ?_)
    refine lv_goto (tgt := 13) hx hb dL_meanLoudness_7 (by decide) ?_
    refine lv_iconst (v := 0) hx hb dL_meanLoudness_13 (by decide) ?_
    exact gl_ret (u := (s', (fun j => if j = 0 then r else g j))) G hP hD hS rfl rfl (by decide) dL_meanLoudness_14
set_option maxHeartbeats 4000000 in
set_option maxRecDepth 100000 in
theorem mL_mesh (l : Launch) (hlt : l.stackTraces = false) (D : va_G) (cA : Nat → ClassId) (ad adF adW tt a : Nat → Nat) (fr : va_W) (ST : gST) (hT : STE ad adF adW tt ST) (hSX : STX ST) (hSN : STN ST) (p1 : Int32) (s0 : St) (c1 : Nat) (r : Int32) (s' : St) (ao : Nat) (g : Nat → Int64) (h : fX11_mesh p1 s0 = some ((c1, r), s')) (hc1 : c1 = 0 ∨ c1 = 1) : gMetL l yL_mesh cL_mesh 4 (some .int) [(0, 9, 12, 13)] 8 D (TYS cA) ST (wc cA ad a (ocL cA ao g :: fr) s0) [.ref (a 209), .int p1, .ref ao] (fun A => gQl D (TYS cA) A (fun u => wc cA ad a (ocL cA ao u.2 :: fr) u.1) (hix [1] c1) (s', if c1 = 0 then vp_updL g 0 (r.toInt64) else g)) := by
  refine g_ofWL hT.1 (by decide +kernel) (Nat.le_of_ble_eq_true rfl) ?_
  intro p e s m args below meth c ls A G htab hP hD hl
  have G : GC p s m args meth c cL_mesh 4 RL (some .int) A D (TYS cA) ST := G
  have hx := G.1
  have hb := G.2.1
  have hS : va_S A s.heap s.heap [] := va_S.rf
  have hl : lv_has ls 4 [(0, .ref (a 209)), (1, .int p1), (2, .ref ao)] := hl
  refine lv_aload_n hx hb dL_mesh_0 rfl (lv_at hl 2 rfl) ?_
  refine lv_iconst (v := 0) hx hb dL_mesh_1 (by decide) ?_
  refine lv_aload_n hx hb dL_mesh_2 rfl (lv_at hl 0 rfl) ?_
  refine lv_iload_n hx hb dL_mesh_3 rfl (lv_at hl 1 rfl) ?_
  refine gl_callVi (nA := 1) (mX11_mesh l hlt D cA ad adF adW tt a (ocL cA ao g :: fr) ST hT hSX p1 s0 c1 r s' h) G hP hD hS (g_good q6_33 q6_34 q6_35 q1_1 q6_36) (by decide +kernel) (by decide) (by decide) sc_209 rfl rfl hl.1 [.int 0, .ref ao] rfl (Nat.le_of_ble_eq_true rfl) dL_mesh_4 (fun hc0 ce q9 H locs hP hD hS hce hcv hcl => ?_) (fun hc0 H locs hP hD hS => ?_)
  · rcases hc1 with rfl | rfl
    · exact absurd rfl hc0
    · refine gl_catch (E := "java/lang/IllegalArgumentException") hSN hSX G htab 0 (st := 0) (en := 9) (hp := 12) (ct := 13) [] [] rfl (List.forall_mem_nil _) (by decide +kernel) (by decide) q4_171 cs_1 hce hcv hcl ?_
      refine lv_astore_n (lv' := [(3, .ref q9), (0, .ref (a 209)), (1, .int p1), (2, .ref ao)]) hx hb dL_mesh_12 rfl hl (by decide) rfl (fun ls hl => ?_)
      refine lv_iconst (v := 1) hx hb dL_mesh_13 (by decide) ?_
      exact gl_ret (u := (s', g)) G hP hD hS rfl rfl (by decide) dL_mesh_14
  · subst hc0
    refine lv_i2l hx hb dL_mesh_7 rfl ?_
    refine gl_last rfl G hP hD hS dL_mesh_8 (fun H locs hP hD hS => ?_)
    refine lv_goto (tgt := 15) hx hb dL_mesh_9 (by decide) ?_
    refine lv_iconst (v := 0) hx hb dL_mesh_15 (by decide) ?_
    exact gl_ret (u := (s', vp_updL g 0 (r.toInt64))) G hP hD hS rfl rfl (by decide) dL_mesh_16
set_option maxHeartbeats 4000000 in
set_option maxRecDepth 100000 in
theorem mL_noiseOn (l : Launch) (hlt : l.stackTraces = false) (D : va_G) (cA : Nat → ClassId) (ad adF adW tt a : Nat → Nat) (fr : va_W) (ST : gST) (hT : STE ad adF adW tt ST) (hSX : STX ST) (hSN : STN ST) (p1 : Int32) (s0 : St) (c1 : Nat) (r : Int32) (s' : St) (ao : Nat) (g : Nat → Int64) (h : fX11_noiseOn p1 s0 = some ((c1, r), s')) (hc1 : c1 = 0 ∨ c1 = 2 ∨ c1 = 3) : gMetL l yL_noiseOn cL_noiseOn 4 (some .int) [(0, 9, 12, 27), (0, 9, 15, 21)] 8 D (TYS cA) ST (wc cA ad a (ocL cA ao g :: fr) s0) [.ref (a 209), .int p1, .ref ao] (fun A => gQl D (TYS cA) A (fun u => wc cA ad a (ocL cA ao u.2 :: fr) u.1) (hix [2, 3] c1) (s', if c1 = 0 then vp_updL g 0 (r.toInt64) else g)) := by
  refine g_ofWL hT.1 (by decide +kernel) (Nat.le_of_ble_eq_true rfl) ?_
  intro p e s m args below meth c ls A G htab hP hD hl
  have G : GC p s m args meth c cL_noiseOn 4 RL (some .int) A D (TYS cA) ST := G
  have hx := G.1
  have hb := G.2.1
  have hS : va_S A s.heap s.heap [] := va_S.rf
  have hl : lv_has ls 4 [(0, .ref (a 209)), (1, .int p1), (2, .ref ao)] := hl
  refine lv_aload_n hx hb dL_noiseOn_0 rfl (lv_at hl 2 rfl) ?_
  refine lv_iconst (v := 0) hx hb dL_noiseOn_1 (by decide) ?_
  refine lv_aload_n hx hb dL_noiseOn_2 rfl (lv_at hl 0 rfl) ?_
  refine lv_iload_n hx hb dL_noiseOn_3 rfl (lv_at hl 1 rfl) ?_
  refine gl_callVi (nA := 1) (mX11_noiseOn l hlt D cA ad adF adW tt a (ocL cA ao g :: fr) ST hT hSX p1 s0 c1 r s' h) G hP hD hS (g_good q5_239 q6_0 q6_1 q1_1 q6_2) (by decide +kernel) (by decide) (by decide) sc_209 rfl rfl hl.1 [.int 0, .ref ao] rfl (Nat.le_of_ble_eq_true rfl) dL_noiseOn_4 (fun hc0 ce q9 H locs hP hD hS hce hcv hcl => ?_) (fun hc0 H locs hP hD hS => ?_)
  · rcases hc1 with rfl | rfl | rfl
    · exact absurd rfl hc0
    · refine gl_catch (E := "java/lang/IndexOutOfBoundsException") hSN hSX G htab 0 (st := 0) (en := 9) (hp := 12) (ct := 27) [] [(0, 9, 15, 21)] rfl (List.forall_mem_nil _) (by decide +kernel) (by decide) q5_74 cs_2 hce hcv hcl ?_
      refine lv_astore_n (lv' := [(3, .ref q9), (0, .ref (a 209)), (1, .int p1), (2, .ref ao)]) hx hb dL_noiseOn_12 rfl hl (by decide) rfl (fun ls hl => ?_)
      refine lv_iconst (v := 1) hx hb dL_noiseOn_13 (by decide) ?_
      exact gl_ret (u := (s', g)) G hP hD hS rfl rfl (by decide) dL_noiseOn_14
    · refine gl_catch (E := "java/util/NoSuchElementException") hSN hSX G htab 1 (st := 0) (en := 9) (hp := 15) (ct := 21) [(0, 9, 12, 27)] [] rfl (List.forall_mem_cons.mpr ⟨⟨by decide, "java/lang/IndexOutOfBoundsException", q5_74, (List.mem_of_getElem? (i := 5) rfl)⟩, List.forall_mem_nil _⟩) (by decide +kernel) (by decide) q5_51 cs_3 hce hcv hcl ?_
      refine lv_astore_n (lv' := [(3, .ref q9), (0, .ref (a 209)), (1, .int p1), (2, .ref ao)]) hx hb dL_noiseOn_15 rfl hl (by decide) rfl (fun ls hl => ?_)
      refine lv_iconst (v := 2) hx hb dL_noiseOn_16 (by decide) ?_
      exact gl_ret (u := (s', g)) G hP hD hS rfl rfl (by decide) dL_noiseOn_17
  · subst hc0
    refine lv_i2l hx hb dL_noiseOn_7 rfl ?_
    refine gl_last rfl G hP hD hS dL_noiseOn_8 (fun H locs hP hD hS => ?_)
    refine lv_goto (tgt := 18) hx hb dL_noiseOn_9 (by decide) ?_
    refine lv_iconst (v := 0) hx hb dL_noiseOn_18 (by decide) ?_
    exact gl_ret (u := (s', vp_updL g 0 (r.toInt64))) G hP hD hS rfl rfl (by decide) dL_noiseOn_19
set_option maxHeartbeats 4000000 in
set_option maxRecDepth 100000 in
theorem mL_openSack (l : Launch) (hlt : l.stackTraces = false) (D : va_G) (cA : Nat → ClassId) (ad adF adW tt a : Nat → Nat) (fr : va_W) (ST : gST) (hT : STE ad adF adW tt ST) (hSX : STX ST) (hSN : STN ST) (p1 : Int32) (s0 : St) (c1 : Nat) (r : Int32) (s' : St) (ao : Nat) (g : Nat → Int64) (h : fX11_openSack p1 s0 = some ((c1, r), s')) (hc1 : c1 = 0 ∨ c1 = 1) : gMetL l yL_openSack cL_openSack 4 (some .int) [(0, 9, 12, 13)] 8 D (TYS cA) ST (wc cA ad a (ocL cA ao g :: fr) s0) [.ref (a 209), .int p1, .ref ao] (fun A => gQl D (TYS cA) A (fun u => wc cA ad a (ocL cA ao u.2 :: fr) u.1) (hix [1] c1) (s', if c1 = 0 then vp_updL g 0 (r.toInt64) else g)) := by
  refine g_ofWL hT.1 (by decide +kernel) (Nat.le_of_ble_eq_true rfl) ?_
  intro p e s m args below meth c ls A G htab hP hD hl
  have G : GC p s m args meth c cL_openSack 4 RL (some .int) A D (TYS cA) ST := G
  have hx := G.1
  have hb := G.2.1
  have hS : va_S A s.heap s.heap [] := va_S.rf
  have hl : lv_has ls 4 [(0, .ref (a 209)), (1, .int p1), (2, .ref ao)] := hl
  refine lv_aload_n hx hb dL_openSack_0 rfl (lv_at hl 2 rfl) ?_
  refine lv_iconst (v := 0) hx hb dL_openSack_1 (by decide) ?_
  refine lv_aload_n hx hb dL_openSack_2 rfl (lv_at hl 0 rfl) ?_
  refine lv_iload_n hx hb dL_openSack_3 rfl (lv_at hl 1 rfl) ?_
  refine gl_callVi (nA := 1) (mX11_openSack l hlt D cA ad adF adW tt a (ocL cA ao g :: fr) ST hT hSX p1 s0 c1 r s' h) G hP hD hS (g_good q6_78 q6_79 q6_80 q1_1 q6_81) (by decide +kernel) (by decide) (by decide) sc_209 rfl rfl hl.1 [.int 0, .ref ao] rfl (Nat.le_of_ble_eq_true rfl) dL_openSack_4 (fun hc0 ce q9 H locs hP hD hS hce hcv hcl => ?_) (fun hc0 H locs hP hD hS => ?_)
  · rcases hc1 with rfl | rfl
    · exact absurd rfl hc0
    · refine gl_catch (E := "java/lang/IllegalArgumentException") hSN hSX G htab 0 (st := 0) (en := 9) (hp := 12) (ct := 13) [] [] rfl (List.forall_mem_nil _) (by decide +kernel) (by decide) q4_171 cs_1 hce hcv hcl ?_
      refine lv_astore_n (lv' := [(3, .ref q9), (0, .ref (a 209)), (1, .int p1), (2, .ref ao)]) hx hb dL_openSack_12 rfl hl (by decide) rfl (fun ls hl => ?_)
      refine lv_iconst (v := 1) hx hb dL_openSack_13 (by decide) ?_
      exact gl_ret (u := (s', g)) G hP hD hS rfl rfl (by decide) dL_openSack_14
  · subst hc0
    refine lv_i2l hx hb dL_openSack_7 rfl ?_
    refine gl_last rfl G hP hD hS dL_openSack_8 (fun H locs hP hD hS => ?_)
    refine lv_goto (tgt := 15) hx hb dL_openSack_9 (by decide) ?_
    refine lv_iconst (v := 0) hx hb dL_openSack_15 (by decide) ?_
    exact gl_ret (u := (s', vp_updL g 0 (r.toInt64))) G hP hD hS rfl rfl (by decide) dL_openSack_16
set_option maxHeartbeats 4000000 in
set_option maxRecDepth 100000 in
theorem mL_rankOf (l : Launch) (hlt : l.stackTraces = false) (D : va_G) (cA : Nat → ClassId) (ad adF adW tt a : Nat → Nat) (fr : va_W) (ST : gST) (hT : STE ad adF adW tt ST) (hSX : STX ST) (hSN : STN ST) (nF : Nat) (p1 : Int32) (s0 : St) (c1 : Nat) (r : Int32) (s' : St) (ao : Nat) (g : Nat → Int64) (h : fX11_rankOf nF p1 s0 = some ((c1, r), s')) (hc1 : c1 = 0 ∨ c1 = 3 ∨ c1 = 4) : gMetL l yL_rankOf cL_rankOf 4 (some .int) [(0, 9, 12, 21), (0, 9, 15, 15)] 8 D (TYS cA) ST (wc cA ad a (ocL cA ao g :: fr) s0) [.ref (a 209), .int p1, .ref ao] (fun A => gQl D (TYS cA) A (fun u => wc cA ad a (ocL cA ao u.2 :: fr) u.1) (hix [3, 4] c1) (s', if c1 = 0 then vp_updL g 0 (r.toInt64) else g)) := by
  refine g_ofWL hT.1 (by decide +kernel) (Nat.le_of_ble_eq_true rfl) ?_
  intro p e s m args below meth c ls A G htab hP hD hl
  have G : GC p s m args meth c cL_rankOf 4 RL (some .int) A D (TYS cA) ST := G
  have hx := G.1
  have hb := G.2.1
  have hS : va_S A s.heap s.heap [] := va_S.rf
  have hl : lv_has ls 4 [(0, .ref (a 209)), (1, .int p1), (2, .ref ao)] := hl
  refine lv_aload_n hx hb dL_rankOf_0 rfl (lv_at hl 2 rfl) ?_
  refine lv_iconst (v := 0) hx hb dL_rankOf_1 (by decide) ?_
  refine lv_aload_n hx hb dL_rankOf_2 rfl (lv_at hl 0 rfl) ?_
  refine lv_iload_n hx hb dL_rankOf_3 rfl (lv_at hl 1 rfl) ?_
  refine gl_callVi (nA := 1) (mX11_rankOf l hlt D cA ad adF adW tt a (ocL cA ao g :: fr) ST hT hSX nF p1 s0 c1 r s' h) G hP hD hS (g_good q5_187 q5_188 q5_189 q1_1 q5_190) (by decide +kernel) (by decide) (by decide) sc_209 rfl rfl hl.1 [.int 0, .ref ao] rfl (Nat.le_of_ble_eq_true rfl) dL_rankOf_4 (fun hc0 ce q9 H locs hP hD hS hce hcv hcl => ?_) (fun hc0 H locs hP hD hS => ?_)
  · rcases hc1 with rfl | rfl | rfl
    · exact absurd rfl hc0
    · refine gl_catch (E := "java/util/NoSuchElementException") hSN hSX G htab 0 (st := 0) (en := 9) (hp := 12) (ct := 21) [] [(0, 9, 15, 15)] rfl (List.forall_mem_nil _) (by decide +kernel) (by decide) q5_51 cs_3 hce hcv hcl ?_
      refine lv_astore_n (lv' := [(3, .ref q9), (0, .ref (a 209)), (1, .int p1), (2, .ref ao)]) hx hb dL_rankOf_12 rfl hl (by decide) rfl (fun ls hl => ?_)
      refine lv_iconst (v := 1) hx hb dL_rankOf_13 (by decide) ?_
      exact gl_ret (u := (s', g)) G hP hD hS rfl rfl (by decide) dL_rankOf_14
    · refine gl_catch (E := "java/lang/IllegalStateException") hSN hSX G htab 1 (st := 0) (en := 9) (hp := 15) (ct := 15) [(0, 9, 12, 21)] [] rfl (List.forall_mem_cons.mpr ⟨⟨by decide, "java/util/NoSuchElementException", q5_51, (List.mem_of_getElem? (i := 3) rfl)⟩, List.forall_mem_nil _⟩) (by decide +kernel) (by decide) q4_172 cs_4 hce hcv hcl ?_
      refine lv_astore_n (lv' := [(3, .ref q9), (0, .ref (a 209)), (1, .int p1), (2, .ref ao)]) hx hb dL_rankOf_15 rfl hl (by decide) rfl (fun ls hl => ?_)
      refine lv_iconst (v := 2) hx hb dL_rankOf_16 (by decide) ?_
      exact gl_ret (u := (s', g)) G hP hD hS rfl rfl (by decide) dL_rankOf_17
  · subst hc0
    refine lv_i2l hx hb dL_rankOf_7 rfl ?_
    refine gl_last rfl G hP hD hS dL_rankOf_8 (fun H locs hP hD hS => ?_)
    refine lv_goto (tgt := 18) hx hb dL_rankOf_9 (by decide) ?_
    refine lv_iconst (v := 0) hx hb dL_rankOf_18 (by decide) ?_
    exact gl_ret (u := (s', vp_updL g 0 (r.toInt64))) G hP hD hS rfl rfl (by decide) dL_rankOf_19
set_option maxHeartbeats 4000000 in
set_option maxRecDepth 100000 in
theorem mL_recorded (l : Launch) (hlt : l.stackTraces = false) (D : va_G) (cA : Nat → ClassId) (ad adF adW tt a : Nat → Nat) (fr : va_W) (ST : gST) (hT : STE ad adF adW tt ST) (hSX : STX ST) (hSN : STN ST) (p1 : Int32) (p2 : Int32) (s0 : St) (c1 : Nat) (r : Int32) (s' : St) (ao : Nat) (g : Nat → Int64) (h : fX11_recorded p1 p2 s0 = some ((c1, r), s')) (hc1 : c1 = 0 ∨ c1 = 1) : gMetL l yL_recorded cL_recorded 5 (some .int) [(0, 10, 13, 13)] 8 D (TYS cA) ST (wc cA ad a (ocL cA ao g :: fr) s0) [.ref (a 209), .int p1, .int p2, .ref ao] (fun A => gQl D (TYS cA) A (fun u => wc cA ad a (ocL cA ao u.2 :: fr) u.1) (hix [1] c1) (s', if c1 = 0 then vp_updL g 0 (r.toInt64) else g)) := by
  refine g_ofWL hT.1 (by decide +kernel) (Nat.le_of_ble_eq_true rfl) ?_
  intro p e s m args below meth c ls A G htab hP hD hl
  have G : GC p s m args meth c cL_recorded 5 RL (some .int) A D (TYS cA) ST := G
  have hx := G.1
  have hb := G.2.1
  have hS : va_S A s.heap s.heap [] := va_S.rf
  have hl : lv_has ls 5 [(0, .ref (a 209)), (1, .int p1), (2, .int p2), (3, .ref ao)] := hl
  refine lv_aload_n hx hb dL_recorded_0 rfl (lv_at hl 3 rfl) ?_
  refine lv_iconst (v := 0) hx hb dL_recorded_1 (by decide) ?_
  refine lv_aload_n hx hb dL_recorded_2 rfl (lv_at hl 0 rfl) ?_
  refine lv_iload_n hx hb dL_recorded_3 rfl (lv_at hl 1 rfl) ?_
  refine lv_iload_n hx hb dL_recorded_4 rfl (lv_at hl 2 rfl) ?_
  refine gl_callVi (nA := 2) (mX11_recorded l hlt D cA ad adF adW tt a (ocL cA ao g :: fr) ST hT hSX p1 p2 s0 c1 r s' h) G hP hD hS (g_good q6_92 q6_93 q6_94 q1_1 q6_95) (by decide +kernel) (by decide) (by decide) sc_209 rfl rfl hl.1 [.int 0, .ref ao] rfl (Nat.le_of_ble_eq_true rfl) dL_recorded_5 (fun hc0 ce q9 H locs hP hD hS hce hcv hcl => ?_) (fun hc0 H locs hP hD hS => ?_)
  · rcases hc1 with rfl | rfl
    · exact absurd rfl hc0
    · refine gl_catch (E := "java/lang/IllegalArgumentException") hSN hSX G htab 0 (st := 0) (en := 10) (hp := 13) (ct := 13) [] [] rfl (List.forall_mem_nil _) (by decide +kernel) (by decide) q4_171 cs_1 hce hcv hcl ?_
      refine lv_astore (lv' := [(4, .ref q9), (0, .ref (a 209)), (1, .int p1), (2, .int p2), (3, .ref ao)]) hx hb dL_recorded_13 hl (by decide) rfl (fun ls hl => ?_)
      refine lv_iconst (v := 1) hx hb dL_recorded_15 (by decide) ?_
      exact gl_ret (u := (s', g)) G hP hD hS rfl rfl (by decide) dL_recorded_16
  · subst hc0
    refine lv_i2l hx hb dL_recorded_8 rfl ?_
    refine gl_last rfl G hP hD hS dL_recorded_9 (fun H locs hP hD hS => ?_)
    refine lv_goto (tgt := 17) hx hb dL_recorded_10 (by decide) ?_
    refine lv_iconst (v := 0) hx hb dL_recorded_17 (by decide) ?_
    exact gl_ret (u := (s', vp_updL g 0 (r.toInt64))) G hP hD hS rfl rfl (by decide) dL_recorded_18
set_option maxHeartbeats 4000000 in
set_option maxRecDepth 100000 in
theorem mL_releaseNoise (l : Launch) (hlt : l.stackTraces = false) (D : va_G) (cA : Nat → ClassId) (ad adF adW tt a : Nat → Nat) (fr : va_W) (ST : gST) (hT : STE ad adF adW tt ST) (hSX : STX ST) (hSN : STN ST) (nF : Nat) (p1 : Int32) (s0 : St) (c1 : Nat) (r : Int32) (s' : St) (ao : Nat) (g : Nat → Int64) (h : fX11_releaseNoise nF p1 s0 = some ((c1, r), s')) (hc1 : c1 = 0 ∨ c1 = 2 ∨ c1 = 3 ∨ c1 = 4) : gMetL l yL_releaseNoise cL_releaseNoise 4 (some .int) [(0, 9, 12, 27), (0, 9, 15, 21), (0, 9, 18, 15)] 8 D (TYS cA) ST (wc cA ad a (ocL cA ao g :: fr) s0) [.ref (a 209), .int p1, .ref ao] (fun A => gQl D (TYS cA) A (fun u => wc cA ad a (ocL cA ao u.2 :: fr) u.1) (hix [2, 3, 4] c1) (s', if c1 = 0 then vp_updL g 0 (r.toInt64) else g)) := by
  refine g_ofWL hT.1 (by decide +kernel) (Nat.le_of_ble_eq_true rfl) ?_
  intro p e s m args below meth c ls A G htab hP hD hl
  have G : GC p s m args meth c cL_releaseNoise 4 RL (some .int) A D (TYS cA) ST := G
  have hx := G.1
  have hb := G.2.1
  have hS : va_S A s.heap s.heap [] := va_S.rf
  have hl : lv_has ls 4 [(0, .ref (a 209)), (1, .int p1), (2, .ref ao)] := hl
  refine lv_aload_n hx hb dL_releaseNoise_0 rfl (lv_at hl 2 rfl) ?_
  refine lv_iconst (v := 0) hx hb dL_releaseNoise_1 (by decide) ?_
  refine lv_aload_n hx hb dL_releaseNoise_2 rfl (lv_at hl 0 rfl) ?_
  refine lv_iload_n hx hb dL_releaseNoise_3 rfl (lv_at hl 1 rfl) ?_
  refine gl_callVi (nA := 1) (mX11_releaseNoise l hlt D cA ad adF adW tt a (ocL cA ao g :: fr) ST hT hSX nF p1 s0 c1 r s' h) G hP hD hS (g_good q5_124 q5_125 q5_126 q1_1 q5_127) (by decide +kernel) (by decide) (by decide) sc_209 rfl rfl hl.1 [.int 0, .ref ao] rfl (Nat.le_of_ble_eq_true rfl) dL_releaseNoise_4 (fun hc0 ce q9 H locs hP hD hS hce hcv hcl => ?_) (fun hc0 H locs hP hD hS => ?_)
  · rcases hc1 with rfl | rfl | rfl | rfl
    · exact absurd rfl hc0
    · refine gl_catch (E := "java/lang/IndexOutOfBoundsException") hSN hSX G htab 0 (st := 0) (en := 9) (hp := 12) (ct := 27) [] [(0, 9, 15, 21), (0, 9, 18, 15)] rfl (List.forall_mem_nil _) (by decide +kernel) (by decide) q5_74 cs_2 hce hcv hcl ?_
      refine lv_astore_n (lv' := [(3, .ref q9), (0, .ref (a 209)), (1, .int p1), (2, .ref ao)]) hx hb dL_releaseNoise_12 rfl hl (by decide) rfl (fun ls hl => ?_)
      refine lv_iconst (v := 1) hx hb dL_releaseNoise_13 (by decide) ?_
      exact gl_ret (u := (s', g)) G hP hD hS rfl rfl (by decide) dL_releaseNoise_14
    · refine gl_catch (E := "java/util/NoSuchElementException") hSN hSX G htab 1 (st := 0) (en := 9) (hp := 15) (ct := 21) [(0, 9, 12, 27)] [(0, 9, 18, 15)] rfl (List.forall_mem_cons.mpr ⟨⟨by decide, "java/lang/IndexOutOfBoundsException", q5_74, (List.mem_of_getElem? (i := 5) rfl)⟩, List.forall_mem_nil _⟩) (by decide +kernel) (by decide) q5_51 cs_3 hce hcv hcl ?_
      refine lv_astore_n (lv' := [(3, .ref q9), (0, .ref (a 209)), (1, .int p1), (2, .ref ao)]) hx hb dL_releaseNoise_15 rfl hl (by decide) rfl (fun ls hl => ?_)
      refine lv_iconst (v := 2) hx hb dL_releaseNoise_16 (by decide) ?_
      exact gl_ret (u := (s', g)) G hP hD hS rfl rfl (by decide) dL_releaseNoise_17
    · refine gl_catch (E := "java/lang/IllegalStateException") hSN hSX G htab 2 (st := 0) (en := 9) (hp := 18) (ct := 15) [(0, 9, 12, 27), (0, 9, 15, 21)] [] rfl (List.forall_mem_cons.mpr ⟨⟨by decide, "java/lang/IndexOutOfBoundsException", q5_74, (List.mem_of_getElem? (i := 2) rfl)⟩, List.forall_mem_cons.mpr ⟨⟨by decide, "java/util/NoSuchElementException", q5_51, (List.mem_of_getElem? (i := 3) rfl)⟩, List.forall_mem_nil _⟩⟩) (by decide +kernel) (by decide) q4_172 cs_4 hce hcv hcl ?_
      refine lv_astore_n (lv' := [(3, .ref q9), (0, .ref (a 209)), (1, .int p1), (2, .ref ao)]) hx hb dL_releaseNoise_18 rfl hl (by decide) rfl (fun ls hl => ?_)
      refine lv_iconst (v := 3) hx hb dL_releaseNoise_19 (by decide) ?_
      exact gl_ret (u := (s', g)) G hP hD hS rfl rfl (by decide) dL_releaseNoise_20
  · subst hc0
    refine lv_i2l hx hb dL_releaseNoise_7 rfl ?_
    refine gl_last rfl G hP hD hS dL_releaseNoise_8 (fun H locs hP hD hS => ?_)
    refine lv_goto (tgt := 21) hx hb dL_releaseNoise_9 (by decide) ?_
    refine lv_iconst (v := 0) hx hb dL_releaseNoise_21 (by decide) ?_
    exact gl_ret (u := (s', vp_updL g 0 (r.toInt64))) G hP hD hS rfl rfl (by decide) dL_releaseNoise_22
set_option maxHeartbeats 4000000 in
set_option maxRecDepth 100000 in
theorem mL_removeNoise (l : Launch) (hlt : l.stackTraces = false) (D : va_G) (cA : Nat → ClassId) (ad adF adW tt a : Nat → Nat) (fr : va_W) (ST : gST) (hT : STE ad adF adW tt ST) (hSX : STX ST) (hSN : STN ST) (nF : Nat) (p1 : Int32) (s0 : St) (c1 : Nat) (r : Int32) (s' : St) (ao : Nat) (g : Nat → Int64) (h : fX11_removeNoise nF p1 s0 = some ((c1, r), s')) (hc1 : c1 = 0 ∨ c1 = 3 ∨ c1 = 4) : gMetL l yL_removeNoise cL_removeNoise 4 (some .int) [(0, 9, 12, 21), (0, 9, 15, 15)] 8 D (TYS cA) ST (wc cA ad a (ocL cA ao g :: fr) s0) [.ref (a 209), .int p1, .ref ao] (fun A => gQl D (TYS cA) A (fun u => wc cA ad a (ocL cA ao u.2 :: fr) u.1) (hix [3, 4] c1) (s', if c1 = 0 then vp_updL g 0 (r.toInt64) else g)) := by
  refine g_ofWL hT.1 (by decide +kernel) (Nat.le_of_ble_eq_true rfl) ?_
  intro p e s m args below meth c ls A G htab hP hD hl
  have G : GC p s m args meth c cL_removeNoise 4 RL (some .int) A D (TYS cA) ST := G
  have hx := G.1
  have hb := G.2.1
  have hS : va_S A s.heap s.heap [] := va_S.rf
  have hl : lv_has ls 4 [(0, .ref (a 209)), (1, .int p1), (2, .ref ao)] := hl
  refine lv_aload_n hx hb dL_removeNoise_0 rfl (lv_at hl 2 rfl) ?_
  refine lv_iconst (v := 0) hx hb dL_removeNoise_1 (by decide) ?_
  refine lv_aload_n hx hb dL_removeNoise_2 rfl (lv_at hl 0 rfl) ?_
  refine lv_iload_n hx hb dL_removeNoise_3 rfl (lv_at hl 1 rfl) ?_
  refine gl_callVi (nA := 1) (mX11_removeNoise l hlt D cA ad adF adW tt a (ocL cA ao g :: fr) ST hT hSX nF p1 s0 c1 r s' h) G hP hD hS (g_good q5_52 q5_53 q5_54 q1_1 q5_55) (by decide +kernel) (by decide) (by decide) sc_209 rfl rfl hl.1 [.int 0, .ref ao] rfl (Nat.le_of_ble_eq_true rfl) dL_removeNoise_4 (fun hc0 ce q9 H locs hP hD hS hce hcv hcl => ?_) (fun hc0 H locs hP hD hS => ?_)
  · rcases hc1 with rfl | rfl | rfl
    · exact absurd rfl hc0
    · refine gl_catch (E := "java/util/NoSuchElementException") hSN hSX G htab 0 (st := 0) (en := 9) (hp := 12) (ct := 21) [] [(0, 9, 15, 15)] rfl (List.forall_mem_nil _) (by decide +kernel) (by decide) q5_51 cs_3 hce hcv hcl ?_
      refine lv_astore_n (lv' := [(3, .ref q9), (0, .ref (a 209)), (1, .int p1), (2, .ref ao)]) hx hb dL_removeNoise_12 rfl hl (by decide) rfl (fun ls hl => ?_)
      refine lv_iconst (v := 1) hx hb dL_removeNoise_13 (by decide) ?_
      exact gl_ret (u := (s', g)) G hP hD hS rfl rfl (by decide) dL_removeNoise_14
    · refine gl_catch (E := "java/lang/IllegalStateException") hSN hSX G htab 1 (st := 0) (en := 9) (hp := 15) (ct := 15) [(0, 9, 12, 21)] [] rfl (List.forall_mem_cons.mpr ⟨⟨by decide, "java/util/NoSuchElementException", q5_51, (List.mem_of_getElem? (i := 3) rfl)⟩, List.forall_mem_nil _⟩) (by decide +kernel) (by decide) q4_172 cs_4 hce hcv hcl ?_
      refine lv_astore_n (lv' := [(3, .ref q9), (0, .ref (a 209)), (1, .int p1), (2, .ref ao)]) hx hb dL_removeNoise_15 rfl hl (by decide) rfl (fun ls hl => ?_)
      refine lv_iconst (v := 2) hx hb dL_removeNoise_16 (by decide) ?_
      exact gl_ret (u := (s', g)) G hP hD hS rfl rfl (by decide) dL_removeNoise_17
  · subst hc0
    refine lv_i2l hx hb dL_removeNoise_7 rfl ?_
    refine gl_last rfl G hP hD hS dL_removeNoise_8 (fun H locs hP hD hS => ?_)
    refine lv_goto (tgt := 18) hx hb dL_removeNoise_9 (by decide) ?_
    refine lv_iconst (v := 0) hx hb dL_removeNoise_18 (by decide) ?_
    exact gl_ret (u := (s', vp_updL g 0 (r.toInt64))) G hP hD hS rfl rfl (by decide) dL_removeNoise_19
set_option maxHeartbeats 4000000 in
set_option maxRecDepth 100000 in
theorem mL_restore (l : Launch) (hlt : l.stackTraces = false) (D : va_G) (cA : Nat → ClassId) (ad adF adW tt a : Nat → Nat) (fr : va_W) (ST : gST) (hT : STE ad adF adW tt ST) (hSX : STX ST) (hSN : STN ST) (nF : Nat) (s0 : St) (c1 : Nat) (r : Int32) (s' : St) (ao : Nat) (g : Nat → Int64) (h : fX11_restore nF s0 = some ((c1, r), s')) (hc1 : c1 = 0 ∨ c1 = 4) : gMetL l yL_restore cL_restore 3 (some .int) [(0, 8, 11, 15)] 7 D (TYS cA) ST (wc cA ad a (ocL cA ao g :: fr) s0) [.ref (a 209), .ref ao] (fun A => gQl D (TYS cA) A (fun u => wc cA ad a (ocL cA ao u.2 :: fr) u.1) (hix [4] c1) (s', if c1 = 0 then vp_updL g 0 (r.toInt64) else g)) := by
  refine g_ofWL hT.1 (by decide +kernel) (Nat.le_of_ble_eq_true rfl) ?_
  intro p e s m args below meth c ls A G htab hP hD hl
  have G : GC p s m args meth c cL_restore 3 RL (some .int) A D (TYS cA) ST := G
  have hx := G.1
  have hb := G.2.1
  have hS : va_S A s.heap s.heap [] := va_S.rf
  have hl : lv_has ls 3 [(0, .ref (a 209)), (1, .ref ao)] := hl
  refine lv_aload_n hx hb dL_restore_0 rfl (lv_at hl 1 rfl) ?_
  refine lv_iconst (v := 0) hx hb dL_restore_1 (by decide) ?_
  refine lv_aload_n hx hb dL_restore_2 rfl (lv_at hl 0 rfl) ?_
  refine gl_callVi (nA := 0) (mX11_restore l hlt D cA ad adF adW tt a (ocL cA ao g :: fr) ST hT hSX nF  s0 c1 r s' h) G hP hD hS (g_good q7_148 q7_149 q7_150 q1_1 q7_151) (by decide +kernel) (by decide) (by decide) sc_209 rfl rfl hl.1 [.int 0, .ref ao] rfl (Nat.le_of_ble_eq_true rfl) dL_restore_3 (fun hc0 ce q9 H locs hP hD hS hce hcv hcl => ?_) (fun hc0 H locs hP hD hS => ?_)
  · rcases hc1 with rfl | rfl
    · exact absurd rfl hc0
    · refine gl_catch (E := "java/lang/IllegalStateException") hSN hSX G htab 0 (st := 0) (en := 8) (hp := 11) (ct := 15) [] [] rfl (List.forall_mem_nil _) (by decide +kernel) (by decide) q4_172 cs_4 hce hcv hcl ?_
      refine lv_astore_n (lv' := [(2, .ref q9), (0, .ref (a 209)), (1, .ref ao)]) hx hb dL_restore_11 rfl hl (by decide) rfl (fun ls hl => ?_)
      refine lv_iconst (v := 1) hx hb dL_restore_12 (by decide) ?_
      exact gl_ret (u := (s', g)) G hP hD hS rfl rfl (by decide) dL_restore_13
  · subst hc0
    refine lv_i2l hx hb dL_restore_6 rfl ?_
    refine gl_last rfl G hP hD hS dL_restore_7 (fun H locs hP hD hS => ?_)
    refine lv_goto (tgt := 14) hx hb dL_restore_8 (by decide) ?_
    refine lv_iconst (v := 0) hx hb dL_restore_14 (by decide) ?_
    exact gl_ret (u := (s', vp_updL g 0 (r.toInt64))) G hP hD hS rfl rfl (by decide) dL_restore_15
set_option maxHeartbeats 4000000 in
set_option maxRecDepth 100000 in
theorem mL_runScript (l : Launch) (hlt : l.stackTraces = false) (D : va_G) (cA : Nat → ClassId) (ad adF adW tt a : Nat → Nat) (fr : va_W) (ST : gST) (hT : STE ad adF adW tt ST) (hSX : STX ST) (hSN : STN ST) (hW : STW adW tt ST) (nF : Nat) (s0 : St) (c1 : Nat) (r : Int32) (s' : St) (ao : Nat) (g : Nat → Int64) (h : fX11_runScript nF s0 = some ((c1, r), s')) (hc1 : c1 = 0 ∨ c1 = 1 ∨ c1 = 4) : gMetL l yL_runScript cL_runScript 3 (some .int) [(0, 8, 11, 13), (0, 8, 14, 15)] 9 D (TYS cA) ST (wc cA ad a (ocL cA ao g :: fr) s0) [.ref (a 209), .ref ao] (fun A => gQl D (TYS cA) A (fun u => wc cA ad a (ocL cA ao u.2 :: fr) u.1) (hix [1, 4] c1) (s', if c1 = 0 then vp_updL g 0 (r.toInt64) else g)) := by
  refine g_ofWL hT.1 (by decide +kernel) (Nat.le_of_ble_eq_true rfl) ?_
  intro p e s m args below meth c ls A G htab hP hD hl
  have G : GC p s m args meth c cL_runScript 3 RL (some .int) A D (TYS cA) ST := G
  have hx := G.1
  have hb := G.2.1
  have hS : va_S A s.heap s.heap [] := va_S.rf
  have hl : lv_has ls 3 [(0, .ref (a 209)), (1, .ref ao)] := hl
  refine lv_aload_n hx hb dL_runScript_0 rfl (lv_at hl 1 rfl) ?_
  refine lv_iconst (v := 0) hx hb dL_runScript_1 (by decide) ?_
  refine lv_aload_n hx hb dL_runScript_2 rfl (lv_at hl 0 rfl) ?_
  refine gl_callVi (nA := 0) (mX11_runScript l hlt D cA ad adF adW tt a (ocL cA ao g :: fr) ST hT hSX hW nF  s0 c1 r s' h) G hP hD hS (g_good q7_41 q7_42 q7_43 q1_1 q7_44) (by decide +kernel) (by decide) (by decide) sc_209 rfl rfl hl.1 [.int 0, .ref ao] rfl (Nat.le_of_ble_eq_true rfl) dL_runScript_3 (fun hc0 ce q9 H locs hP hD hS hce hcv hcl => ?_) (fun hc0 H locs hP hD hS => ?_)
  · rcases hc1 with rfl | rfl | rfl
    · exact absurd rfl hc0
    · refine gl_catch (E := "java/lang/IllegalArgumentException") hSN hSX G htab 0 (st := 0) (en := 8) (hp := 11) (ct := 13) [] [(0, 8, 14, 15)] rfl (List.forall_mem_nil _) (by decide +kernel) (by decide) q4_171 cs_1 hce hcv hcl ?_
      refine lv_astore_n (lv' := [(2, .ref q9), (0, .ref (a 209)), (1, .ref ao)]) hx hb dL_runScript_11 rfl hl (by decide) rfl (fun ls hl => ?_)
      refine lv_iconst (v := 1) hx hb dL_runScript_12 (by decide) ?_
      exact gl_ret (u := (s', g)) G hP hD hS rfl rfl (by decide) dL_runScript_13
    · refine gl_catch (E := "java/lang/IllegalStateException") hSN hSX G htab 1 (st := 0) (en := 8) (hp := 14) (ct := 15) [(0, 8, 11, 13)] [] rfl (List.forall_mem_cons.mpr ⟨⟨by decide, "java/lang/IllegalArgumentException", q4_171, (List.mem_of_getElem? (i := 1) rfl)⟩, List.forall_mem_nil _⟩) (by decide +kernel) (by decide) q4_172 cs_4 hce hcv hcl ?_
      refine lv_astore_n (lv' := [(2, .ref q9), (0, .ref (a 209)), (1, .ref ao)]) hx hb dL_runScript_14 rfl hl (by decide) rfl (fun ls hl => ?_)
      refine lv_iconst (v := 2) hx hb dL_runScript_15 (by decide) ?_
      exact gl_ret (u := (s', g)) G hP hD hS rfl rfl (by decide) dL_runScript_16
  · subst hc0
    refine lv_i2l hx hb dL_runScript_6 rfl ?_
    refine gl_last rfl G hP hD hS dL_runScript_7 (fun H locs hP hD hS => ?_)
    refine lv_goto (tgt := 17) hx hb dL_runScript_8 (by decide) ?_
    refine lv_iconst (v := 0) hx hb dL_runScript_17 (by decide) ?_
    exact gl_ret (u := (s', vp_updL g 0 (r.toInt64))) G hP hD hS rfl rfl (by decide) dL_runScript_18
set_option maxHeartbeats 4000000 in
set_option maxRecDepth 100000 in
theorem mL_setGear (l : Launch) (hlt : l.stackTraces = false) (D : va_G) (cA : Nat → ClassId) (ad adF adW tt a : Nat → Nat) (fr : va_W) (ST : gST) (hT : STE ad adF adW tt ST) (hSX : STX ST) (hSN : STN ST) (nF : Nat) (p1 : Int32) (p2 : Int32) (s0 : St) (c1 : Nat) (r : Int32) (s' : St) (ao : Nat) (g : Nat → Int64) (h : fX11_setGear nF p1 p2 s0 = some ((c1, r), s')) (hc1 : c1 = 0 ∨ c1 = 2 ∨ c1 = 1) : gMetL l yL_setGear cL_setGear 5 (some .int) [(0, 10, 13, 27), (0, 10, 17, 13)] 8 D (TYS cA) ST (wc cA ad a (ocL cA ao g :: fr) s0) [.ref (a 209), .int p1, .int p2, .ref ao] (fun A => gQl D (TYS cA) A (fun u => wc cA ad a (ocL cA ao u.2 :: fr) u.1) (hix [2, 1] c1) (s', if c1 = 0 then vp_updL g 0 (r.toInt64) else g)) := by
  refine g_ofWL hT.1 (by decide +kernel) (Nat.le_of_ble_eq_true rfl) ?_
  intro p e s m args below meth c ls A G htab hP hD hl
  have G : GC p s m args meth c cL_setGear 5 RL (some .int) A D (TYS cA) ST := G
  have hx := G.1
  have hb := G.2.1
  have hS : va_S A s.heap s.heap [] := va_S.rf
  have hl : lv_has ls 5 [(0, .ref (a 209)), (1, .int p1), (2, .int p2), (3, .ref ao)] := hl
  refine lv_aload_n hx hb dL_setGear_0 rfl (lv_at hl 3 rfl) ?_
  refine lv_iconst (v := 0) hx hb dL_setGear_1 (by decide) ?_
  refine lv_aload_n hx hb dL_setGear_2 rfl (lv_at hl 0 rfl) ?_
  refine lv_iload_n hx hb dL_setGear_3 rfl (lv_at hl 1 rfl) ?_
  refine lv_iload_n hx hb dL_setGear_4 rfl (lv_at hl 2 rfl) ?_
  refine gl_callVi (nA := 2) (mX11_setGear l hlt D cA ad adF adW tt a (ocL cA ao g :: fr) ST hT hSX nF p1 p2 s0 c1 r s' h) G hP hD hS (g_good q5_77 q5_78 q5_79 q1_1 q5_80) (by decide +kernel) (by decide) (by decide) sc_209 rfl rfl hl.1 [.int 0, .ref ao] rfl (Nat.le_of_ble_eq_true rfl) dL_setGear_5 (fun hc0 ce q9 H locs hP hD hS hce hcv hcl => ?_) (fun hc0 H locs hP hD hS => ?_)
  · rcases hc1 with rfl | rfl | rfl
    · exact absurd rfl hc0
    · refine gl_catch (E := "java/lang/IndexOutOfBoundsException") hSN hSX G htab 0 (st := 0) (en := 10) (hp := 13) (ct := 27) [] [(0, 10, 17, 13)] rfl (List.forall_mem_nil _) (by decide +kernel) (by decide) q5_74 cs_2 hce hcv hcl ?_
      refine lv_astore (lv' := [(4, .ref q9), (0, .ref (a 209)), (1, .int p1), (2, .int p2), (3, .ref ao)]) hx hb dL_setGear_13 hl (by decide) rfl (fun ls hl => ?_)
      refine lv_iconst (v := 1) hx hb dL_setGear_15 (by decide) ?_
      exact gl_ret (u := (s', g)) G hP hD hS rfl rfl (by decide) dL_setGear_16
    · refine gl_catch (E := "java/lang/IllegalArgumentException") hSN hSX G htab 1 (st := 0) (en := 10) (hp := 17) (ct := 13) [(0, 10, 13, 27)] [] rfl (List.forall_mem_cons.mpr ⟨⟨by decide, "java/lang/IndexOutOfBoundsException", q5_74, (List.mem_of_getElem? (i := 0) rfl)⟩, List.forall_mem_nil _⟩) (by decide +kernel) (by decide) q4_171 cs_1 hce hcv hcl ?_
      refine lv_astore (lv' := [(4, .ref q9), (0, .ref (a 209)), (1, .int p1), (2, .int p2), (3, .ref ao)]) hx hb dL_setGear_17 hl (by decide) rfl (fun ls hl => ?_)
      refine lv_iconst (v := 2) hx hb dL_setGear_19 (by decide) ?_
      exact gl_ret (u := (s', g)) G hP hD hS rfl rfl (by decide) dL_setGear_20
  · subst hc0
    refine lv_i2l hx hb dL_setGear_8 rfl ?_
    refine gl_last rfl G hP hD hS dL_setGear_9 (fun H locs hP hD hS => ?_)
    refine lv_goto (tgt := 21) hx hb dL_setGear_10 (by decide) ?_
    refine lv_iconst (v := 0) hx hb dL_setGear_21 (by decide) ?_
    exact gl_ret (u := (s', vp_updL g 0 (r.toInt64))) G hP hD hS rfl rfl (by decide) dL_setGear_22
set_option maxHeartbeats 4000000 in
set_option maxRecDepth 100000 in
theorem mL_setMesh (l : Launch) (hlt : l.stackTraces = false) (D : va_G) (cA : Nat → ClassId) (ad adF adW tt a : Nat → Nat) (fr : va_W) (ST : gST) (hT : STE ad adF adW tt ST) (hSX : STX ST) (hSN : STN ST) (nF : Nat) (p1 : Int32) (p2 : Int32) (s0 : St) (c1 : Nat) (r : Int32) (s' : St) (ao : Nat) (g : Nat → Int64) (h : fX11_setMesh nF p1 p2 s0 = some ((c1, r), s')) (hc1 : c1 = 0 ∨ c1 = 1) : gMetL l yL_setMesh cL_setMesh 5 (some .int) [(0, 10, 13, 13)] 8 D (TYS cA) ST (wc cA ad a (ocL cA ao g :: fr) s0) [.ref (a 209), .int p1, .int p2, .ref ao] (fun A => gQl D (TYS cA) A (fun u => wc cA ad a (ocL cA ao u.2 :: fr) u.1) (hix [1] c1) (s', if c1 = 0 then vp_updL g 0 (r.toInt64) else g)) := by
  refine g_ofWL hT.1 (by decide +kernel) (Nat.le_of_ble_eq_true rfl) ?_
  intro p e s m args below meth c ls A G htab hP hD hl
  have G : GC p s m args meth c cL_setMesh 5 RL (some .int) A D (TYS cA) ST := G
  have hx := G.1
  have hb := G.2.1
  have hS : va_S A s.heap s.heap [] := va_S.rf
  have hl : lv_has ls 5 [(0, .ref (a 209)), (1, .int p1), (2, .int p2), (3, .ref ao)] := hl
  refine lv_aload_n hx hb dL_setMesh_0 rfl (lv_at hl 3 rfl) ?_
  refine lv_iconst (v := 0) hx hb dL_setMesh_1 (by decide) ?_
  refine lv_aload_n hx hb dL_setMesh_2 rfl (lv_at hl 0 rfl) ?_
  refine lv_iload_n hx hb dL_setMesh_3 rfl (lv_at hl 1 rfl) ?_
  refine lv_iload_n hx hb dL_setMesh_4 rfl (lv_at hl 2 rfl) ?_
  refine gl_callVi (nA := 2) (mX11_setMesh l hlt D cA ad adF adW tt a (ocL cA ao g :: fr) ST hT hSX nF p1 p2 s0 c1 r s' h) G hP hD hS (g_good q5_96 q5_97 q5_98 q1_1 q5_99) (by decide +kernel) (by decide) (by decide) sc_209 rfl rfl hl.1 [.int 0, .ref ao] rfl (Nat.le_of_ble_eq_true rfl) dL_setMesh_5 (fun hc0 ce q9 H locs hP hD hS hce hcv hcl => ?_) (fun hc0 H locs hP hD hS => ?_)
  · rcases hc1 with rfl | rfl
    · exact absurd rfl hc0
    · refine gl_catch (E := "java/lang/IllegalArgumentException") hSN hSX G htab 0 (st := 0) (en := 10) (hp := 13) (ct := 13) [] [] rfl (List.forall_mem_nil _) (by decide +kernel) (by decide) q4_171 cs_1 hce hcv hcl ?_
      refine lv_astore (lv' := [(4, .ref q9), (0, .ref (a 209)), (1, .int p1), (2, .int p2), (3, .ref ao)]) hx hb dL_setMesh_13 hl (by decide) rfl (fun ls hl => ?_)
      refine lv_iconst (v := 1) hx hb dL_setMesh_15 (by decide) ?_
      exact gl_ret (u := (s', g)) G hP hD hS rfl rfl (by decide) dL_setMesh_16
  · subst hc0
    refine lv_i2l hx hb dL_setMesh_8 rfl ?_
    refine gl_last rfl G hP hD hS dL_setMesh_9 (fun H locs hP hD hS => ?_)
    refine lv_goto (tgt := 17) hx hb dL_setMesh_10 (by decide) ?_
    refine lv_iconst (v := 0) hx hb dL_setMesh_17 (by decide) ?_
    exact gl_ret (u := (s', vp_updL g 0 (r.toInt64))) G hP hD hS rfl rfl (by decide) dL_setMesh_18
set_option maxHeartbeats 4000000 in
set_option maxRecDepth 100000 in
theorem mL_shipSacks (l : Launch) (hlt : l.stackTraces = false) (D : va_G) (cA : Nat → ClassId) (ad adF adW tt a : Nat → Nat) (fr : va_W) (ST : gST) (hT : STE ad adF adW tt ST) (hSX : STX ST) (hSN : STN ST) (nF : Nat) (p1 : Int32) (p2 : Int32) (s0 : St) (c1 : Nat) (r : Int32) (s' : St) (ao : Nat) (g : Nat → Int64) (h : fX11_shipSacks nF p1 p2 s0 = some ((c1, r), s')) (hc1 : c1 = 0 ∨ c1 = 1 ∨ c1 = 5) : gMetL l yL_shipSacks cL_shipSacks 5 (some .int) [(0, 10, 13, 13), (0, 10, 17, 41)] 8 D (TYS cA) ST (wc cA ad a (ocL cA ao g :: fr) s0) [.ref (a 209), .int p1, .int p2, .ref ao] (fun A => gQl D (TYS cA) A (fun u => wc cA ad a (ocL cA ao u.2 :: fr) u.1) (hix [1, 5] c1) (s', if c1 = 0 then vp_updL g 0 (r.toInt64) else g)) := by
  refine g_ofWL hT.1 (by decide +kernel) (Nat.le_of_ble_eq_true rfl) ?_
  intro p e s m args below meth c ls A G htab hP hD hl
  have G : GC p s m args meth c cL_shipSacks 5 RL (some .int) A D (TYS cA) ST := G
  have hx := G.1
  have hb := G.2.1
  have hS : va_S A s.heap s.heap [] := va_S.rf
  have hl : lv_has ls 5 [(0, .ref (a 209)), (1, .int p1), (2, .int p2), (3, .ref ao)] := hl
  refine lv_aload_n hx hb dL_shipSacks_0 rfl (lv_at hl 3 rfl) ?_
  refine lv_iconst (v := 0) hx hb dL_shipSacks_1 (by decide) ?_
  refine lv_aload_n hx hb dL_shipSacks_2 rfl (lv_at hl 0 rfl) ?_
  refine lv_iload_n hx hb dL_shipSacks_3 rfl (lv_at hl 1 rfl) ?_
  refine lv_iload_n hx hb dL_shipSacks_4 rfl (lv_at hl 2 rfl) ?_
  refine gl_callVi (nA := 2) (mX11_shipSacks l hlt D cA ad adF adW tt a (ocL cA ao g :: fr) ST hT hSX nF p1 p2 s0 c1 r s' h) G hP hD hS (g_good q5_144 q5_145 q5_146 q1_1 q5_147) (by decide +kernel) (by decide) (by decide) sc_209 rfl rfl hl.1 [.int 0, .ref ao] rfl (Nat.le_of_ble_eq_true rfl) dL_shipSacks_5 (fun hc0 ce q9 H locs hP hD hS hce hcv hcl => ?_) (fun hc0 H locs hP hD hS => ?_)
  · rcases hc1 with rfl | rfl | rfl
    · exact absurd rfl hc0
    · refine gl_catch (E := "java/lang/IllegalArgumentException") hSN hSX G htab 0 (st := 0) (en := 10) (hp := 13) (ct := 13) [] [(0, 10, 17, 41)] rfl (List.forall_mem_nil _) (by decide +kernel) (by decide) q4_171 cs_1 hce hcv hcl ?_
      refine lv_astore (lv' := [(4, .ref q9), (0, .ref (a 209)), (1, .int p1), (2, .int p2), (3, .ref ao)]) hx hb dL_shipSacks_13 hl (by decide) rfl (fun ls hl => ?_)
      refine lv_iconst (v := 1) hx hb dL_shipSacks_15 (by decide) ?_
      exact gl_ret (u := (s', g)) G hP hD hS rfl rfl (by decide) dL_shipSacks_16
    · refine gl_catch (E := "java/lang/UnsupportedOperationException") hSN hSX G htab 1 (st := 0) (en := 10) (hp := 17) (ct := 41) [(0, 10, 13, 13)] [] rfl (List.forall_mem_cons.mpr ⟨⟨by decide, "java/lang/IllegalArgumentException", q4_171, (List.mem_of_getElem? (i := 4) rfl)⟩, List.forall_mem_nil _⟩) (by decide +kernel) (by decide) q5_143 cs_5 hce hcv hcl ?_
      refine lv_astore (lv' := [(4, .ref q9), (0, .ref (a 209)), (1, .int p1), (2, .int p2), (3, .ref ao)]) hx hb dL_shipSacks_17 hl (by decide) rfl (fun ls hl => ?_)
      refine lv_iconst (v := 2) hx hb dL_shipSacks_19 (by decide) ?_
      exact gl_ret (u := (s', g)) G hP hD hS rfl rfl (by decide) dL_shipSacks_20
  · subst hc0
    refine lv_i2l hx hb dL_shipSacks_8 rfl ?_
    refine gl_last rfl G hP hD hS dL_shipSacks_9 (fun H locs hP hD hS => ?_)
    refine lv_goto (tgt := 21) hx hb dL_shipSacks_10 (by decide) ?_
    refine lv_iconst (v := 0) hx hb dL_shipSacks_21 (by decide) ?_
    exact gl_ret (u := (s', vp_updL g 0 (r.toInt64))) G hP hD hS rfl rfl (by decide) dL_shipSacks_22
set_option maxHeartbeats 4000000 in
set_option maxRecDepth 100000 in
theorem mL_shippedSacks (l : Launch) (hlt : l.stackTraces = false) (D : va_G) (cA : Nat → ClassId) (ad adF adW tt a : Nat → Nat) (fr : va_W) (ST : gST) (hT : STE ad adF adW tt ST) (hSX : STX ST) (hSN : STN ST) (p1 : Int32) (s0 : St) (c1 : Nat) (r : Int32) (s' : St) (ao : Nat) (g : Nat → Int64) (h : fX11_shippedSacks p1 s0 = some ((c1, r), s')) (hc1 : c1 = 0 ∨ c1 = 1) : gMetL l yL_shippedSacks cL_shippedSacks 4 (some .int) [(0, 9, 12, 13)] 8 D (TYS cA) ST (wc cA ad a (ocL cA ao g :: fr) s0) [.ref (a 209), .int p1, .ref ao] (fun A => gQl D (TYS cA) A (fun u => wc cA ad a (ocL cA ao u.2 :: fr) u.1) (hix [1] c1) (s', if c1 = 0 then vp_updL g 0 (r.toInt64) else g)) := by
  refine g_ofWL hT.1 (by decide +kernel) (Nat.le_of_ble_eq_true rfl) ?_
  intro p e s m args below meth c ls A G htab hP hD hl
  have G : GC p s m args meth c cL_shippedSacks 4 RL (some .int) A D (TYS cA) ST := G
  have hx := G.1
  have hb := G.2.1
  have hS : va_S A s.heap s.heap [] := va_S.rf
  have hl : lv_has ls 4 [(0, .ref (a 209)), (1, .int p1), (2, .ref ao)] := hl
  refine lv_aload_n hx hb dL_shippedSacks_0 rfl (lv_at hl 2 rfl) ?_
  refine lv_iconst (v := 0) hx hb dL_shippedSacks_1 (by decide) ?_
  refine lv_aload_n hx hb dL_shippedSacks_2 rfl (lv_at hl 0 rfl) ?_
  refine lv_iload_n hx hb dL_shippedSacks_3 rfl (lv_at hl 1 rfl) ?_
  refine gl_callVi (nA := 1) (mX11_shippedSacks l hlt D cA ad adF adW tt a (ocL cA ao g :: fr) ST hT hSX p1 s0 c1 r s' h) G hP hD hS (g_good q6_85 q6_86 q6_87 q1_1 q6_88) (by decide +kernel) (by decide) (by decide) sc_209 rfl rfl hl.1 [.int 0, .ref ao] rfl (Nat.le_of_ble_eq_true rfl) dL_shippedSacks_4 (fun hc0 ce q9 H locs hP hD hS hce hcv hcl => ?_) (fun hc0 H locs hP hD hS => ?_)
  · rcases hc1 with rfl | rfl
    · exact absurd rfl hc0
    · refine gl_catch (E := "java/lang/IllegalArgumentException") hSN hSX G htab 0 (st := 0) (en := 9) (hp := 12) (ct := 13) [] [] rfl (List.forall_mem_nil _) (by decide +kernel) (by decide) q4_171 cs_1 hce hcv hcl ?_
      refine lv_astore_n (lv' := [(3, .ref q9), (0, .ref (a 209)), (1, .int p1), (2, .ref ao)]) hx hb dL_shippedSacks_12 rfl hl (by decide) rfl (fun ls hl => ?_)
      refine lv_iconst (v := 1) hx hb dL_shippedSacks_13 (by decide) ?_
      exact gl_ret (u := (s', g)) G hP hD hS rfl rfl (by decide) dL_shippedSacks_14
  · subst hc0
    refine lv_i2l hx hb dL_shippedSacks_7 rfl ?_
    refine gl_last rfl G hP hD hS dL_shippedSacks_8 (fun H locs hP hD hS => ?_)
    refine lv_goto (tgt := 15) hx hb dL_shippedSacks_9 (by decide) ?_
    refine lv_iconst (v := 0) hx hb dL_shippedSacks_15 (by decide) ?_
    exact gl_ret (u := (s', vp_updL g 0 (r.toInt64))) G hP hD hS rfl rfl (by decide) dL_shippedSacks_16
set_option maxHeartbeats 4000000 in
set_option maxRecDepth 100000 in
theorem mL_stepsUntilDone (l : Launch) (hlt : l.stackTraces = false) (D : va_G) (cA : Nat → ClassId) (ad adF adW tt a : Nat → Nat) (fr : va_W) (ST : gST) (hT : STE ad adF adW tt ST) (hSX : STX ST) (hSN : STN ST) (nF : Nat) (p1 : Int32) (s0 : St) (c1 : Nat) (r : Int32) (s' : St) (ao : Nat) (g : Nat → Int64) (h : fX11_stepsUntilDone nF p1 s0 = some ((c1, r), s')) (hc1 : c1 = 0 ∨ c1 = 2 ∨ c1 = 3) : gMetL l yL_stepsUntilDone cL_stepsUntilDone 4 (some .int) [(0, 9, 12, 27), (0, 9, 15, 21)] 8 D (TYS cA) ST (wc cA ad a (ocL cA ao g :: fr) s0) [.ref (a 209), .int p1, .ref ao] (fun A => gQl D (TYS cA) A (fun u => wc cA ad a (ocL cA ao u.2 :: fr) u.1) (hix [2, 3] c1) (s', if c1 = 0 then vp_updL g 0 (r.toInt64) else g)) := by
  refine g_ofWL hT.1 (by decide +kernel) (Nat.le_of_ble_eq_true rfl) ?_
  intro p e s m args below meth c ls A G htab hP hD hl
  have G : GC p s m args meth c cL_stepsUntilDone 4 RL (some .int) A D (TYS cA) ST := G
  have hx := G.1
  have hb := G.2.1
  have hS : va_S A s.heap s.heap [] := va_S.rf
  have hl : lv_has ls 4 [(0, .ref (a 209)), (1, .int p1), (2, .ref ao)] := hl
  refine lv_aload_n hx hb dL_stepsUntilDone_0 rfl (lv_at hl 2 rfl) ?_
  refine lv_iconst (v := 0) hx hb dL_stepsUntilDone_1 (by decide) ?_
  refine lv_aload_n hx hb dL_stepsUntilDone_2 rfl (lv_at hl 0 rfl) ?_
  refine lv_iload_n hx hb dL_stepsUntilDone_3 rfl (lv_at hl 1 rfl) ?_
  refine gl_callVi (nA := 1) (mX11_stepsUntilDone l hlt D cA ad adF adW tt a (ocL cA ao g :: fr) ST hT hSX nF p1 s0 c1 r s' h) G hP hD hS (g_good q6_100 q6_101 q6_102 q1_1 q6_103) (by decide +kernel) (by decide) (by decide) sc_209 rfl rfl hl.1 [.int 0, .ref ao] rfl (Nat.le_of_ble_eq_true rfl) dL_stepsUntilDone_4 (fun hc0 ce q9 H locs hP hD hS hce hcv hcl => ?_) (fun hc0 H locs hP hD hS => ?_)
  · rcases hc1 with rfl | rfl | rfl
    · exact absurd rfl hc0
    · refine gl_catch (E := "java/lang/IndexOutOfBoundsException") hSN hSX G htab 0 (st := 0) (en := 9) (hp := 12) (ct := 27) [] [(0, 9, 15, 21)] rfl (List.forall_mem_nil _) (by decide +kernel) (by decide) q5_74 cs_2 hce hcv hcl ?_
      refine lv_astore_n (lv' := [(3, .ref q9), (0, .ref (a 209)), (1, .int p1), (2, .ref ao)]) hx hb dL_stepsUntilDone_12 rfl hl (by decide) rfl (fun ls hl => ?_)
      refine lv_iconst (v := 1) hx hb dL_stepsUntilDone_13 (by decide) ?_
      exact gl_ret (u := (s', g)) G hP hD hS rfl rfl (by decide) dL_stepsUntilDone_14
    · refine gl_catch (E := "java/util/NoSuchElementException") hSN hSX G htab 1 (st := 0) (en := 9) (hp := 15) (ct := 21) [(0, 9, 12, 27)] [] rfl (List.forall_mem_cons.mpr ⟨⟨by decide, "java/lang/IndexOutOfBoundsException", q5_74, (List.mem_of_getElem? (i := 5) rfl)⟩, List.forall_mem_nil _⟩) (by decide +kernel) (by decide) q5_51 cs_3 hce hcv hcl ?_
      refine lv_astore_n (lv' := [(3, .ref q9), (0, .ref (a 209)), (1, .int p1), (2, .ref ao)]) hx hb dL_stepsUntilDone_15 rfl hl (by decide) rfl (fun ls hl => ?_)
      refine lv_iconst (v := 2) hx hb dL_stepsUntilDone_16 (by decide) ?_
      exact gl_ret (u := (s', g)) G hP hD hS rfl rfl (by decide) dL_stepsUntilDone_17
  · subst hc0
    refine lv_i2l hx hb dL_stepsUntilDone_7 rfl ?_
    refine gl_last rfl G hP hD hS dL_stepsUntilDone_8 (fun H locs hP hD hS => ?_)
    refine lv_goto (tgt := 18) hx hb dL_stepsUntilDone_9 (by decide) ?_
    refine lv_iconst (v := 0) hx hb dL_stepsUntilDone_18 (by decide) ?_
    exact gl_ret (u := (s', vp_updL g 0 (r.toInt64))) G hP hD hS rfl rfl (by decide) dL_stepsUntilDone_19
set_option maxHeartbeats 4000000 in
set_option maxRecDepth 100000 in
theorem mL_stepsUntilDoneByRate (l : Launch) (hlt : l.stackTraces = false) (D : va_G) (cA : Nat → ClassId) (ad adF adW tt a : Nat → Nat) (fr : va_W) (ST : gST) (hT : STE ad adF adW tt ST) (hSX : STX ST) (hSN : STN ST) (p1 : Int32) (s0 : St) (c1 : Nat) (r : Int32) (s' : St) (ao : Nat) (g : Nat → Int64) (h : fX11_stepsUntilDoneByRate p1 s0 = some ((c1, r), s')) (hc1 : c1 = 0 ∨ c1 = 2 ∨ c1 = 3) : gMetL l yL_stepsUntilDoneByRate cL_stepsUntilDoneByRate 4 (some .int) [(0, 9, 12, 27), (0, 9, 15, 21)] 8 D (TYS cA) ST (wc cA ad a (ocL cA ao g :: fr) s0) [.ref (a 209), .int p1, .ref ao] (fun A => gQl D (TYS cA) A (fun u => wc cA ad a (ocL cA ao u.2 :: fr) u.1) (hix [2, 3] c1) (s', if c1 = 0 then vp_updL g 0 (r.toInt64) else g)) := by
  refine g_ofWL hT.1 (by decide +kernel) (Nat.le_of_ble_eq_true rfl) ?_
  intro p e s m args below meth c ls A G htab hP hD hl
  have G : GC p s m args meth c cL_stepsUntilDoneByRate 4 RL (some .int) A D (TYS cA) ST := G
  have hx := G.1
  have hb := G.2.1
  have hS : va_S A s.heap s.heap [] := va_S.rf
  have hl : lv_has ls 4 [(0, .ref (a 209)), (1, .int p1), (2, .ref ao)] := hl
  refine lv_aload_n hx hb dL_stepsUntilDoneByRate_0 rfl (lv_at hl 2 rfl) ?_
  refine lv_iconst (v := 0) hx hb dL_stepsUntilDoneByRate_1 (by decide) ?_
  refine lv_aload_n hx hb dL_stepsUntilDoneByRate_2 rfl (lv_at hl 0 rfl) ?_
  refine lv_iload_n hx hb dL_stepsUntilDoneByRate_3 rfl (lv_at hl 1 rfl) ?_
  refine gl_callVi (nA := 1) (mX11_stepsUntilDoneByRate l hlt D cA ad adF adW tt a (ocL cA ao g :: fr) ST hT hSX p1 s0 c1 r s' h) G hP hD hS (g_good q6_111 q6_112 q6_113 q1_1 q6_114) (by decide +kernel) (by decide) (by decide) sc_209 rfl rfl hl.1 [.int 0, .ref ao] rfl (Nat.le_of_ble_eq_true rfl) dL_stepsUntilDoneByRate_4 (fun hc0 ce q9 H locs hP hD hS hce hcv hcl => ?_) (fun hc0 H locs hP hD hS => ?_)
  · rcases hc1 with rfl | rfl | rfl
    · exact absurd rfl hc0
    · refine gl_catch (E := "java/lang/IndexOutOfBoundsException") hSN hSX G htab 0 (st := 0) (en := 9) (hp := 12) (ct := 27) [] [(0, 9, 15, 21)] rfl (List.forall_mem_nil _) (by decide +kernel) (by decide) q5_74 cs_2 hce hcv hcl ?_
      refine lv_astore_n (lv' := [(3, .ref q9), (0, .ref (a 209)), (1, .int p1), (2, .ref ao)]) hx hb dL_stepsUntilDoneByRate_12 rfl hl (by decide) rfl (fun ls hl => ?_)
      refine lv_iconst (v := 1) hx hb dL_stepsUntilDoneByRate_13 (by decide) ?_
      exact gl_ret (u := (s', g)) G hP hD hS rfl rfl (by decide) dL_stepsUntilDoneByRate_14
    · refine gl_catch (E := "java/util/NoSuchElementException") hSN hSX G htab 1 (st := 0) (en := 9) (hp := 15) (ct := 21) [(0, 9, 12, 27)] [] rfl (List.forall_mem_cons.mpr ⟨⟨by decide, "java/lang/IndexOutOfBoundsException", q5_74, (List.mem_of_getElem? (i := 5) rfl)⟩, List.forall_mem_nil _⟩) (by decide +kernel) (by decide) q5_51 cs_3 hce hcv hcl ?_
      refine lv_astore_n (lv' := [(3, .ref q9), (0, .ref (a 209)), (1, .int p1), (2, .ref ao)]) hx hb dL_stepsUntilDoneByRate_15 rfl hl (by decide) rfl (fun ls hl => ?_)
      refine lv_iconst (v := 2) hx hb dL_stepsUntilDoneByRate_16 (by decide) ?_
      exact gl_ret (u := (s', g)) G hP hD hS rfl rfl (by decide) dL_stepsUntilDoneByRate_17
  · subst hc0
    refine lv_i2l hx hb dL_stepsUntilDoneByRate_7 rfl ?_
    refine gl_last rfl G hP hD hS dL_stepsUntilDoneByRate_8 (fun H locs hP hD hS => ?_)
    refine lv_goto (tgt := 18) hx hb dL_stepsUntilDoneByRate_9 (by decide) ?_
    refine lv_iconst (v := 0) hx hb dL_stepsUntilDoneByRate_18 (by decide) ?_
    exact gl_ret (u := (s', vp_updL g 0 (r.toInt64))) G hP hD hS rfl rfl (by decide) dL_stepsUntilDoneByRate_19
set_option maxHeartbeats 4000000 in
set_option maxRecDepth 100000 in
theorem mL_stepsUntilJam (l : Launch) (hlt : l.stackTraces = false) (D : va_G) (cA : Nat → ClassId) (ad adF adW tt a : Nat → Nat) (fr : va_W) (ST : gST) (hT : STE ad adF adW tt ST) (hSX : STX ST) (hSN : STN ST) (nF : Nat) (p1 : Int32) (s0 : St) (c1 : Nat) (r : Int32) (s' : St) (ao : Nat) (g : Nat → Int64) (h : fX11_stepsUntilJam nF p1 s0 = some ((c1, r), s')) (hc1 : c1 = 0 ∨ c1 = 2 ∨ c1 = 3) : gMetL l yL_stepsUntilJam cL_stepsUntilJam 4 (some .int) [(0, 9, 12, 27), (0, 9, 15, 21)] 8 D (TYS cA) ST (wc cA ad a (ocL cA ao g :: fr) s0) [.ref (a 209), .int p1, .ref ao] (fun A => gQl D (TYS cA) A (fun u => wc cA ad a (ocL cA ao u.2 :: fr) u.1) (hix [2, 3] c1) (s', if c1 = 0 then vp_updL g 0 (r.toInt64) else g)) := by
  refine g_ofWL hT.1 (by decide +kernel) (Nat.le_of_ble_eq_true rfl) ?_
  intro p e s m args below meth c ls A G htab hP hD hl
  have G : GC p s m args meth c cL_stepsUntilJam 4 RL (some .int) A D (TYS cA) ST := G
  have hx := G.1
  have hb := G.2.1
  have hS : va_S A s.heap s.heap [] := va_S.rf
  have hl : lv_has ls 4 [(0, .ref (a 209)), (1, .int p1), (2, .ref ao)] := hl
  refine lv_aload_n hx hb dL_stepsUntilJam_0 rfl (lv_at hl 2 rfl) ?_
  refine lv_iconst (v := 0) hx hb dL_stepsUntilJam_1 (by decide) ?_
  refine lv_aload_n hx hb dL_stepsUntilJam_2 rfl (lv_at hl 0 rfl) ?_
  refine lv_iload_n hx hb dL_stepsUntilJam_3 rfl (lv_at hl 1 rfl) ?_
  refine gl_callVi (nA := 1) (mX11_stepsUntilJam l hlt D cA ad adF adW tt a (ocL cA ao g :: fr) ST hT hSX nF p1 s0 c1 r s' h) G hP hD hS (g_good q6_118 q6_119 q6_120 q1_1 q6_121) (by decide +kernel) (by decide) (by decide) sc_209 rfl rfl hl.1 [.int 0, .ref ao] rfl (Nat.le_of_ble_eq_true rfl) dL_stepsUntilJam_4 (fun hc0 ce q9 H locs hP hD hS hce hcv hcl => ?_) (fun hc0 H locs hP hD hS => ?_)
  · rcases hc1 with rfl | rfl | rfl
    · exact absurd rfl hc0
    · refine gl_catch (E := "java/lang/IndexOutOfBoundsException") hSN hSX G htab 0 (st := 0) (en := 9) (hp := 12) (ct := 27) [] [(0, 9, 15, 21)] rfl (List.forall_mem_nil _) (by decide +kernel) (by decide) q5_74 cs_2 hce hcv hcl ?_
      refine lv_astore_n (lv' := [(3, .ref q9), (0, .ref (a 209)), (1, .int p1), (2, .ref ao)]) hx hb dL_stepsUntilJam_12 rfl hl (by decide) rfl (fun ls hl => ?_)
      refine lv_iconst (v := 1) hx hb dL_stepsUntilJam_13 (by decide) ?_
      exact gl_ret (u := (s', g)) G hP hD hS rfl rfl (by decide) dL_stepsUntilJam_14
    · refine gl_catch (E := "java/util/NoSuchElementException") hSN hSX G htab 1 (st := 0) (en := 9) (hp := 15) (ct := 21) [(0, 9, 12, 27)] [] rfl (List.forall_mem_cons.mpr ⟨⟨by decide, "java/lang/IndexOutOfBoundsException", q5_74, (List.mem_of_getElem? (i := 5) rfl)⟩, List.forall_mem_nil _⟩) (by decide +kernel) (by decide) q5_51 cs_3 hce hcv hcl ?_
      refine lv_astore_n (lv' := [(3, .ref q9), (0, .ref (a 209)), (1, .int p1), (2, .ref ao)]) hx hb dL_stepsUntilJam_15 rfl hl (by decide) rfl (fun ls hl => ?_)
      refine lv_iconst (v := 2) hx hb dL_stepsUntilJam_16 (by decide) ?_
      exact gl_ret (u := (s', g)) G hP hD hS rfl rfl (by decide) dL_stepsUntilJam_17
  · subst hc0
    refine lv_i2l hx hb dL_stepsUntilJam_7 rfl ?_
    refine gl_last rfl G hP hD hS dL_stepsUntilJam_8 (fun H locs hP hD hS => ?_)
    refine lv_goto (tgt := 18) hx hb dL_stepsUntilJam_9 (by decide) ?_
    refine lv_iconst (v := 0) hx hb dL_stepsUntilJam_18 (by decide) ?_
    exact gl_ret (u := (s', vp_updL g 0 (r.toInt64))) G hP hD hS rfl rfl (by decide) dL_stepsUntilJam_19
set_option maxHeartbeats 4000000 in
set_option maxRecDepth 100000 in
theorem mL_type (l : Launch) (hlt : l.stackTraces = false) (D : va_G) (cA : Nat → ClassId) (ad adF adW tt a : Nat → Nat) (fr : va_W) (ST : gST) (hT : STE ad adF adW tt ST) (hSX : STX ST) (hSN : STN ST) (p1 : Int32) (s0 : St) (c1 : Nat) (r : Int32) (s' : St) (ao : Nat) (g : Nat → Int64) (h : fX11_type p1 s0 = some ((c1, r), s')) (hc1 : c1 = 0 ∨ c1 = 1 ∨ c1 = 4) : gMetL l yL_type cL_type 4 (some .int) [(0, 9, 12, 13), (0, 9, 15, 15)] 7 D (TYS cA) ST (wc cA ad a (ocL cA ao g :: fr) s0) [.ref (a 209), .int p1, .ref ao] (fun A => gQl D (TYS cA) A (fun u => wc cA ad a (ocL cA ao u.2 :: fr) u.1) (hix [1, 4] c1) (s', if c1 = 0 then vp_updL g 0 (r.toInt64) else g)) := by
  refine g_ofWL hT.1 (by decide +kernel) (Nat.le_of_ble_eq_true rfl) ?_
  intro p e s m args below meth c ls A G htab hP hD hl
  have G : GC p s m args meth c cL_type 4 RL (some .int) A D (TYS cA) ST := G
  have hx := G.1
  have hb := G.2.1
  have hS : va_S A s.heap s.heap [] := va_S.rf
  have hl : lv_has ls 4 [(0, .ref (a 209)), (1, .int p1), (2, .ref ao)] := hl
  refine lv_aload_n hx hb dL_type_0 rfl (lv_at hl 2 rfl) ?_
  refine lv_iconst (v := 0) hx hb dL_type_1 (by decide) ?_
  refine lv_aload_n hx hb dL_type_2 rfl (lv_at hl 0 rfl) ?_
  refine lv_iload_n hx hb dL_type_3 rfl (lv_at hl 1 rfl) ?_
  refine gl_callVi (nA := 1) (mX11_type l hlt D cA ad adF adW tt a (ocL cA ao g :: fr) ST hT hSX p1 s0 c1 r s' h) G hP hD hS (g_good q7_23 q7_24 q7_25 q1_1 q7_26) (by decide +kernel) (by decide) (by decide) sc_209 rfl rfl hl.1 [.int 0, .ref ao] rfl (Nat.le_of_ble_eq_true rfl) dL_type_4 (fun hc0 ce q9 H locs hP hD hS hce hcv hcl => ?_) (fun hc0 H locs hP hD hS => ?_)
  · rcases hc1 with rfl | rfl | rfl
    · exact absurd rfl hc0
    · refine gl_catch (E := "java/lang/IllegalArgumentException") hSN hSX G htab 0 (st := 0) (en := 9) (hp := 12) (ct := 13) [] [(0, 9, 15, 15)] rfl (List.forall_mem_nil _) (by decide +kernel) (by decide) q4_171 cs_1 hce hcv hcl ?_
      refine lv_astore_n (lv' := [(3, .ref q9), (0, .ref (a 209)), (1, .int p1), (2, .ref ao)]) hx hb dL_type_12 rfl hl (by decide) rfl (fun ls hl => ?_)
      refine lv_iconst (v := 1) hx hb dL_type_13 (by decide) ?_
      exact gl_ret (u := (s', g)) G hP hD hS rfl rfl (by decide) dL_type_14
    · refine gl_catch (E := "java/lang/IllegalStateException") hSN hSX G htab 1 (st := 0) (en := 9) (hp := 15) (ct := 15) [(0, 9, 12, 13)] [] rfl (List.forall_mem_cons.mpr ⟨⟨by decide, "java/lang/IllegalArgumentException", q4_171, (List.mem_of_getElem? (i := 1) rfl)⟩, List.forall_mem_nil _⟩) (by decide +kernel) (by decide) q4_172 cs_4 hce hcv hcl ?_
      refine lv_astore_n (lv' := [(3, .ref q9), (0, .ref (a 209)), (1, .int p1), (2, .ref ao)]) hx hb dL_type_15 rfl hl (by decide) rfl (fun ls hl => ?_)
      refine lv_iconst (v := 2) hx hb dL_type_16 (by decide) ?_
      exact gl_ret (u := (s', g)) G hP hD hS rfl rfl (by decide) dL_type_17
  · subst hc0
    refine lv_i2l hx hb dL_type_7 rfl ?_
    refine gl_last rfl G hP hD hS dL_type_8 (fun H locs hP hD hS => ?_)
    refine lv_goto (tgt := 18) hx hb dL_type_9 (by decide) ?_
    refine lv_iconst (v := 0) hx hb dL_type_18 (by decide) ?_
    exact gl_ret (u := (s', vp_updL g 0 (r.toInt64))) G hP hD hS rfl rfl (by decide) dL_type_19
set_option maxHeartbeats 4000000 in
set_option maxRecDepth 100000 in
theorem mL_undo (l : Launch) (hlt : l.stackTraces = false) (D : va_G) (cA : Nat → ClassId) (ad adF adW tt a : Nat → Nat) (fr : va_W) (ST : gST) (hT : STE ad adF adW tt ST) (hSX : STX ST) (hSN : STN ST) (nF : Nat) (s0 : St) (c1 : Nat) (r : Int32) (s' : St) (ao : Nat) (g : Nat → Int64) (h : fX11_undo nF s0 = some ((c1, r), s')) (hc1 : c1 = 0 ∨ c1 = 4) : gMetL l yL_undo cL_undo 3 (some .int) [(0, 8, 11, 15)] 7 D (TYS cA) ST (wc cA ad a (ocL cA ao g :: fr) s0) [.ref (a 209), .ref ao] (fun A => gQl D (TYS cA) A (fun u => wc cA ad a (ocL cA ao u.2 :: fr) u.1) (hix [4] c1) (s', if c1 = 0 then vp_updL g 0 (r.toInt64) else g)) := by
  refine g_ofWL hT.1 (by decide +kernel) (Nat.le_of_ble_eq_true rfl) ?_
  intro p e s m args below meth c ls A G htab hP hD hl
  have G : GC p s m args meth c cL_undo 3 RL (some .int) A D (TYS cA) ST := G
  have hx := G.1
  have hb := G.2.1
  have hS : va_S A s.heap s.heap [] := va_S.rf
  have hl : lv_has ls 3 [(0, .ref (a 209)), (1, .ref ao)] := hl
  refine lv_aload_n hx hb dL_undo_0 rfl (lv_at hl 1 rfl) ?_
  refine lv_iconst (v := 0) hx hb dL_undo_1 (by decide) ?_
  refine lv_aload_n hx hb dL_undo_2 rfl (lv_at hl 0 rfl) ?_
  refine gl_callVi (nA := 0) (mX11_undo l hlt D cA ad adF adW tt a (ocL cA ao g :: fr) ST hT hSX nF  s0 c1 r s' h) G hP hD hS (g_good q7_136 q7_137 q7_138 q1_1 q7_139) (by decide +kernel) (by decide) (by decide) sc_209 rfl rfl hl.1 [.int 0, .ref ao] rfl (Nat.le_of_ble_eq_true rfl) dL_undo_3 (fun hc0 ce q9 H locs hP hD hS hce hcv hcl => ?_) (fun hc0 H locs hP hD hS => ?_)
  · rcases hc1 with rfl | rfl
    · exact absurd rfl hc0
    · refine gl_catch (E := "java/lang/IllegalStateException") hSN hSX G htab 0 (st := 0) (en := 8) (hp := 11) (ct := 15) [] [] rfl (List.forall_mem_nil _) (by decide +kernel) (by decide) q4_172 cs_4 hce hcv hcl ?_
      refine lv_astore_n (lv' := [(2, .ref q9), (0, .ref (a 209)), (1, .ref ao)]) hx hb dL_undo_11 rfl hl (by decide) rfl (fun ls hl => ?_)
      refine lv_iconst (v := 1) hx hb dL_undo_12 (by decide) ?_
      exact gl_ret (u := (s', g)) G hP hD hS rfl rfl (by decide) dL_undo_13
  · subst hc0
    refine lv_i2l hx hb dL_undo_6 rfl ?_
    refine gl_last rfl G hP hD hS dL_undo_7 (fun H locs hP hD hS => ?_)
    refine lv_goto (tgt := 14) hx hb dL_undo_8 (by decide) ?_
    refine lv_iconst (v := 0) hx hb dL_undo_14 (by decide) ?_
    exact gl_ret (u := (s', vp_updL g 0 (r.toInt64))) G hP hD hS rfl rfl (by decide) dL_undo_15
set_option maxHeartbeats 4000000 in
set_option maxRecDepth 100000 in
theorem mL_waitingAt (l : Launch) (hlt : l.stackTraces = false) (D : va_G) (cA : Nat → ClassId) (ad adF adW tt a : Nat → Nat) (fr : va_W) (ST : gST) (hT : STE ad adF adW tt ST) (hSX : STX ST) (hSN : STN ST) (nF : Nat) (p1 : Int32) (s0 : St) (c1 : Nat) (r : Int32) (s' : St) (ao : Nat) (g : Nat → Int64) (h : fX11_waitingAt nF p1 s0 = some ((c1, r), s')) (hc1 : c1 = 0 ∨ c1 = 3) : gMetL l yL_waitingAt cL_waitingAt 4 (some .int) [(0, 9, 12, 21)] 7 D (TYS cA) ST (wc cA ad a (ocL cA ao g :: fr) s0) [.ref (a 209), .int p1, .ref ao] (fun A => gQl D (TYS cA) A (fun u => wc cA ad a (ocL cA ao u.2 :: fr) u.1) (hix [3] c1) (s', if c1 = 0 then vp_updL g 0 (r.toInt64) else g)) := by
  refine g_ofWL hT.1 (by decide +kernel) (Nat.le_of_ble_eq_true rfl) ?_
  intro p e s m args below meth c ls A G htab hP hD hl
  have G : GC p s m args meth c cL_waitingAt 4 RL (some .int) A D (TYS cA) ST := G
  have hx := G.1
  have hb := G.2.1
  have hS : va_S A s.heap s.heap [] := va_S.rf
  have hl : lv_has ls 4 [(0, .ref (a 209)), (1, .int p1), (2, .ref ao)] := hl
  refine lv_aload_n hx hb dL_waitingAt_0 rfl (lv_at hl 2 rfl) ?_
  refine lv_iconst (v := 0) hx hb dL_waitingAt_1 (by decide) ?_
  refine lv_aload_n hx hb dL_waitingAt_2 rfl (lv_at hl 0 rfl) ?_
  refine lv_iload_n hx hb dL_waitingAt_3 rfl (lv_at hl 1 rfl) ?_
  refine gl_callVi (nA := 1) (mX11_waitingAt l hlt D cA ad adF adW tt a (ocL cA ao g :: fr) ST hT hSX nF p1 s0 c1 r s' h) G hP hD hS (g_good q5_179 q5_180 q5_181 q1_1 q5_182) (by decide +kernel) (by decide) (by decide) sc_209 rfl rfl hl.1 [.int 0, .ref ao] rfl (Nat.le_of_ble_eq_true rfl) dL_waitingAt_4 (fun hc0 ce q9 H locs hP hD hS hce hcv hcl => ?_) (fun hc0 H locs hP hD hS => ?_)
  · rcases hc1 with rfl | rfl
    · exact absurd rfl hc0
    · refine gl_catch (E := "java/util/NoSuchElementException") hSN hSX G htab 0 (st := 0) (en := 9) (hp := 12) (ct := 21) [] [] rfl (List.forall_mem_nil _) (by decide +kernel) (by decide) q5_51 cs_3 hce hcv hcl ?_
      refine lv_astore_n (lv' := [(3, .ref q9), (0, .ref (a 209)), (1, .int p1), (2, .ref ao)]) hx hb dL_waitingAt_12 rfl hl (by decide) rfl (fun ls hl => ?_)
      refine lv_iconst (v := 1) hx hb dL_waitingAt_13 (by decide) ?_
      exact gl_ret (u := (s', g)) G hP hD hS rfl rfl (by decide) dL_waitingAt_14
  · subst hc0
    refine lv_i2l hx hb dL_waitingAt_7 rfl ?_
    refine gl_last rfl G hP hD hS dL_waitingAt_8 (fun H locs hP hD hS => ?_)
    refine lv_goto (tgt := 15) hx hb dL_waitingAt_9 (by decide) ?_
    refine lv_iconst (v := 0) hx hb dL_waitingAt_15 (by decide) ?_
    exact gl_ret (u := (s', vp_updL g 0 (r.toInt64))) G hP hD hS rfl rfl (by decide) dL_waitingAt_16
set_option maxHeartbeats 4000000 in
set_option maxRecDepth 100000 in
theorem mL_wear (l : Launch) (hlt : l.stackTraces = false) (D : va_G) (cA : Nat → ClassId) (ad adF adW tt a : Nat → Nat) (fr : va_W) (ST : gST) (hT : STE ad adF adW tt ST) (hSX : STX ST) (hSN : STN ST) (p1 : Int32) (s0 : St) (c1 : Nat) (r : Int32) (s' : St) (ao : Nat) (g : Nat → Int64) (h : fX11_wear p1 s0 = some ((c1, r), s')) (hc1 : c1 = 0 ∨ c1 = 2) : gMetL l yL_wear cL_wear 4 (some .int) [(0, 9, 12, 27)] 8 D (TYS cA) ST (wc cA ad a (ocL cA ao g :: fr) s0) [.ref (a 209), .int p1, .ref ao] (fun A => gQl D (TYS cA) A (fun u => wc cA ad a (ocL cA ao u.2 :: fr) u.1) (hix [2] c1) (s', if c1 = 0 then vp_updL g 0 (r.toInt64) else g)) := by
  refine g_ofWL hT.1 (by decide +kernel) (Nat.le_of_ble_eq_true rfl) ?_
  intro p e s m args below meth c ls A G htab hP hD hl
  have G : GC p s m args meth c cL_wear 4 RL (some .int) A D (TYS cA) ST := G
  have hx := G.1
  have hb := G.2.1
  have hS : va_S A s.heap s.heap [] := va_S.rf
  have hl : lv_has ls 4 [(0, .ref (a 209)), (1, .int p1), (2, .ref ao)] := hl
  refine lv_aload_n hx hb dL_wear_0 rfl (lv_at hl 2 rfl) ?_
  refine lv_iconst (v := 0) hx hb dL_wear_1 (by decide) ?_
  refine lv_aload_n hx hb dL_wear_2 rfl (lv_at hl 0 rfl) ?_
  refine lv_iload_n hx hb dL_wear_3 rfl (lv_at hl 1 rfl) ?_
  refine gl_callVi (nA := 1) (mX11_wear l hlt D cA ad adF adW tt a (ocL cA ao g :: fr) ST hT hSX p1 s0 c1 r s' h) G hP hD hS (g_good q6_19 q6_20 q6_21 q1_1 q6_22) (by decide +kernel) (by decide) (by decide) sc_209 rfl rfl hl.1 [.int 0, .ref ao] rfl (Nat.le_of_ble_eq_true rfl) dL_wear_4 (fun hc0 ce q9 H locs hP hD hS hce hcv hcl => ?_) (fun hc0 H locs hP hD hS => ?_)
  · rcases hc1 with rfl | rfl
    · exact absurd rfl hc0
    · refine gl_catch (E := "java/lang/IndexOutOfBoundsException") hSN hSX G htab 0 (st := 0) (en := 9) (hp := 12) (ct := 27) [] [] rfl (List.forall_mem_nil _) (by decide +kernel) (by decide) q5_74 cs_2 hce hcv hcl ?_
      refine lv_astore_n (lv' := [(3, .ref q9), (0, .ref (a 209)), (1, .int p1), (2, .ref ao)]) hx hb dL_wear_12 rfl hl (by decide) rfl (fun ls hl => ?_)
      refine lv_iconst (v := 1) hx hb dL_wear_13 (by decide) ?_
      exact gl_ret (u := (s', g)) G hP hD hS rfl rfl (by decide) dL_wear_14
  · subst hc0
    refine lv_i2l hx hb dL_wear_7 rfl ?_
    refine gl_last rfl G hP hD hS dL_wear_8 (fun H locs hP hD hS => ?_)
    refine lv_goto (tgt := 15) hx hb dL_wear_9 (by decide) ?_
    refine lv_iconst (v := 0) hx hb dL_wear_15 (by decide) ?_
    exact gl_ret (u := (s', vp_updL g 0 (r.toInt64))) G hP hD hS rfl rfl (by decide) dL_wear_16
set_option maxHeartbeats 4000000 in
set_option maxRecDepth 100000 in
theorem mL_wheelByWear (l : Launch) (hlt : l.stackTraces = false) (D : va_G) (cA : Nat → ClassId) (ad adF adW tt a : Nat → Nat) (fr : va_W) (ST : gST) (hT : STE ad adF adW tt ST) (hSX : STX ST) (hSN : STN ST) (nF : Nat) (p1 : Int32) (s0 : St) (c1 : Nat) (r : Int32) (s' : St) (ao : Nat) (g : Nat → Int64) (h : fX11_wheelByWear nF p1 s0 = some ((c1, r), s')) (hc1 : c1 = 0 ∨ c1 = 3) : gMetL l yL_wheelByWear cL_wheelByWear 4 (some .int) [(0, 9, 12, 21)] 7 D (TYS cA) ST (wc cA ad a (ocL cA ao g :: fr) s0) [.ref (a 209), .int p1, .ref ao] (fun A => gQl D (TYS cA) A (fun u => wc cA ad a (ocL cA ao u.2 :: fr) u.1) (hix [3] c1) (s', if c1 = 0 then vp_updL g 0 (r.toInt64) else g)) := by
  refine g_ofWL hT.1 (by decide +kernel) (Nat.le_of_ble_eq_true rfl) ?_
  intro p e s m args below meth c ls A G htab hP hD hl
  have G : GC p s m args meth c cL_wheelByWear 4 RL (some .int) A D (TYS cA) ST := G
  have hx := G.1
  have hb := G.2.1
  have hS : va_S A s.heap s.heap [] := va_S.rf
  have hl : lv_has ls 4 [(0, .ref (a 209)), (1, .int p1), (2, .ref ao)] := hl
  refine lv_aload_n hx hb dL_wheelByWear_0 rfl (lv_at hl 2 rfl) ?_
  refine lv_iconst (v := 0) hx hb dL_wheelByWear_1 (by decide) ?_
  refine lv_aload_n hx hb dL_wheelByWear_2 rfl (lv_at hl 0 rfl) ?_
  refine lv_iload_n hx hb dL_wheelByWear_3 rfl (lv_at hl 1 rfl) ?_
  refine gl_callVi (nA := 1) (mX11_wheelByWear l hlt D cA ad adF adW tt a (ocL cA ao g :: fr) ST hT hSX nF p1 s0 c1 r s' h) G hP hD hS (g_good q6_167 q6_168 q6_169 q1_1 q6_170) (by decide +kernel) (by decide) (by decide) sc_209 rfl rfl hl.1 [.int 0, .ref ao] rfl (Nat.le_of_ble_eq_true rfl) dL_wheelByWear_4 (fun hc0 ce q9 H locs hP hD hS hce hcv hcl => ?_) (fun hc0 H locs hP hD hS => ?_)
  · rcases hc1 with rfl | rfl
    · exact absurd rfl hc0
    · refine gl_catch (E := "java/util/NoSuchElementException") hSN hSX G htab 0 (st := 0) (en := 9) (hp := 12) (ct := 21) [] [] rfl (List.forall_mem_nil _) (by decide +kernel) (by decide) q5_51 cs_3 hce hcv hcl ?_
      refine lv_astore_n (lv' := [(3, .ref q9), (0, .ref (a 209)), (1, .int p1), (2, .ref ao)]) hx hb dL_wheelByWear_12 rfl hl (by decide) rfl (fun ls hl => ?_)
      refine lv_iconst (v := 1) hx hb dL_wheelByWear_13 (by decide) ?_
      exact gl_ret (u := (s', g)) G hP hD hS rfl rfl (by decide) dL_wheelByWear_14
  · subst hc0
    refine lv_i2l hx hb dL_wheelByWear_7 rfl ?_
    refine gl_last rfl G hP hD hS dL_wheelByWear_8 (fun H locs hP hD hS => ?_)
    refine lv_goto (tgt := 15) hx hb dL_wheelByWear_9 (by decide) ?_
    refine lv_iconst (v := 0) hx hb dL_wheelByWear_15 (by decide) ?_
    exact gl_ret (u := (s', vp_updL g 0 (r.toInt64))) G hP hD hS rfl rfl (by decide) dL_wheelByWear_16
set_option maxHeartbeats 4000000 in
set_option maxRecDepth 100000 in
theorem mL_wheelOf (l : Launch) (hlt : l.stackTraces = false) (D : va_G) (cA : Nat → ClassId) (ad adF adW tt a : Nat → Nat) (fr : va_W) (ST : gST) (hT : STE ad adF adW tt ST) (hSX : STX ST) (hSN : STN ST) (nF : Nat) (p1 : Int32) (s0 : St) (c1 : Nat) (r : Int32) (s' : St) (ao : Nat) (g : Nat → Int64) (h : fX11_wheelOf nF p1 s0 = some ((c1, r), s')) (hc1 : c1 = 0 ∨ c1 = 3) : gMetL l yL_wheelOf cL_wheelOf 4 (some .int) [(0, 9, 12, 21)] 8 D (TYS cA) ST (wc cA ad a (ocL cA ao g :: fr) s0) [.ref (a 209), .int p1, .ref ao] (fun A => gQl D (TYS cA) A (fun u => wc cA ad a (ocL cA ao u.2 :: fr) u.1) (hix [3] c1) (s', if c1 = 0 then vp_updL g 0 (r.toInt64) else g)) := by
  refine g_ofWL hT.1 (by decide +kernel) (Nat.le_of_ble_eq_true rfl) ?_
  intro p e s m args below meth c ls A G htab hP hD hl
  have G : GC p s m args meth c cL_wheelOf 4 RL (some .int) A D (TYS cA) ST := G
  have hx := G.1
  have hb := G.2.1
  have hS : va_S A s.heap s.heap [] := va_S.rf
  have hl : lv_has ls 4 [(0, .ref (a 209)), (1, .int p1), (2, .ref ao)] := hl
  refine lv_aload_n hx hb dL_wheelOf_0 rfl (lv_at hl 2 rfl) ?_
  refine lv_iconst (v := 0) hx hb dL_wheelOf_1 (by decide) ?_
  refine lv_aload_n hx hb dL_wheelOf_2 rfl (lv_at hl 0 rfl) ?_
  refine lv_iload_n hx hb dL_wheelOf_3 rfl (lv_at hl 1 rfl) ?_
  refine gl_callVi (nA := 1) (mX11_wheelOf l hlt D cA ad adF adW tt a (ocL cA ao g :: fr) ST hT hSX nF p1 s0 c1 r s' h) G hP hD hS (g_good q5_228 q5_229 q5_230 q1_1 q5_231) (by decide +kernel) (by decide) (by decide) sc_209 rfl rfl hl.1 [.int 0, .ref ao] rfl (Nat.le_of_ble_eq_true rfl) dL_wheelOf_4 (fun hc0 ce q9 H locs hP hD hS hce hcv hcl => ?_) (fun hc0 H locs hP hD hS => ?_)
  · rcases hc1 with rfl | rfl
    · exact absurd rfl hc0
    · refine gl_catch (E := "java/util/NoSuchElementException") hSN hSX G htab 0 (st := 0) (en := 9) (hp := 12) (ct := 21) [] [] rfl (List.forall_mem_nil _) (by decide +kernel) (by decide) q5_51 cs_3 hce hcv hcl ?_
      refine lv_astore_n (lv' := [(3, .ref q9), (0, .ref (a 209)), (1, .int p1), (2, .ref ao)]) hx hb dL_wheelOf_12 rfl hl (by decide) rfl (fun ls hl => ?_)
      refine lv_iconst (v := 1) hx hb dL_wheelOf_13 (by decide) ?_
      exact gl_ret (u := (s', g)) G hP hD hS rfl rfl (by decide) dL_wheelOf_14
  · subst hc0
    refine lv_i2l hx hb dL_wheelOf_7 rfl ?_
    refine gl_last rfl G hP hD hS dL_wheelOf_8 (fun H locs hP hD hS => ?_)
    refine lv_goto (tgt := 15) hx hb dL_wheelOf_9 (by decide) ?_
    refine lv_iconst (v := 0) hx hb dL_wheelOf_15 (by decide) ?_
    exact gl_ret (u := (s', vp_updL g 0 (r.toInt64))) G hP hD hS rfl rfl (by decide) dL_wheelOf_16
