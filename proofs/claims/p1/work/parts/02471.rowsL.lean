theorem dL_isSound_1 : decode cL_isSound 1 = .ok (.iconst 0, 1) := by decide +kernel
theorem dL_isSound_2 : decode cL_isSound 2 = .ok (.aload_n 0, 1) := by decide +kernel
theorem dL_isSound_3 : decode cL_isSound 3 = .ok (.iload_n 1, 1) := by decide +kernel
theorem dL_isSound_4 : decode cL_isSound 4 = .ok (.invokevirtual 88, 3) := by decide +kernel
theorem dL_isSound_7 : decode cL_isSound 7 = .ok (.ifCond .eq 7, 3) := by decide +kernel
theorem dL_isSound_10 : decode cL_isSound 10 = .ok (.lconst 1, 1) := by decide +kernel
theorem dL_isSound_11 : decode cL_isSound 11 = .ok (.goto 4, 3) := by decide +kernel
theorem dL_isSound_14 : decode cL_isSound 14 = .ok (.lconst 0, 1) := by decide +kernel
theorem dL_isSound_15 : decode cL_isSound 15 = .ok (.lastore, 1) := by decide +kernel
theorem dL_isSound_16 : decode cL_isSound 16 = .ok (.goto 6, 3) := by decide +kernel
theorem dL_isSound_19 : decode cL_isSound 19 = .ok (.astore_n 3, 1) := by decide +kernel
theorem dL_isSound_20 : decode cL_isSound 20 = .ok (.iconst 1, 1) := by decide +kernel
theorem dL_isSound_21 : decode cL_isSound 21 = .ok (.ireturn, 1) := by decide +kernel
theorem dL_isSound_22 : decode cL_isSound 22 = .ok (.iconst 0, 1) := by decide +kernel
theorem dL_isSound_23 : decode cL_isSound 23 = .ok (.ireturn, 1) := by decide +kernel
theorem dL_numberOf_0 : decode cL_numberOf 0 = .ok (.aload_n 2, 1) := by decide +kernel
theorem dL_numberOf_1 : decode cL_numberOf 1 = .ok (.iconst 0, 1) := by decide +kernel
theorem dL_numberOf_2 : decode cL_numberOf 2 = .ok (.aload_n 0, 1) := by decide +kernel
theorem dL_numberOf_3 : decode cL_numberOf 3 = .ok (.iload_n 1, 1) := by decide +kernel
theorem dL_numberOf_4 : decode cL_numberOf 4 = .ok (.invokevirtual 91, 3) := by decide +kernel
theorem dL_numberOf_7 : decode cL_numberOf 7 = .ok (.i2l, 1) := by decide +kernel
theorem dL_numberOf_8 : decode cL_numberOf 8 = .ok (.lastore, 1) := by decide +kernel
theorem dL_numberOf_9 : decode cL_numberOf 9 = .ok (.goto 6, 3) := by decide +kernel
theorem dL_numberOf_12 : decode cL_numberOf 12 = .ok (.astore_n 3, 1) := by decide +kernel
theorem dL_numberOf_13 : decode cL_numberOf 13 = .ok (.iconst 1, 1) := by decide +kernel
theorem dL_numberOf_14 : decode cL_numberOf 14 = .ok (.ireturn, 1) := by decide +kernel
theorem dL_numberOf_15 : decode cL_numberOf 15 = .ok (.iconst 0, 1) := by decide +kernel
theorem dL_numberOf_16 : decode cL_numberOf 16 = .ok (.ireturn, 1) := by decide +kernel
theorem dL_repair_0 : decode cL_repair 0 = .ok (.aload_n 1, 1) := by decide +kernel
theorem dL_repair_1 : decode cL_repair 1 = .ok (.iconst 0, 1) := by decide +kernel
theorem dL_repair_2 : decode cL_repair 2 = .ok (.aload_n 0, 1) := by decide +kernel
theorem dL_repair_3 : decode cL_repair 3 = .ok (.invokevirtual 94, 3) := by decide +kernel
theorem dL_repair_6 : decode cL_repair 6 = .ok (.i2l, 1) := by decide +kernel
theorem dL_repair_7 : decode cL_repair 7 = .ok (.lastore, 1) := by decide +kernel
theorem dL_repair_8 : decode cL_repair 8 = .ok (.goto 6, 3) := by decide +kernel
theorem dL_repair_11 : decode cL_repair 11 = .ok (.astore_n 2, 1) := by decide +kernel
theorem dL_repair_12 : decode cL_repair 12 = .ok (.iconst 1, 1) := by decide +kernel
theorem dL_repair_13 : decode cL_repair 13 = .ok (.ireturn, 1) := by decide +kernel
theorem dL_repair_14 : decode cL_repair 14 = .ok (.iconst 0, 1) := by decide +kernel
theorem dL_repair_15 : decode cL_repair 15 = .ok (.ireturn, 1) := by decide +kernel
theorem dL_opened_0 : decode cL_opened 0 = .ok (.aload_n 1, 1) := by decide +kernel
theorem dL_opened_1 : decode cL_opened 1 = .ok (.iconst 0, 1) := by decide +kernel
theorem dL_opened_2 : decode cL_opened 2 = .ok (.aload_n 0, 1) := by decide +kernel
theorem dL_opened_3 : decode cL_opened 3 = .ok (.invokevirtual 98, 3) := by decide +kernel
theorem dL_opened_6 : decode cL_opened 6 = .ok (.i2l, 1) := by decide +kernel
theorem dL_opened_7 : decode cL_opened 7 = .ok (.lastore, 1) := by decide +kernel
theorem dL_opened_8 : decode cL_opened 8 = .ok (.goto 6, 3) := by decide +kernel
theorem dL_opened_11 : decode cL_opened 11 = .ok (.astore_n 2, 1) := by decide +kernel
theorem dL_opened_12 : decode cL_opened 12 = .ok (.iconst 1, 1) := by decide +kernel
theorem dL_opened_13 : decode cL_opened 13 = .ok (.ireturn, 1) := by decide +kernel
theorem dL_opened_14 : decode cL_opened 14 = .ok (.iconst 0, 1) := by decide +kernel
theorem dL_opened_15 : decode cL_opened 15 = .ok (.ireturn, 1) := by decide +kernel
theorem dL_streamAt_0 : decode cL_streamAt 0 = .ok (.aload_n 2, 1) := by decide +kernel
theorem dL_streamAt_1 : decode cL_streamAt 1 = .ok (.iconst 0, 1) := by decide +kernel
theorem dL_streamAt_2 : decode cL_streamAt 2 = .ok (.aload_n 0, 1) := by decide +kernel
theorem dL_streamAt_3 : decode cL_streamAt 3 = .ok (.iload_n 1, 1) := by decide +kernel
theorem dL_streamAt_4 : decode cL_streamAt 4 = .ok (.invokevirtual 101, 3) := by decide +kernel
theorem dL_streamAt_7 : decode cL_streamAt 7 = .ok (.i2l, 1) := by decide +kernel
theorem dL_streamAt_8 : decode cL_streamAt 8 = .ok (.lastore, 1) := by decide +kernel
theorem dL_streamAt_9 : decode cL_streamAt 9 = .ok (.goto 9, 3) := by decide +kernel
theorem dL_streamAt_12 : decode cL_streamAt 12 = .ok (.astore_n 3, 1) := by decide +kernel
theorem dL_streamAt_13 : decode cL_streamAt 13 = .ok (.iconst 1, 1) := by decide +kernel
theorem dL_streamAt_14 : decode cL_streamAt 14 = .ok (.ireturn, 1) := by decide +kernel
theorem dL_streamAt_15 : decode cL_streamAt 15 = .ok (.astore_n 3, 1) := by decide +kernel
theorem dL_streamAt_16 : decode cL_streamAt 16 = .ok (.iconst 2, 1) := by decide +kernel
theorem dL_streamAt_17 : decode cL_streamAt 17 = .ok (.ireturn, 1) := by decide +kernel
theorem dL_streamAt_18 : decode cL_streamAt 18 = .ok (.iconst 0, 1) := by decide +kernel
theorem dL_streamAt_19 : decode cL_streamAt 19 = .ok (.ireturn, 1) := by decide +kernel
theorem dL_hasIndex_0 : decode cL_hasIndex 0 = .ok (.aload_n 1, 1) := by decide +kernel
theorem dL_hasIndex_1 : decode cL_hasIndex 1 = .ok (.iconst 0, 1) := by decide +kernel
theorem dL_hasIndex_2 : decode cL_hasIndex 2 = .ok (.aload_n 0, 1) := by decide +kernel
theorem dL_hasIndex_3 : decode cL_hasIndex 3 = .ok (.invokevirtual 104, 3) := by decide +kernel
theorem dL_hasIndex_6 : decode cL_hasIndex 6 = .ok (.ifCond .eq 7, 3) := by decide +kernel
theorem dL_hasIndex_9 : decode cL_hasIndex 9 = .ok (.lconst 1, 1) := by decide +kernel
theorem dL_hasIndex_10 : decode cL_hasIndex 10 = .ok (.goto 4, 3) := by decide +kernel
theorem dL_hasIndex_13 : decode cL_hasIndex 13 = .ok (.lconst 0, 1) := by decide +kernel
theorem dL_hasIndex_14 : decode cL_hasIndex 14 = .ok (.lastore, 1) := by decide +kernel
theorem dL_hasIndex_15 : decode cL_hasIndex 15 = .ok (.goto 6, 3) := by decide +kernel
theorem dL_hasIndex_18 : decode cL_hasIndex 18 = .ok (.astore_n 2, 1) := by decide +kernel
theorem dL_hasIndex_19 : decode cL_hasIndex 19 = .ok (.iconst 1, 1) := by decide +kernel
theorem dL_hasIndex_20 : decode cL_hasIndex 20 = .ok (.ireturn, 1) := by decide +kernel
theorem dL_hasIndex_21 : decode cL_hasIndex 21 = .ok (.iconst 0, 1) := by decide +kernel
theorem dL_hasIndex_22 : decode cL_hasIndex 22 = .ok (.ireturn, 1) := by decide +kernel
theorem dL_found_0 : decode cL_found 0 = .ok (.aload_n 1, 1) := by decide +kernel
theorem dL_found_1 : decode cL_found 1 = .ok (.iconst 0, 1) := by decide +kernel
theorem dL_found_2 : decode cL_found 2 = .ok (.aload_n 0, 1) := by decide +kernel
theorem dL_found_3 : decode cL_found 3 = .ok (.invokevirtual 108, 3) := by decide +kernel
theorem dL_found_6 : decode cL_found 6 = .ok (.i2l, 1) := by decide +kernel
theorem dL_found_7 : decode cL_found 7 = .ok (.lastore, 1) := by decide +kernel
theorem dL_found_8 : decode cL_found 8 = .ok (.goto 6, 3) := by decide +kernel
theorem dL_found_11 : decode cL_found 11 = .ok (.astore_n 2, 1) := by decide +kernel
theorem dL_found_12 : decode cL_found 12 = .ok (.iconst 1, 1) := by decide +kernel
theorem dL_found_13 : decode cL_found 13 = .ok (.ireturn, 1) := by decide +kernel
theorem dL_found_14 : decode cL_found 14 = .ok (.iconst 0, 1) := by decide +kernel
theorem dL_found_15 : decode cL_found 15 = .ok (.ireturn, 1) := by decide +kernel
theorem dL_keyFound_0 : decode cL_keyFound 0 = .ok (.aload_n 2, 1) := by decide +kernel
theorem dL_keyFound_1 : decode cL_keyFound 1 = .ok (.iconst 0, 1) := by decide +kernel
theorem dL_keyFound_2 : decode cL_keyFound 2 = .ok (.aload_n 0, 1) := by decide +kernel
theorem dL_keyFound_3 : decode cL_keyFound 3 = .ok (.iload_n 1, 1) := by decide +kernel
theorem dL_keyFound_4 : decode cL_keyFound 4 = .ok (.invokevirtual 111, 3) := by decide +kernel
theorem dL_keyFound_7 : decode cL_keyFound 7 = .ok (.i2l, 1) := by decide +kernel
theorem dL_keyFound_8 : decode cL_keyFound 8 = .ok (.lastore, 1) := by decide +kernel
theorem dL_keyFound_9 : decode cL_keyFound 9 = .ok (.goto 9, 3) := by decide +kernel
theorem dL_keyFound_12 : decode cL_keyFound 12 = .ok (.astore_n 3, 1) := by decide +kernel
theorem dL_keyFound_13 : decode cL_keyFound 13 = .ok (.iconst 1, 1) := by decide +kernel
theorem dL_keyFound_14 : decode cL_keyFound 14 = .ok (.ireturn, 1) := by decide +kernel
theorem dL_keyFound_15 : decode cL_keyFound 15 = .ok (.astore_n 3, 1) := by decide +kernel
theorem dL_keyFound_16 : decode cL_keyFound 16 = .ok (.iconst 2, 1) := by decide +kernel
theorem dL_keyFound_17 : decode cL_keyFound 17 = .ok (.ireturn, 1) := by decide +kernel
theorem dL_keyFound_18 : decode cL_keyFound 18 = .ok (.iconst 0, 1) := by decide +kernel
theorem dL_keyFound_19 : decode cL_keyFound 19 = .ok (.ireturn, 1) := by decide +kernel
theorem dL_placeFound_0 : decode cL_placeFound 0 = .ok (.aload_n 2, 1) := by decide +kernel
theorem dL_placeFound_1 : decode cL_placeFound 1 = .ok (.iconst 0, 1) := by decide +kernel
theorem dL_placeFound_2 : decode cL_placeFound 2 = .ok (.aload_n 0, 1) := by decide +kernel
theorem dL_placeFound_3 : decode cL_placeFound 3 = .ok (.iload_n 1, 1) := by decide +kernel
theorem dL_placeFound_4 : decode cL_placeFound 4 = .ok (.invokevirtual 114, 3) := by decide +kernel
theorem dL_placeFound_7 : decode cL_placeFound 7 = .ok (.i2l, 1) := by decide +kernel
theorem dL_placeFound_8 : decode cL_placeFound 8 = .ok (.lastore, 1) := by decide +kernel
theorem dL_placeFound_9 : decode cL_placeFound 9 = .ok (.goto 9, 3) := by decide +kernel
theorem dL_placeFound_12 : decode cL_placeFound 12 = .ok (.astore_n 3, 1) := by decide +kernel
theorem dL_placeFound_13 : decode cL_placeFound 13 = .ok (.iconst 1, 1) := by decide +kernel
theorem dL_placeFound_14 : decode cL_placeFound 14 = .ok (.ireturn, 1) := by decide +kernel
theorem dL_placeFound_15 : decode cL_placeFound 15 = .ok (.astore_n 3, 1) := by decide +kernel
theorem dL_placeFound_16 : decode cL_placeFound 16 = .ok (.iconst 2, 1) := by decide +kernel
theorem dL_placeFound_17 : decode cL_placeFound 17 = .ok (.ireturn, 1) := by decide +kernel
theorem dL_placeFound_18 : decode cL_placeFound 18 = .ok (.iconst 0, 1) := by decide +kernel
theorem dL_placeFound_19 : decode cL_placeFound 19 = .ok (.ireturn, 1) := by decide +kernel
theorem dL_isGood_0 : decode cL_isGood 0 = .ok (.aload_n 2, 1) := by decide +kernel
theorem dL_isGood_1 : decode cL_isGood 1 = .ok (.iconst 0, 1) := by decide +kernel
theorem dL_isGood_2 : decode cL_isGood 2 = .ok (.aload_n 0, 1) := by decide +kernel
theorem dL_isGood_3 : decode cL_isGood 3 = .ok (.iload_n 1, 1) := by decide +kernel
theorem dL_isGood_4 : decode cL_isGood 4 = .ok (.invokevirtual 117, 3) := by decide +kernel
theorem dL_isGood_7 : decode cL_isGood 7 = .ok (.ifCond .eq 7, 3) := by decide +kernel
theorem dL_isGood_10 : decode cL_isGood 10 = .ok (.lconst 1, 1) := by decide +kernel
theorem dL_isGood_11 : decode cL_isGood 11 = .ok (.goto 4, 3) := by decide +kernel
theorem dL_isGood_14 : decode cL_isGood 14 = .ok (.lconst 0, 1) := by decide +kernel
theorem dL_isGood_15 : decode cL_isGood 15 = .ok (.lastore, 1) := by decide +kernel
theorem dL_isGood_16 : decode cL_isGood 16 = .ok (.goto 9, 3) := by decide +kernel
theorem dL_isGood_19 : decode cL_isGood 19 = .ok (.astore_n 3, 1) := by decide +kernel
theorem dL_isGood_20 : decode cL_isGood 20 = .ok (.iconst 1, 1) := by decide +kernel
theorem dL_isGood_21 : decode cL_isGood 21 = .ok (.ireturn, 1) := by decide +kernel
theorem dL_isGood_22 : decode cL_isGood 22 = .ok (.astore_n 3, 1) := by decide +kernel
theorem dL_isGood_23 : decode cL_isGood 23 = .ok (.iconst 2, 1) := by decide +kernel
theorem dL_isGood_24 : decode cL_isGood 24 = .ok (.ireturn, 1) := by decide +kernel
theorem dL_isGood_25 : decode cL_isGood 25 = .ok (.iconst 0, 1) := by decide +kernel
theorem dL_isGood_26 : decode cL_isGood 26 = .ok (.ireturn, 1) := by decide +kernel
theorem dL_lengthFound_0 : decode cL_lengthFound 0 = .ok (.aload_n 2, 1) := by decide +kernel
theorem dL_lengthFound_1 : decode cL_lengthFound 1 = .ok (.iconst 0, 1) := by decide +kernel
theorem dL_lengthFound_2 : decode cL_lengthFound 2 = .ok (.aload_n 0, 1) := by decide +kernel
theorem dL_lengthFound_3 : decode cL_lengthFound 3 = .ok (.iload_n 1, 1) := by decide +kernel
theorem dL_lengthFound_4 : decode cL_lengthFound 4 = .ok (.invokevirtual 120, 3) := by decide +kernel
theorem dL_lengthFound_7 : decode cL_lengthFound 7 = .ok (.i2l, 1) := by decide +kernel
theorem dL_lengthFound_8 : decode cL_lengthFound 8 = .ok (.lastore, 1) := by decide +kernel
theorem dL_lengthFound_9 : decode cL_lengthFound 9 = .ok (.goto 9, 3) := by decide +kernel
theorem dL_lengthFound_12 : decode cL_lengthFound 12 = .ok (.astore_n 3, 1) := by decide +kernel
theorem dL_lengthFound_13 : decode cL_lengthFound 13 = .ok (.iconst 1, 1) := by decide +kernel
theorem dL_lengthFound_14 : decode cL_lengthFound 14 = .ok (.ireturn, 1) := by decide +kernel
theorem dL_lengthFound_15 : decode cL_lengthFound 15 = .ok (.astore_n 3, 1) := by decide +kernel
theorem dL_lengthFound_16 : decode cL_lengthFound 16 = .ok (.iconst 2, 1) := by decide +kernel
theorem dL_lengthFound_17 : decode cL_lengthFound 17 = .ok (.ireturn, 1) := by decide +kernel
theorem dL_lengthFound_18 : decode cL_lengthFound 18 = .ok (.iconst 0, 1) := by decide +kernel
theorem dL_lengthFound_19 : decode cL_lengthFound 19 = .ok (.ireturn, 1) := by decide +kernel
theorem dL_byteFound_0 : decode cL_byteFound 0 = .ok (.aload_n 3, 1) := by decide +kernel
theorem dL_byteFound_1 : decode cL_byteFound 1 = .ok (.iconst 0, 1) := by decide +kernel
theorem dL_byteFound_2 : decode cL_byteFound 2 = .ok (.aload_n 0, 1) := by decide +kernel
theorem dL_byteFound_3 : decode cL_byteFound 3 = .ok (.iload_n 1, 1) := by decide +kernel
theorem dL_byteFound_4 : decode cL_byteFound 4 = .ok (.iload_n 2, 1) := by decide +kernel
theorem dL_byteFound_5 : decode cL_byteFound 5 = .ok (.invokevirtual 123, 3) := by decide +kernel
theorem dL_byteFound_8 : decode cL_byteFound 8 = .ok (.i2l, 1) := by decide +kernel
theorem dL_byteFound_9 : decode cL_byteFound 9 = .ok (.lastore, 1) := by decide +kernel
theorem dL_byteFound_10 : decode cL_byteFound 10 = .ok (.goto 11, 3) := by decide +kernel
theorem dL_byteFound_13 : decode cL_byteFound 13 = .ok (.astore 4, 2) := by decide +kernel
theorem dL_byteFound_15 : decode cL_byteFound 15 = .ok (.iconst 1, 1) := by decide +kernel
theorem dL_byteFound_16 : decode cL_byteFound 16 = .ok (.ireturn, 1) := by decide +kernel
theorem dL_byteFound_17 : decode cL_byteFound 17 = .ok (.astore 4, 2) := by decide +kernel
theorem dL_byteFound_19 : decode cL_byteFound 19 = .ok (.iconst 2, 1) := by decide +kernel
theorem dL_byteFound_20 : decode cL_byteFound 20 = .ok (.ireturn, 1) := by decide +kernel
theorem dL_byteFound_21 : decode cL_byteFound 21 = .ok (.iconst 0, 1) := by decide +kernel
theorem dL_byteFound_22 : decode cL_byteFound 22 = .ok (.ireturn, 1) := by decide +kernel
theorem dL_restore_0 : decode cL_restore 0 = .ok (.aload_n 1, 1) := by decide +kernel
theorem dL_restore_1 : decode cL_restore 1 = .ok (.iconst 0, 1) := by decide +kernel
theorem dL_restore_2 : decode cL_restore 2 = .ok (.aload_n 0, 1) := by decide +kernel
theorem dL_restore_3 : decode cL_restore 3 = .ok (.invokevirtual 126, 3) := by decide +kernel
theorem dL_restore_6 : decode cL_restore 6 = .ok (.i2l, 1) := by decide +kernel
theorem dL_restore_7 : decode cL_restore 7 = .ok (.lastore, 1) := by decide +kernel
theorem dL_restore_8 : decode cL_restore 8 = .ok (.goto 6, 3) := by decide +kernel
theorem dL_restore_11 : decode cL_restore 11 = .ok (.astore_n 2, 1) := by decide +kernel
theorem dL_restore_12 : decode cL_restore 12 = .ok (.iconst 1, 1) := by decide +kernel
theorem dL_restore_13 : decode cL_restore 13 = .ok (.ireturn, 1) := by decide +kernel
theorem dL_restore_14 : decode cL_restore 14 = .ok (.iconst 0, 1) := by decide +kernel
theorem dL_restore_15 : decode cL_restore 15 = .ok (.ireturn, 1) := by decide +kernel
theorem dL_law_0 : decode cL_law 0 = .ok (.new 8, 3) := by decide +kernel
theorem dL_law_3 : decode cL_law 3 = .ok (.dup, 1) := by decide +kernel
theorem dL_law_4 : decode cL_law 4 = .ok (.invokespecial 129, 3) := by decide +kernel
theorem dL_law_7 : decode cL_law 7 = .ok (.astore_n 1, 1) := by decide +kernel
theorem dL_law_8 : decode cL_law 8 = .ok (.new 130, 3) := by decide +kernel
theorem dL_law_11 : decode cL_law 11 = .ok (.dup, 1) := by decide +kernel
theorem dL_law_12 : decode cL_law 12 = .ok (.invokespecial 132, 3) := by decide +kernel
theorem dL_law_15 : decode cL_law 15 = .ok (.astore_n 2, 1) := by decide +kernel
theorem dL_law_16 : decode cL_law 16 = .ok (.iconst 1, 1) := by decide +kernel
theorem dL_law_17 : decode cL_law 17 = .ok (.newarray .long, 2) := by decide +kernel
theorem dL_law_19 : decode cL_law 19 = .ok (.astore_n 3, 1) := by decide +kernel
theorem dL_law_20 : decode cL_law 20 = .ok (.iconst 0, 1) := by decide +kernel
theorem dL_law_21 : decode cL_law 21 = .ok (.istore 4, 2) := by decide +kernel
theorem dL_law_23 : decode cL_law 23 = .ok (.iload 4, 2) := by decide +kernel
theorem dL_law_25 : decode cL_law 25 = .ok (.aload_n 0, 1) := by decide +kernel
theorem dL_law_26 : decode cL_law 26 = .ok (.arraylength, 1) := by decide +kernel
theorem dL_law_27 : decode cL_law 27 = .ok (.iconst 4, 1) := by decide +kernel
theorem dL_law_28 : decode cL_law 28 = .ok (.isub, 1) := by decide +kernel
theorem dL_law_29 : decode cL_law 29 = .ok (.if_icmp .gt 2531, 3) := by decide +kernel
theorem dL_law_32 : decode cL_law 32 = .ok (.aload_n 0, 1) := by decide +kernel
theorem dL_law_33 : decode cL_law 33 = .ok (.iload 4, 2) := by decide +kernel
theorem dL_law_35 : decode cL_law 35 = .ok (.iaload, 1) := by decide +kernel
theorem dL_law_36 : decode cL_law 36 = .ok (.bipush 63, 2) := by decide +kernel
theorem dL_law_38 : decode cL_law 38 = .ok (.iand, 1) := by decide +kernel
theorem dL_law_39 : decode cL_law 39 = .ok (.tableswitch 2515 0 44 #[193, 261, 317, 385, 453, 521, 589, 645, 701, 726, 739, 795, 851, 919, 975, 1031, 1099, 1112, 1180, 1236, 1304, 1384, 1440, 1508, 1571, 1639, 1707, 1770, 1783, 1796, 1852, 1865, 1909, 1922, 1966, 2022, 2073, 2117, 2173, 2229, 2292, 2348, 2416, 2460, 2501], 193) := by decide +kernel
theorem dL_law_232 : decode cL_law 232 = .ok (.aload_n 1, 1) := by decide +kernel
theorem dL_law_233 : decode cL_law 233 = .ok (.aload_n 0, 1) := by decide +kernel
theorem dL_law_234 : decode cL_law 234 = .ok (.iload 4, 2) := by decide +kernel
theorem dL_law_236 : decode cL_law 236 = .ok (.iconst 1, 1) := by decide +kernel
theorem dL_law_237 : decode cL_law 237 = .ok (.iadd, 1) := by decide +kernel
theorem dL_law_238 : decode cL_law 238 = .ok (.iaload, 1) := by decide +kernel
theorem dL_law_239 : decode cL_law 239 = .ok (.aload_n 0, 1) := by decide +kernel
theorem dL_law_240 : decode cL_law 240 = .ok (.iload 4, 2) := by decide +kernel
theorem dL_law_242 : decode cL_law 242 = .ok (.iconst 2, 1) := by decide +kernel
theorem dL_law_243 : decode cL_law 243 = .ok (.iadd, 1) := by decide +kernel
theorem dL_law_244 : decode cL_law 244 = .ok (.iaload, 1) := by decide +kernel
theorem dL_law_245 : decode cL_law 245 = .ok (.aload_n 3, 1) := by decide +kernel
theorem dL_law_246 : decode cL_law 246 = .ok (.invokestatic 133, 3) := by decide +kernel
theorem dL_law_249 : decode cL_law 249 = .ok (.istore 5, 2) := by decide +kernel
theorem dL_law_251 : decode cL_law 251 = .ok (.aload_n 2, 1) := by decide +kernel
theorem dL_law_252 : decode cL_law 252 = .ok (.aload_n 0, 1) := by decide +kernel
theorem dL_law_253 : decode cL_law 253 = .ok (.iload 4, 2) := by decide +kernel
theorem dL_law_255 : decode cL_law 255 = .ok (.iconst 1, 1) := by decide +kernel
theorem dL_law_256 : decode cL_law 256 = .ok (.iadd, 1) := by decide +kernel
theorem dL_law_257 : decode cL_law 257 = .ok (.iaload, 1) := by decide +kernel
theorem dL_law_258 : decode cL_law 258 = .ok (.aload_n 0, 1) := by decide +kernel
theorem dL_law_259 : decode cL_law 259 = .ok (.iload 4, 2) := by decide +kernel
theorem dL_law_261 : decode cL_law 261 = .ok (.iconst 2, 1) := by decide +kernel
theorem dL_law_262 : decode cL_law 262 = .ok (.iadd, 1) := by decide +kernel
theorem dL_law_263 : decode cL_law 263 = .ok (.iaload, 1) := by decide +kernel
theorem dL_law_264 : decode cL_law 264 = .ok (.invokevirtual 138, 3) := by decide +kernel
theorem dL_law_267 : decode cL_law 267 = .ok (.istore 6, 2) := by decide +kernel
theorem dL_law_269 : decode cL_law 269 = .ok (.aload_n 2, 1) := by decide +kernel
theorem dL_law_270 : decode cL_law 270 = .ok (.invokevirtual 139, 3) := by decide +kernel
theorem dL_law_273 : decode cL_law 273 = .ok (.iload 5, 2) := by decide +kernel
theorem dL_law_275 : decode cL_law 275 = .ok (.if_icmp .eq 5, 3) := by decide +kernel
theorem dL_law_278 : decode cL_law 278 = .ok (.iconst 0, 1) := by decide +kernel
theorem dL_law_279 : decode cL_law 279 = .ok (.ireturn, 1) := by decide +kernel
theorem dL_law_280 : decode cL_law 280 = .ok (.iload 5, 2) := by decide +kernel
theorem dL_law_282 : decode cL_law 282 = .ok (.ifCond .ne 15, 3) := by decide +kernel
theorem dL_law_285 : decode cL_law 285 = .ok (.aload_n 3, 1) := by decide +kernel
theorem dL_law_286 : decode cL_law 286 = .ok (.iconst 0, 1) := by decide +kernel
theorem dL_law_287 : decode cL_law 287 = .ok (.laload, 1) := by decide +kernel
theorem dL_law_288 : decode cL_law 288 = .ok (.iload 6, 2) := by decide +kernel
theorem dL_law_290 : decode cL_law 290 = .ok (.i2l, 1) := by decide +kernel
theorem dL_law_291 : decode cL_law 291 = .ok (.lcmp, 1) := by decide +kernel
theorem dL_law_292 : decode cL_law 292 = .ok (.ifCond .eq 5, 3) := by decide +kernel
theorem dL_law_295 : decode cL_law 295 = .ok (.iconst 0, 1) := by decide +kernel
theorem dL_law_296 : decode cL_law 296 = .ok (.ireturn, 1) := by decide +kernel
theorem dL_law_297 : decode cL_law 297 = .ok (.goto 2257, 3) := by decide +kernel
theorem dL_law_300 : decode cL_law 300 = .ok (.aload_n 1, 1) := by decide +kernel
theorem dL_law_301 : decode cL_law 301 = .ok (.aload_n 0, 1) := by decide +kernel
theorem dL_law_302 : decode cL_law 302 = .ok (.iload 4, 2) := by decide +kernel
theorem dL_law_304 : decode cL_law 304 = .ok (.iconst 1, 1) := by decide +kernel
theorem dL_law_305 : decode cL_law 305 = .ok (.iadd, 1) := by decide +kernel
theorem dL_law_306 : decode cL_law 306 = .ok (.iaload, 1) := by decide +kernel
theorem dL_law_307 : decode cL_law 307 = .ok (.aload_n 3, 1) := by decide +kernel
theorem dL_law_308 : decode cL_law 308 = .ok (.invokestatic 142, 3) := by decide +kernel
theorem dL_law_311 : decode cL_law 311 = .ok (.istore 5, 2) := by decide +kernel
theorem dL_law_313 : decode cL_law 313 = .ok (.aload_n 2, 1) := by decide +kernel
theorem dL_law_314 : decode cL_law 314 = .ok (.aload_n 0, 1) := by decide +kernel
theorem dL_law_315 : decode cL_law 315 = .ok (.iload 4, 2) := by decide +kernel
theorem dL_law_317 : decode cL_law 317 = .ok (.iconst 1, 1) := by decide +kernel
theorem dL_law_318 : decode cL_law 318 = .ok (.iadd, 1) := by decide +kernel
theorem dL_law_319 : decode cL_law 319 = .ok (.iaload, 1) := by decide +kernel
theorem dL_law_320 : decode cL_law 320 = .ok (.invokevirtual 145, 3) := by decide +kernel
theorem dL_law_323 : decode cL_law 323 = .ok (.istore 6, 2) := by decide +kernel
theorem dL_law_325 : decode cL_law 325 = .ok (.aload_n 2, 1) := by decide +kernel
theorem dL_law_326 : decode cL_law 326 = .ok (.invokevirtual 139, 3) := by decide +kernel
theorem dL_law_329 : decode cL_law 329 = .ok (.iload 5, 2) := by decide +kernel
theorem dL_law_331 : decode cL_law 331 = .ok (.if_icmp .eq 5, 3) := by decide +kernel
theorem dL_law_334 : decode cL_law 334 = .ok (.iconst 0, 1) := by decide +kernel
theorem dL_law_335 : decode cL_law 335 = .ok (.ireturn, 1) := by decide +kernel
theorem dL_law_336 : decode cL_law 336 = .ok (.iload 5, 2) := by decide +kernel
theorem dL_law_338 : decode cL_law 338 = .ok (.ifCond .ne 15, 3) := by decide +kernel
theorem dL_law_341 : decode cL_law 341 = .ok (.aload_n 3, 1) := by decide +kernel
theorem dL_law_342 : decode cL_law 342 = .ok (.iconst 0, 1) := by decide +kernel
theorem dL_law_343 : decode cL_law 343 = .ok (.laload, 1) := by decide +kernel
theorem dL_law_344 : decode cL_law 344 = .ok (.iload 6, 2) := by decide +kernel
theorem dL_law_346 : decode cL_law 346 = .ok (.i2l, 1) := by decide +kernel
theorem dL_law_347 : decode cL_law 347 = .ok (.lcmp, 1) := by decide +kernel
theorem dL_law_348 : decode cL_law 348 = .ok (.ifCond .eq 5, 3) := by decide +kernel
theorem dL_law_351 : decode cL_law 351 = .ok (.iconst 0, 1) := by decide +kernel
theorem dL_law_352 : decode cL_law 352 = .ok (.ireturn, 1) := by decide +kernel
theorem dL_law_353 : decode cL_law 353 = .ok (.goto 2201, 3) := by decide +kernel
theorem dL_law_356 : decode cL_law 356 = .ok (.aload_n 1, 1) := by decide +kernel
theorem dL_law_357 : decode cL_law 357 = .ok (.aload_n 0, 1) := by decide +kernel
theorem dL_law_358 : decode cL_law 358 = .ok (.iload 4, 2) := by decide +kernel
theorem dL_law_360 : decode cL_law 360 = .ok (.iconst 1, 1) := by decide +kernel
theorem dL_law_361 : decode cL_law 361 = .ok (.iadd, 1) := by decide +kernel
theorem dL_law_362 : decode cL_law 362 = .ok (.iaload, 1) := by decide +kernel
theorem dL_law_363 : decode cL_law 363 = .ok (.aload_n 0, 1) := by decide +kernel
theorem dL_law_364 : decode cL_law 364 = .ok (.iload 4, 2) := by decide +kernel
theorem dL_law_366 : decode cL_law 366 = .ok (.iconst 2, 1) := by decide +kernel
theorem dL_law_367 : decode cL_law 367 = .ok (.iadd, 1) := by decide +kernel
theorem dL_law_368 : decode cL_law 368 = .ok (.iaload, 1) := by decide +kernel
theorem dL_law_369 : decode cL_law 369 = .ok (.aload_n 3, 1) := by decide +kernel
theorem dL_law_370 : decode cL_law 370 = .ok (.invokestatic 146, 3) := by decide +kernel
theorem dL_law_373 : decode cL_law 373 = .ok (.istore 5, 2) := by decide +kernel
theorem dL_law_375 : decode cL_law 375 = .ok (.aload_n 2, 1) := by decide +kernel
theorem dL_law_376 : decode cL_law 376 = .ok (.aload_n 0, 1) := by decide +kernel
theorem dL_law_377 : decode cL_law 377 = .ok (.iload 4, 2) := by decide +kernel
theorem dL_law_379 : decode cL_law 379 = .ok (.iconst 1, 1) := by decide +kernel
theorem dL_law_380 : decode cL_law 380 = .ok (.iadd, 1) := by decide +kernel
theorem dL_law_381 : decode cL_law 381 = .ok (.iaload, 1) := by decide +kernel
theorem dL_law_382 : decode cL_law 382 = .ok (.aload_n 0, 1) := by decide +kernel
theorem dL_law_383 : decode cL_law 383 = .ok (.iload 4, 2) := by decide +kernel
theorem dL_law_385 : decode cL_law 385 = .ok (.iconst 2, 1) := by decide +kernel
theorem dL_law_386 : decode cL_law 386 = .ok (.iadd, 1) := by decide +kernel
theorem dL_law_387 : decode cL_law 387 = .ok (.iaload, 1) := by decide +kernel
theorem dL_law_388 : decode cL_law 388 = .ok (.invokevirtual 148, 3) := by decide +kernel
theorem dL_law_391 : decode cL_law 391 = .ok (.istore 6, 2) := by decide +kernel
theorem dL_law_393 : decode cL_law 393 = .ok (.aload_n 2, 1) := by decide +kernel
theorem dL_law_394 : decode cL_law 394 = .ok (.invokevirtual 139, 3) := by decide +kernel
theorem dL_law_397 : decode cL_law 397 = .ok (.iload 5, 2) := by decide +kernel
theorem dL_law_399 : decode cL_law 399 = .ok (.if_icmp .eq 5, 3) := by decide +kernel
theorem dL_law_402 : decode cL_law 402 = .ok (.iconst 0, 1) := by decide +kernel
theorem dL_law_403 : decode cL_law 403 = .ok (.ireturn, 1) := by decide +kernel
theorem dL_law_404 : decode cL_law 404 = .ok (.iload 5, 2) := by decide +kernel
theorem dL_law_406 : decode cL_law 406 = .ok (.ifCond .ne 15, 3) := by decide +kernel
theorem dL_law_409 : decode cL_law 409 = .ok (.aload_n 3, 1) := by decide +kernel
theorem dL_law_410 : decode cL_law 410 = .ok (.iconst 0, 1) := by decide +kernel
theorem dL_law_411 : decode cL_law 411 = .ok (.laload, 1) := by decide +kernel
theorem dL_law_412 : decode cL_law 412 = .ok (.iload 6, 2) := by decide +kernel
theorem dL_law_414 : decode cL_law 414 = .ok (.i2l, 1) := by decide +kernel
