theorem dL_addBasin_0 : decode cL_addBasin 0 = .ok (.aload 6, 2) := by decide +kernel
theorem dL_addBasin_2 : decode cL_addBasin 2 = .ok (.iconst 0, 1) := by decide +kernel
theorem dL_addBasin_3 : decode cL_addBasin 3 = .ok (.aload_n 0, 1) := by decide +kernel
theorem dL_addBasin_4 : decode cL_addBasin 4 = .ok (.iload_n 1, 1) := by decide +kernel
theorem dL_addBasin_5 : decode cL_addBasin 5 = .ok (.iload_n 2, 1) := by decide +kernel
theorem dL_addBasin_6 : decode cL_addBasin 6 = .ok (.iload_n 3, 1) := by decide +kernel
theorem dL_addBasin_7 : decode cL_addBasin 7 = .ok (.iload 4, 2) := by decide +kernel
theorem dL_addBasin_9 : decode cL_addBasin 9 = .ok (.iload 5, 2) := by decide +kernel
theorem dL_addBasin_11 : decode cL_addBasin 11 = .ok (.invokevirtual 7, 3) := by decide +kernel
theorem dL_addBasin_14 : decode cL_addBasin 14 = .ok (.i2l, 1) := by decide +kernel
theorem dL_addBasin_15 : decode cL_addBasin 15 = .ok (.lastore, 1) := by decide +kernel
theorem dL_addBasin_16 : decode cL_addBasin 16 = .ok (.goto 15, 3) := by decide +kernel
theorem dL_addBasin_19 : decode cL_addBasin 19 = .ok (.astore 7, 2) := by decide +kernel
theorem dL_addBasin_21 : decode cL_addBasin 21 = .ok (.iconst 1, 1) := by decide +kernel
theorem dL_addBasin_22 : decode cL_addBasin 22 = .ok (.ireturn, 1) := by decide +kernel
theorem dL_addBasin_23 : decode cL_addBasin 23 = .ok (.astore 7, 2) := by decide +kernel
theorem dL_addBasin_25 : decode cL_addBasin 25 = .ok (.iconst 2, 1) := by decide +kernel
theorem dL_addBasin_26 : decode cL_addBasin 26 = .ok (.ireturn, 1) := by decide +kernel
theorem dL_addBasin_27 : decode cL_addBasin 27 = .ok (.astore 7, 2) := by decide +kernel
theorem dL_addBasin_29 : decode cL_addBasin 29 = .ok (.iconst 3, 1) := by decide +kernel
theorem dL_addBasin_30 : decode cL_addBasin 30 = .ok (.ireturn, 1) := by decide +kernel
theorem dL_addBasin_31 : decode cL_addBasin 31 = .ok (.iconst 0, 1) := by decide +kernel
theorem dL_addBasin_32 : decode cL_addBasin 32 = .ok (.ireturn, 1) := by decide +kernel
theorem dL_addCell_0 : decode cL_addCell 0 = .ok (.aload_n 3, 1) := by decide +kernel
theorem dL_addCell_1 : decode cL_addCell 1 = .ok (.iconst 0, 1) := by decide +kernel
theorem dL_addCell_2 : decode cL_addCell 2 = .ok (.aload_n 0, 1) := by decide +kernel
theorem dL_addCell_3 : decode cL_addCell 3 = .ok (.iload_n 1, 1) := by decide +kernel
theorem dL_addCell_4 : decode cL_addCell 4 = .ok (.iload_n 2, 1) := by decide +kernel
theorem dL_addCell_5 : decode cL_addCell 5 = .ok (.invokevirtual 19, 3) := by decide +kernel
theorem dL_addCell_8 : decode cL_addCell 8 = .ok (.i2l, 1) := by decide +kernel
theorem dL_addCell_9 : decode cL_addCell 9 = .ok (.lastore, 1) := by decide +kernel
theorem dL_addCell_10 : decode cL_addCell 10 = .ok (.goto 15, 3) := by decide +kernel
theorem dL_addCell_13 : decode cL_addCell 13 = .ok (.astore 4, 2) := by decide +kernel
theorem dL_addCell_15 : decode cL_addCell 15 = .ok (.iconst 1, 1) := by decide +kernel
theorem dL_addCell_16 : decode cL_addCell 16 = .ok (.ireturn, 1) := by decide +kernel
theorem dL_addCell_17 : decode cL_addCell 17 = .ok (.astore 4, 2) := by decide +kernel
theorem dL_addCell_19 : decode cL_addCell 19 = .ok (.iconst 2, 1) := by decide +kernel
theorem dL_addCell_20 : decode cL_addCell 20 = .ok (.ireturn, 1) := by decide +kernel
theorem dL_addCell_21 : decode cL_addCell 21 = .ok (.astore 4, 2) := by decide +kernel
theorem dL_addCell_23 : decode cL_addCell 23 = .ok (.iconst 3, 1) := by decide +kernel
theorem dL_addCell_24 : decode cL_addCell 24 = .ok (.ireturn, 1) := by decide +kernel
theorem dL_addCell_25 : decode cL_addCell 25 = .ok (.iconst 0, 1) := by decide +kernel
theorem dL_addCell_26 : decode cL_addCell 26 = .ok (.ireturn, 1) := by decide +kernel
theorem dL_cellCount_0 : decode cL_cellCount 0 = .ok (.aload_n 2, 1) := by decide +kernel
theorem dL_cellCount_1 : decode cL_cellCount 1 = .ok (.iconst 0, 1) := by decide +kernel
theorem dL_cellCount_2 : decode cL_cellCount 2 = .ok (.aload_n 0, 1) := by decide +kernel
theorem dL_cellCount_3 : decode cL_cellCount 3 = .ok (.iload_n 1, 1) := by decide +kernel
theorem dL_cellCount_4 : decode cL_cellCount 4 = .ok (.invokevirtual 23, 3) := by decide +kernel
theorem dL_cellCount_7 : decode cL_cellCount 7 = .ok (.i2l, 1) := by decide +kernel
theorem dL_cellCount_8 : decode cL_cellCount 8 = .ok (.lastore, 1) := by decide +kernel
theorem dL_cellCount_9 : decode cL_cellCount 9 = .ok (.goto 6, 3) := by decide +kernel
theorem dL_cellCount_12 : decode cL_cellCount 12 = .ok (.astore_n 3, 1) := by decide +kernel
theorem dL_cellCount_13 : decode cL_cellCount 13 = .ok (.iconst 1, 1) := by decide +kernel
theorem dL_cellCount_14 : decode cL_cellCount 14 = .ok (.ireturn, 1) := by decide +kernel
theorem dL_cellCount_15 : decode cL_cellCount 15 = .ok (.iconst 0, 1) := by decide +kernel
theorem dL_cellCount_16 : decode cL_cellCount 16 = .ok (.ireturn, 1) := by decide +kernel
theorem dL_capacityOf_0 : decode cL_capacityOf 0 = .ok (.aload_n 2, 1) := by decide +kernel
theorem dL_capacityOf_1 : decode cL_capacityOf 1 = .ok (.iconst 0, 1) := by decide +kernel
theorem dL_capacityOf_2 : decode cL_capacityOf 2 = .ok (.aload_n 0, 1) := by decide +kernel
theorem dL_capacityOf_3 : decode cL_capacityOf 3 = .ok (.iload_n 1, 1) := by decide +kernel
theorem dL_capacityOf_4 : decode cL_capacityOf 4 = .ok (.invokevirtual 27, 3) := by decide +kernel
theorem dL_capacityOf_7 : decode cL_capacityOf 7 = .ok (.i2l, 1) := by decide +kernel
theorem dL_capacityOf_8 : decode cL_capacityOf 8 = .ok (.lastore, 1) := by decide +kernel
theorem dL_capacityOf_9 : decode cL_capacityOf 9 = .ok (.goto 6, 3) := by decide +kernel
theorem dL_capacityOf_12 : decode cL_capacityOf 12 = .ok (.astore_n 3, 1) := by decide +kernel
theorem dL_capacityOf_13 : decode cL_capacityOf 13 = .ok (.iconst 1, 1) := by decide +kernel
theorem dL_capacityOf_14 : decode cL_capacityOf 14 = .ok (.ireturn, 1) := by decide +kernel
theorem dL_capacityOf_15 : decode cL_capacityOf 15 = .ok (.iconst 0, 1) := by decide +kernel
theorem dL_capacityOf_16 : decode cL_capacityOf 16 = .ok (.ireturn, 1) := by decide +kernel
theorem dL_setHand_0 : decode cL_setHand 0 = .ok (.aload_n 3, 1) := by decide +kernel
theorem dL_setHand_1 : decode cL_setHand 1 = .ok (.iconst 0, 1) := by decide +kernel
theorem dL_setHand_2 : decode cL_setHand 2 = .ok (.aload_n 0, 1) := by decide +kernel
theorem dL_setHand_3 : decode cL_setHand 3 = .ok (.iload_n 1, 1) := by decide +kernel
theorem dL_setHand_4 : decode cL_setHand 4 = .ok (.iload_n 2, 1) := by decide +kernel
theorem dL_setHand_5 : decode cL_setHand 5 = .ok (.invokevirtual 30, 3) := by decide +kernel
theorem dL_setHand_8 : decode cL_setHand 8 = .ok (.i2l, 1) := by decide +kernel
theorem dL_setHand_9 : decode cL_setHand 9 = .ok (.lastore, 1) := by decide +kernel
theorem dL_setHand_10 : decode cL_setHand 10 = .ok (.goto 11, 3) := by decide +kernel
theorem dL_setHand_13 : decode cL_setHand 13 = .ok (.astore 4, 2) := by decide +kernel
theorem dL_setHand_15 : decode cL_setHand 15 = .ok (.iconst 1, 1) := by decide +kernel
theorem dL_setHand_16 : decode cL_setHand 16 = .ok (.ireturn, 1) := by decide +kernel
theorem dL_setHand_17 : decode cL_setHand 17 = .ok (.astore 4, 2) := by decide +kernel
theorem dL_setHand_19 : decode cL_setHand 19 = .ok (.iconst 2, 1) := by decide +kernel
theorem dL_setHand_20 : decode cL_setHand 20 = .ok (.ireturn, 1) := by decide +kernel
theorem dL_setHand_21 : decode cL_setHand 21 = .ok (.iconst 0, 1) := by decide +kernel
theorem dL_setHand_22 : decode cL_setHand 22 = .ok (.ireturn, 1) := by decide +kernel
theorem dL_addRule_0 : decode cL_addRule 0 = .ok (.aload 6, 2) := by decide +kernel
theorem dL_addRule_2 : decode cL_addRule 2 = .ok (.iconst 0, 1) := by decide +kernel
theorem dL_addRule_3 : decode cL_addRule 3 = .ok (.aload_n 0, 1) := by decide +kernel
theorem dL_addRule_4 : decode cL_addRule 4 = .ok (.iload_n 1, 1) := by decide +kernel
theorem dL_addRule_5 : decode cL_addRule 5 = .ok (.iload_n 2, 1) := by decide +kernel
theorem dL_addRule_6 : decode cL_addRule 6 = .ok (.iload_n 3, 1) := by decide +kernel
theorem dL_addRule_7 : decode cL_addRule 7 = .ok (.iload 4, 2) := by decide +kernel
theorem dL_addRule_9 : decode cL_addRule 9 = .ok (.iload 5, 2) := by decide +kernel
theorem dL_addRule_11 : decode cL_addRule 11 = .ok (.invokevirtual 33, 3) := by decide +kernel
theorem dL_addRule_14 : decode cL_addRule 14 = .ok (.i2l, 1) := by decide +kernel
theorem dL_addRule_15 : decode cL_addRule 15 = .ok (.lastore, 1) := by decide +kernel
theorem dL_addRule_16 : decode cL_addRule 16 = .ok (.goto 15, 3) := by decide +kernel
theorem dL_addRule_19 : decode cL_addRule 19 = .ok (.astore 7, 2) := by decide +kernel
theorem dL_addRule_21 : decode cL_addRule 21 = .ok (.iconst 1, 1) := by decide +kernel
theorem dL_addRule_22 : decode cL_addRule 22 = .ok (.ireturn, 1) := by decide +kernel
theorem dL_addRule_23 : decode cL_addRule 23 = .ok (.astore 7, 2) := by decide +kernel
theorem dL_addRule_25 : decode cL_addRule 25 = .ok (.iconst 2, 1) := by decide +kernel
theorem dL_addRule_26 : decode cL_addRule 26 = .ok (.ireturn, 1) := by decide +kernel
theorem dL_addRule_27 : decode cL_addRule 27 = .ok (.astore 7, 2) := by decide +kernel
theorem dL_addRule_29 : decode cL_addRule 29 = .ok (.iconst 3, 1) := by decide +kernel
theorem dL_addRule_30 : decode cL_addRule 30 = .ok (.ireturn, 1) := by decide +kernel
theorem dL_addRule_31 : decode cL_addRule 31 = .ok (.iconst 0, 1) := by decide +kernel
theorem dL_addRule_32 : decode cL_addRule 32 = .ok (.ireturn, 1) := by decide +kernel
theorem dL_removeRule_0 : decode cL_removeRule 0 = .ok (.aload_n 2, 1) := by decide +kernel
theorem dL_removeRule_1 : decode cL_removeRule 1 = .ok (.iconst 0, 1) := by decide +kernel
theorem dL_removeRule_2 : decode cL_removeRule 2 = .ok (.aload_n 0, 1) := by decide +kernel
theorem dL_removeRule_3 : decode cL_removeRule 3 = .ok (.iload_n 1, 1) := by decide +kernel
theorem dL_removeRule_4 : decode cL_removeRule 4 = .ok (.invokevirtual 37, 3) := by decide +kernel
theorem dL_removeRule_7 : decode cL_removeRule 7 = .ok (.i2l, 1) := by decide +kernel
theorem dL_removeRule_8 : decode cL_removeRule 8 = .ok (.lastore, 1) := by decide +kernel
theorem dL_removeRule_9 : decode cL_removeRule 9 = .ok (.goto 6, 3) := by decide +kernel
theorem dL_removeRule_12 : decode cL_removeRule 12 = .ok (.astore_n 3, 1) := by decide +kernel
theorem dL_removeRule_13 : decode cL_removeRule 13 = .ok (.iconst 1, 1) := by decide +kernel
theorem dL_removeRule_14 : decode cL_removeRule 14 = .ok (.ireturn, 1) := by decide +kernel
theorem dL_removeRule_15 : decode cL_removeRule 15 = .ok (.iconst 0, 1) := by decide +kernel
theorem dL_removeRule_16 : decode cL_removeRule 16 = .ok (.ireturn, 1) := by decide +kernel
theorem dL_doesHold_0 : decode cL_doesHold 0 = .ok (.aload_n 2, 1) := by decide +kernel
theorem dL_doesHold_1 : decode cL_doesHold 1 = .ok (.iconst 0, 1) := by decide +kernel
theorem dL_doesHold_2 : decode cL_doesHold 2 = .ok (.aload_n 0, 1) := by decide +kernel
theorem dL_doesHold_3 : decode cL_doesHold 3 = .ok (.iload_n 1, 1) := by decide +kernel
theorem dL_doesHold_4 : decode cL_doesHold 4 = .ok (.invokevirtual 40, 3) := by decide +kernel
theorem dL_doesHold_7 : decode cL_doesHold 7 = .ok (.ifCond .eq 7, 3) := by decide +kernel
theorem dL_doesHold_10 : decode cL_doesHold 10 = .ok (.lconst 1, 1) := by decide +kernel
theorem dL_doesHold_11 : decode cL_doesHold 11 = .ok (.goto 4, 3) := by decide +kernel
theorem dL_doesHold_14 : decode cL_doesHold 14 = .ok (.lconst 0, 1) := by decide +kernel
theorem dL_doesHold_15 : decode cL_doesHold 15 = .ok (.lastore, 1) := by decide +kernel
theorem dL_doesHold_16 : decode cL_doesHold 16 = .ok (.goto 6, 3) := by decide +kernel
theorem dL_doesHold_19 : decode cL_doesHold 19 = .ok (.astore_n 3, 1) := by decide +kernel
theorem dL_doesHold_20 : decode cL_doesHold 20 = .ok (.iconst 1, 1) := by decide +kernel
theorem dL_doesHold_21 : decode cL_doesHold 21 = .ok (.ireturn, 1) := by decide +kernel
theorem dL_doesHold_22 : decode cL_doesHold 22 = .ok (.iconst 0, 1) := by decide +kernel
theorem dL_doesHold_23 : decode cL_doesHold 23 = .ok (.ireturn, 1) := by decide +kernel
theorem dL_openingNow_0 : decode cL_openingNow 0 = .ok (.aload_n 2, 1) := by decide +kernel
theorem dL_openingNow_1 : decode cL_openingNow 1 = .ok (.iconst 0, 1) := by decide +kernel
theorem dL_openingNow_2 : decode cL_openingNow 2 = .ok (.aload_n 0, 1) := by decide +kernel
theorem dL_openingNow_3 : decode cL_openingNow 3 = .ok (.iload_n 1, 1) := by decide +kernel
theorem dL_openingNow_4 : decode cL_openingNow 4 = .ok (.invokevirtual 44, 3) := by decide +kernel
theorem dL_openingNow_7 : decode cL_openingNow 7 = .ok (.i2l, 1) := by decide +kernel
theorem dL_openingNow_8 : decode cL_openingNow 8 = .ok (.lastore, 1) := by decide +kernel
theorem dL_openingNow_9 : decode cL_openingNow 9 = .ok (.goto 6, 3) := by decide +kernel
theorem dL_openingNow_12 : decode cL_openingNow 12 = .ok (.astore_n 3, 1) := by decide +kernel
theorem dL_openingNow_13 : decode cL_openingNow 13 = .ok (.iconst 1, 1) := by decide +kernel
theorem dL_openingNow_14 : decode cL_openingNow 14 = .ok (.ireturn, 1) := by decide +kernel
theorem dL_openingNow_15 : decode cL_openingNow 15 = .ok (.iconst 0, 1) := by decide +kernel
theorem dL_openingNow_16 : decode cL_openingNow 16 = .ok (.ireturn, 1) := by decide +kernel
theorem dL_setRain_0 : decode cL_setRain 0 = .ok (.aload_n 3, 1) := by decide +kernel
theorem dL_setRain_1 : decode cL_setRain 1 = .ok (.iconst 0, 1) := by decide +kernel
theorem dL_setRain_2 : decode cL_setRain 2 = .ok (.aload_n 0, 1) := by decide +kernel
theorem dL_setRain_3 : decode cL_setRain 3 = .ok (.iload_n 1, 1) := by decide +kernel
theorem dL_setRain_4 : decode cL_setRain 4 = .ok (.iload_n 2, 1) := by decide +kernel
theorem dL_setRain_5 : decode cL_setRain 5 = .ok (.invokevirtual 47, 3) := by decide +kernel
theorem dL_setRain_8 : decode cL_setRain 8 = .ok (.i2l, 1) := by decide +kernel
theorem dL_setRain_9 : decode cL_setRain 9 = .ok (.lastore, 1) := by decide +kernel
theorem dL_setRain_10 : decode cL_setRain 10 = .ok (.goto 11, 3) := by decide +kernel
theorem dL_setRain_13 : decode cL_setRain 13 = .ok (.astore 4, 2) := by decide +kernel
theorem dL_setRain_15 : decode cL_setRain 15 = .ok (.iconst 1, 1) := by decide +kernel
theorem dL_setRain_16 : decode cL_setRain 16 = .ok (.ireturn, 1) := by decide +kernel
theorem dL_setRain_17 : decode cL_setRain 17 = .ok (.astore 4, 2) := by decide +kernel
theorem dL_setRain_19 : decode cL_setRain 19 = .ok (.iconst 2, 1) := by decide +kernel
theorem dL_setRain_20 : decode cL_setRain 20 = .ok (.ireturn, 1) := by decide +kernel
theorem dL_setRain_21 : decode cL_setRain 21 = .ok (.iconst 0, 1) := by decide +kernel
theorem dL_setRain_22 : decode cL_setRain 22 = .ok (.ireturn, 1) := by decide +kernel
theorem dL_pass_0 : decode cL_pass 0 = .ok (.aload_n 2, 1) := by decide +kernel
theorem dL_pass_1 : decode cL_pass 1 = .ok (.iconst 0, 1) := by decide +kernel
theorem dL_pass_2 : decode cL_pass 2 = .ok (.aload_n 0, 1) := by decide +kernel
theorem dL_pass_3 : decode cL_pass 3 = .ok (.iload_n 1, 1) := by decide +kernel
theorem dL_pass_4 : decode cL_pass 4 = .ok (.invokevirtual 50, 3) := by decide +kernel
theorem dL_pass_7 : decode cL_pass 7 = .ok (.i2l, 1) := by decide +kernel
theorem dL_pass_8 : decode cL_pass 8 = .ok (.lastore, 1) := by decide +kernel
theorem dL_pass_9 : decode cL_pass 9 = .ok (.goto 9, 3) := by decide +kernel
theorem dL_pass_12 : decode cL_pass 12 = .ok (.astore_n 3, 1) := by decide +kernel
theorem dL_pass_13 : decode cL_pass 13 = .ok (.iconst 1, 1) := by decide +kernel
theorem dL_pass_14 : decode cL_pass 14 = .ok (.ireturn, 1) := by decide +kernel
theorem dL_pass_15 : decode cL_pass 15 = .ok (.astore_n 3, 1) := by decide +kernel
theorem dL_pass_16 : decode cL_pass 16 = .ok (.iconst 2, 1) := by decide +kernel
theorem dL_pass_17 : decode cL_pass 17 = .ok (.ireturn, 1) := by decide +kernel
theorem dL_pass_18 : decode cL_pass 18 = .ok (.iconst 0, 1) := by decide +kernel
theorem dL_pass_19 : decode cL_pass 19 = .ok (.ireturn, 1) := by decide +kernel
theorem dL_volumeOf_0 : decode cL_volumeOf 0 = .ok (.aload_n 2, 1) := by decide +kernel
theorem dL_volumeOf_1 : decode cL_volumeOf 1 = .ok (.iconst 0, 1) := by decide +kernel
theorem dL_volumeOf_2 : decode cL_volumeOf 2 = .ok (.aload_n 0, 1) := by decide +kernel
theorem dL_volumeOf_3 : decode cL_volumeOf 3 = .ok (.iload_n 1, 1) := by decide +kernel
theorem dL_volumeOf_4 : decode cL_volumeOf 4 = .ok (.invokevirtual 53, 3) := by decide +kernel
theorem dL_volumeOf_7 : decode cL_volumeOf 7 = .ok (.i2l, 1) := by decide +kernel
theorem dL_volumeOf_8 : decode cL_volumeOf 8 = .ok (.lastore, 1) := by decide +kernel
theorem dL_volumeOf_9 : decode cL_volumeOf 9 = .ok (.goto 6, 3) := by decide +kernel
theorem dL_volumeOf_12 : decode cL_volumeOf 12 = .ok (.astore_n 3, 1) := by decide +kernel
theorem dL_volumeOf_13 : decode cL_volumeOf 13 = .ok (.iconst 1, 1) := by decide +kernel
theorem dL_volumeOf_14 : decode cL_volumeOf 14 = .ok (.ireturn, 1) := by decide +kernel
theorem dL_volumeOf_15 : decode cL_volumeOf 15 = .ok (.iconst 0, 1) := by decide +kernel
theorem dL_volumeOf_16 : decode cL_volumeOf 16 = .ok (.ireturn, 1) := by decide +kernel
theorem dL_levelOf_0 : decode cL_levelOf 0 = .ok (.aload_n 2, 1) := by decide +kernel
theorem dL_levelOf_1 : decode cL_levelOf 1 = .ok (.iconst 0, 1) := by decide +kernel
theorem dL_levelOf_2 : decode cL_levelOf 2 = .ok (.aload_n 0, 1) := by decide +kernel
theorem dL_levelOf_3 : decode cL_levelOf 3 = .ok (.iload_n 1, 1) := by decide +kernel
theorem dL_levelOf_4 : decode cL_levelOf 4 = .ok (.invokevirtual 56, 3) := by decide +kernel
theorem dL_levelOf_7 : decode cL_levelOf 7 = .ok (.i2l, 1) := by decide +kernel
theorem dL_levelOf_8 : decode cL_levelOf 8 = .ok (.lastore, 1) := by decide +kernel
theorem dL_levelOf_9 : decode cL_levelOf 9 = .ok (.goto 6, 3) := by decide +kernel
theorem dL_levelOf_12 : decode cL_levelOf 12 = .ok (.astore_n 3, 1) := by decide +kernel
theorem dL_levelOf_13 : decode cL_levelOf 13 = .ok (.iconst 1, 1) := by decide +kernel
theorem dL_levelOf_14 : decode cL_levelOf 14 = .ok (.ireturn, 1) := by decide +kernel
theorem dL_levelOf_15 : decode cL_levelOf 15 = .ok (.iconst 0, 1) := by decide +kernel
theorem dL_levelOf_16 : decode cL_levelOf 16 = .ok (.ireturn, 1) := by decide +kernel
theorem dL_streetVolume_0 : decode cL_streetVolume 0 = .ok (.aload_n 2, 1) := by decide +kernel
theorem dL_streetVolume_1 : decode cL_streetVolume 1 = .ok (.iconst 0, 1) := by decide +kernel
theorem dL_streetVolume_2 : decode cL_streetVolume 2 = .ok (.aload_n 0, 1) := by decide +kernel
theorem dL_streetVolume_3 : decode cL_streetVolume 3 = .ok (.iload_n 1, 1) := by decide +kernel
theorem dL_streetVolume_4 : decode cL_streetVolume 4 = .ok (.invokevirtual 59, 3) := by decide +kernel
theorem dL_streetVolume_7 : decode cL_streetVolume 7 = .ok (.i2l, 1) := by decide +kernel
theorem dL_streetVolume_8 : decode cL_streetVolume 8 = .ok (.lastore, 1) := by decide +kernel
theorem dL_streetVolume_9 : decode cL_streetVolume 9 = .ok (.goto 6, 3) := by decide +kernel
theorem dL_streetVolume_12 : decode cL_streetVolume 12 = .ok (.astore_n 3, 1) := by decide +kernel
theorem dL_streetVolume_13 : decode cL_streetVolume 13 = .ok (.iconst 1, 1) := by decide +kernel
theorem dL_streetVolume_14 : decode cL_streetVolume 14 = .ok (.ireturn, 1) := by decide +kernel
theorem dL_streetVolume_15 : decode cL_streetVolume 15 = .ok (.iconst 0, 1) := by decide +kernel
theorem dL_streetVolume_16 : decode cL_streetVolume 16 = .ok (.ireturn, 1) := by decide +kernel
theorem dL_depthAt_0 : decode cL_depthAt 0 = .ok (.aload_n 3, 1) := by decide +kernel
theorem dL_depthAt_1 : decode cL_depthAt 1 = .ok (.iconst 0, 1) := by decide +kernel
theorem dL_depthAt_2 : decode cL_depthAt 2 = .ok (.aload_n 0, 1) := by decide +kernel
theorem dL_depthAt_3 : decode cL_depthAt 3 = .ok (.iload_n 1, 1) := by decide +kernel
theorem dL_depthAt_4 : decode cL_depthAt 4 = .ok (.iload_n 2, 1) := by decide +kernel
theorem dL_depthAt_5 : decode cL_depthAt 5 = .ok (.invokevirtual 62, 3) := by decide +kernel
theorem dL_depthAt_8 : decode cL_depthAt 8 = .ok (.i2l, 1) := by decide +kernel
theorem dL_depthAt_9 : decode cL_depthAt 9 = .ok (.lastore, 1) := by decide +kernel
theorem dL_depthAt_10 : decode cL_depthAt 10 = .ok (.goto 7, 3) := by decide +kernel
theorem dL_depthAt_13 : decode cL_depthAt 13 = .ok (.astore 4, 2) := by decide +kernel
theorem dL_depthAt_15 : decode cL_depthAt 15 = .ok (.iconst 1, 1) := by decide +kernel
theorem dL_depthAt_16 : decode cL_depthAt 16 = .ok (.ireturn, 1) := by decide +kernel
theorem dL_depthAt_17 : decode cL_depthAt 17 = .ok (.iconst 0, 1) := by decide +kernel
theorem dL_depthAt_18 : decode cL_depthAt 18 = .ok (.ireturn, 1) := by decide +kernel
theorem dL_depthByPouring_0 : decode cL_depthByPouring 0 = .ok (.aload_n 3, 1) := by decide +kernel
theorem dL_depthByPouring_1 : decode cL_depthByPouring 1 = .ok (.iconst 0, 1) := by decide +kernel
theorem dL_depthByPouring_2 : decode cL_depthByPouring 2 = .ok (.aload_n 0, 1) := by decide +kernel
theorem dL_depthByPouring_3 : decode cL_depthByPouring 3 = .ok (.iload_n 1, 1) := by decide +kernel
theorem dL_depthByPouring_4 : decode cL_depthByPouring 4 = .ok (.iload_n 2, 1) := by decide +kernel
theorem dL_depthByPouring_5 : decode cL_depthByPouring 5 = .ok (.invokevirtual 65, 3) := by decide +kernel
theorem dL_depthByPouring_8 : decode cL_depthByPouring 8 = .ok (.i2l, 1) := by decide +kernel
theorem dL_depthByPouring_9 : decode cL_depthByPouring 9 = .ok (.lastore, 1) := by decide +kernel
theorem dL_depthByPouring_10 : decode cL_depthByPouring 10 = .ok (.goto 7, 3) := by decide +kernel
theorem dL_depthByPouring_13 : decode cL_depthByPouring 13 = .ok (.astore 4, 2) := by decide +kernel
theorem dL_depthByPouring_15 : decode cL_depthByPouring 15 = .ok (.iconst 1, 1) := by decide +kernel
theorem dL_depthByPouring_16 : decode cL_depthByPouring 16 = .ok (.ireturn, 1) := by decide +kernel
theorem dL_depthByPouring_17 : decode cL_depthByPouring 17 = .ok (.iconst 0, 1) := by decide +kernel
theorem dL_depthByPouring_18 : decode cL_depthByPouring 18 = .ok (.ireturn, 1) := by decide +kernel
theorem dL_depthThen_0 : decode cL_depthThen 0 = .ok (.aload 4, 2) := by decide +kernel
theorem dL_depthThen_2 : decode cL_depthThen 2 = .ok (.iconst 0, 1) := by decide +kernel
theorem dL_depthThen_3 : decode cL_depthThen 3 = .ok (.aload_n 0, 1) := by decide +kernel
theorem dL_depthThen_4 : decode cL_depthThen 4 = .ok (.iload_n 1, 1) := by decide +kernel
theorem dL_depthThen_5 : decode cL_depthThen 5 = .ok (.iload_n 2, 1) := by decide +kernel
theorem dL_depthThen_6 : decode cL_depthThen 6 = .ok (.iload_n 3, 1) := by decide +kernel
theorem dL_depthThen_7 : decode cL_depthThen 7 = .ok (.invokevirtual 68, 3) := by decide +kernel
theorem dL_depthThen_10 : decode cL_depthThen 10 = .ok (.i2l, 1) := by decide +kernel
theorem dL_depthThen_11 : decode cL_depthThen 11 = .ok (.lastore, 1) := by decide +kernel
theorem dL_depthThen_12 : decode cL_depthThen 12 = .ok (.goto 11, 3) := by decide +kernel
theorem dL_depthThen_15 : decode cL_depthThen 15 = .ok (.astore 5, 2) := by decide +kernel
theorem dL_depthThen_17 : decode cL_depthThen 17 = .ok (.iconst 1, 1) := by decide +kernel
theorem dL_depthThen_18 : decode cL_depthThen 18 = .ok (.ireturn, 1) := by decide +kernel
theorem dL_depthThen_19 : decode cL_depthThen 19 = .ok (.astore 5, 2) := by decide +kernel
theorem dL_depthThen_21 : decode cL_depthThen 21 = .ok (.iconst 2, 1) := by decide +kernel
theorem dL_depthThen_22 : decode cL_depthThen 22 = .ok (.ireturn, 1) := by decide +kernel
theorem dL_depthThen_23 : decode cL_depthThen 23 = .ok (.iconst 0, 1) := by decide +kernel
theorem dL_depthThen_24 : decode cL_depthThen 24 = .ok (.ireturn, 1) := by decide +kernel
theorem dL_wetCells_0 : decode cL_wetCells 0 = .ok (.aload_n 2, 1) := by decide +kernel
theorem dL_wetCells_1 : decode cL_wetCells 1 = .ok (.iconst 0, 1) := by decide +kernel
theorem dL_wetCells_2 : decode cL_wetCells 2 = .ok (.aload_n 0, 1) := by decide +kernel
theorem dL_wetCells_3 : decode cL_wetCells 3 = .ok (.iload_n 1, 1) := by decide +kernel
theorem dL_wetCells_4 : decode cL_wetCells 4 = .ok (.invokevirtual 72, 3) := by decide +kernel
theorem dL_wetCells_7 : decode cL_wetCells 7 = .ok (.i2l, 1) := by decide +kernel
theorem dL_wetCells_8 : decode cL_wetCells 8 = .ok (.lastore, 1) := by decide +kernel
theorem dL_wetCells_9 : decode cL_wetCells 9 = .ok (.goto 6, 3) := by decide +kernel
theorem dL_wetCells_12 : decode cL_wetCells 12 = .ok (.astore_n 3, 1) := by decide +kernel
theorem dL_wetCells_13 : decode cL_wetCells 13 = .ok (.iconst 1, 1) := by decide +kernel
theorem dL_wetCells_14 : decode cL_wetCells 14 = .ok (.ireturn, 1) := by decide +kernel
theorem dL_wetCells_15 : decode cL_wetCells 15 = .ok (.iconst 0, 1) := by decide +kernel
theorem dL_wetCells_16 : decode cL_wetCells 16 = .ok (.ireturn, 1) := by decide +kernel
theorem dL_wetHours_0 : decode cL_wetHours 0 = .ok (.aload_n 3, 1) := by decide +kernel
theorem dL_wetHours_1 : decode cL_wetHours 1 = .ok (.iconst 0, 1) := by decide +kernel
theorem dL_wetHours_2 : decode cL_wetHours 2 = .ok (.aload_n 0, 1) := by decide +kernel
theorem dL_wetHours_3 : decode cL_wetHours 3 = .ok (.iload_n 1, 1) := by decide +kernel
theorem dL_wetHours_4 : decode cL_wetHours 4 = .ok (.iload_n 2, 1) := by decide +kernel
theorem dL_wetHours_5 : decode cL_wetHours 5 = .ok (.invokevirtual 75, 3) := by decide +kernel
theorem dL_wetHours_8 : decode cL_wetHours 8 = .ok (.i2l, 1) := by decide +kernel
theorem dL_wetHours_9 : decode cL_wetHours 9 = .ok (.lastore, 1) := by decide +kernel
theorem dL_wetHours_10 : decode cL_wetHours 10 = .ok (.goto 7, 3) := by decide +kernel
theorem dL_wetHours_13 : decode cL_wetHours 13 = .ok (.astore 4, 2) := by decide +kernel
theorem dL_wetHours_15 : decode cL_wetHours 15 = .ok (.iconst 1, 1) := by decide +kernel
theorem dL_wetHours_16 : decode cL_wetHours 16 = .ok (.ireturn, 1) := by decide +kernel
theorem dL_wetHours_17 : decode cL_wetHours 17 = .ok (.iconst 0, 1) := by decide +kernel
theorem dL_wetHours_18 : decode cL_wetHours 18 = .ok (.ireturn, 1) := by decide +kernel
theorem dL_addHouse_0 : decode cL_addHouse 0 = .ok (.aload 5, 2) := by decide +kernel
theorem dL_addHouse_2 : decode cL_addHouse 2 = .ok (.iconst 0, 1) := by decide +kernel
theorem dL_addHouse_3 : decode cL_addHouse 3 = .ok (.aload_n 0, 1) := by decide +kernel
theorem dL_addHouse_4 : decode cL_addHouse 4 = .ok (.iload_n 1, 1) := by decide +kernel
theorem dL_addHouse_5 : decode cL_addHouse 5 = .ok (.iload_n 2, 1) := by decide +kernel
theorem dL_addHouse_6 : decode cL_addHouse 6 = .ok (.iload_n 3, 1) := by decide +kernel
theorem dL_addHouse_7 : decode cL_addHouse 7 = .ok (.iload 4, 2) := by decide +kernel
theorem dL_addHouse_9 : decode cL_addHouse 9 = .ok (.invokevirtual 78, 3) := by decide +kernel
theorem dL_addHouse_12 : decode cL_addHouse 12 = .ok (.i2l, 1) := by decide +kernel
theorem dL_addHouse_13 : decode cL_addHouse 13 = .ok (.lastore, 1) := by decide +kernel
theorem dL_addHouse_14 : decode cL_addHouse 14 = .ok (.goto 15, 3) := by decide +kernel
theorem dL_addHouse_17 : decode cL_addHouse 17 = .ok (.astore 6, 2) := by decide +kernel
theorem dL_addHouse_19 : decode cL_addHouse 19 = .ok (.iconst 1, 1) := by decide +kernel
theorem dL_addHouse_20 : decode cL_addHouse 20 = .ok (.ireturn, 1) := by decide +kernel
theorem dL_addHouse_21 : decode cL_addHouse 21 = .ok (.astore 6, 2) := by decide +kernel
theorem dL_addHouse_23 : decode cL_addHouse 23 = .ok (.iconst 2, 1) := by decide +kernel
theorem dL_addHouse_24 : decode cL_addHouse 24 = .ok (.ireturn, 1) := by decide +kernel
theorem dL_addHouse_25 : decode cL_addHouse 25 = .ok (.astore 6, 2) := by decide +kernel
theorem dL_addHouse_27 : decode cL_addHouse 27 = .ok (.iconst 3, 1) := by decide +kernel
theorem dL_addHouse_28 : decode cL_addHouse 28 = .ok (.ireturn, 1) := by decide +kernel
theorem dL_addHouse_29 : decode cL_addHouse 29 = .ok (.iconst 0, 1) := by decide +kernel
theorem dL_addHouse_30 : decode cL_addHouse 30 = .ok (.ireturn, 1) := by decide +kernel
theorem dL_wasWet_0 : decode cL_wasWet 0 = .ok (.aload_n 3, 1) := by decide +kernel
theorem dL_wasWet_1 : decode cL_wasWet 1 = .ok (.iconst 0, 1) := by decide +kernel
theorem dL_wasWet_2 : decode cL_wasWet 2 = .ok (.aload_n 0, 1) := by decide +kernel
theorem dL_wasWet_3 : decode cL_wasWet 3 = .ok (.iload_n 1, 1) := by decide +kernel
theorem dL_wasWet_4 : decode cL_wasWet 4 = .ok (.iload_n 2, 1) := by decide +kernel
theorem dL_wasWet_5 : decode cL_wasWet 5 = .ok (.invokevirtual 82, 3) := by decide +kernel
theorem dL_wasWet_8 : decode cL_wasWet 8 = .ok (.ifCond .eq 7, 3) := by decide +kernel
theorem dL_wasWet_11 : decode cL_wasWet 11 = .ok (.lconst 1, 1) := by decide +kernel
theorem dL_wasWet_12 : decode cL_wasWet 12 = .ok (.goto 4, 3) := by decide +kernel
theorem dL_wasWet_15 : decode cL_wasWet 15 = .ok (.lconst 0, 1) := by decide +kernel
theorem dL_wasWet_16 : decode cL_wasWet 16 = .ok (.lastore, 1) := by decide +kernel
theorem dL_wasWet_17 : decode cL_wasWet 17 = .ok (.goto 11, 3) := by decide +kernel
theorem dL_wasWet_20 : decode cL_wasWet 20 = .ok (.astore 4, 2) := by decide +kernel
theorem dL_wasWet_22 : decode cL_wasWet 22 = .ok (.iconst 1, 1) := by decide +kernel
theorem dL_wasWet_23 : decode cL_wasWet 23 = .ok (.ireturn, 1) := by decide +kernel
theorem dL_wasWet_24 : decode cL_wasWet 24 = .ok (.astore 4, 2) := by decide +kernel
theorem dL_wasWet_26 : decode cL_wasWet 26 = .ok (.iconst 2, 1) := by decide +kernel
theorem dL_wasWet_27 : decode cL_wasWet 27 = .ok (.ireturn, 1) := by decide +kernel
theorem dL_wasWet_28 : decode cL_wasWet 28 = .ok (.iconst 0, 1) := by decide +kernel
theorem dL_wasWet_29 : decode cL_wasWet 29 = .ok (.ireturn, 1) := by decide +kernel
theorem dL_worthOf_0 : decode cL_worthOf 0 = .ok (.aload_n 3, 1) := by decide +kernel
theorem dL_worthOf_1 : decode cL_worthOf 1 = .ok (.iconst 0, 1) := by decide +kernel
theorem dL_worthOf_2 : decode cL_worthOf 2 = .ok (.aload_n 0, 1) := by decide +kernel
theorem dL_worthOf_3 : decode cL_worthOf 3 = .ok (.iload_n 1, 1) := by decide +kernel
theorem dL_worthOf_4 : decode cL_worthOf 4 = .ok (.iload_n 2, 1) := by decide +kernel
theorem dL_worthOf_5 : decode cL_worthOf 5 = .ok (.invokevirtual 86, 3) := by decide +kernel
theorem dL_worthOf_8 : decode cL_worthOf 8 = .ok (.i2l, 1) := by decide +kernel
theorem dL_worthOf_9 : decode cL_worthOf 9 = .ok (.lastore, 1) := by decide +kernel
theorem dL_worthOf_10 : decode cL_worthOf 10 = .ok (.goto 11, 3) := by decide +kernel
theorem dL_worthOf_13 : decode cL_worthOf 13 = .ok (.astore 4, 2) := by decide +kernel
theorem dL_worthOf_15 : decode cL_worthOf 15 = .ok (.iconst 1, 1) := by decide +kernel
theorem dL_worthOf_16 : decode cL_worthOf 16 = .ok (.ireturn, 1) := by decide +kernel
theorem dL_worthOf_17 : decode cL_worthOf 17 = .ok (.astore 4, 2) := by decide +kernel
theorem dL_worthOf_19 : decode cL_worthOf 19 = .ok (.iconst 2, 1) := by decide +kernel
theorem dL_worthOf_20 : decode cL_worthOf 20 = .ok (.ireturn, 1) := by decide +kernel
theorem dL_worthOf_21 : decode cL_worthOf 21 = .ok (.iconst 0, 1) := by decide +kernel
theorem dL_worthOf_22 : decode cL_worthOf 22 = .ok (.ireturn, 1) := by decide +kernel
theorem dL_claim_0 : decode cL_claim 0 = .ok (.aload_n 3, 1) := by decide +kernel
theorem dL_claim_1 : decode cL_claim 1 = .ok (.iconst 0, 1) := by decide +kernel
theorem dL_claim_2 : decode cL_claim 2 = .ok (.aload_n 0, 1) := by decide +kernel
theorem dL_claim_3 : decode cL_claim 3 = .ok (.iload_n 1, 1) := by decide +kernel
theorem dL_claim_4 : decode cL_claim 4 = .ok (.iload_n 2, 1) := by decide +kernel
theorem dL_claim_5 : decode cL_claim 5 = .ok (.invokevirtual 89, 3) := by decide +kernel
theorem dL_claim_8 : decode cL_claim 8 = .ok (.i2l, 1) := by decide +kernel
theorem dL_claim_9 : decode cL_claim 9 = .ok (.lastore, 1) := by decide +kernel
theorem dL_claim_10 : decode cL_claim 10 = .ok (.goto 19, 3) := by decide +kernel
theorem dL_claim_13 : decode cL_claim 13 = .ok (.astore 4, 2) := by decide +kernel
theorem dL_claim_15 : decode cL_claim 15 = .ok (.iconst 1, 1) := by decide +kernel
theorem dL_claim_16 : decode cL_claim 16 = .ok (.ireturn, 1) := by decide +kernel
theorem dL_claim_17 : decode cL_claim 17 = .ok (.astore 4, 2) := by decide +kernel
theorem dL_claim_19 : decode cL_claim 19 = .ok (.iconst 2, 1) := by decide +kernel
theorem dL_claim_20 : decode cL_claim 20 = .ok (.ireturn, 1) := by decide +kernel
theorem dL_claim_21 : decode cL_claim 21 = .ok (.astore 4, 2) := by decide +kernel
theorem dL_claim_23 : decode cL_claim 23 = .ok (.iconst 3, 1) := by decide +kernel
theorem dL_claim_24 : decode cL_claim 24 = .ok (.ireturn, 1) := by decide +kernel
theorem dL_claim_25 : decode cL_claim 25 = .ok (.astore 4, 2) := by decide +kernel
theorem dL_claim_27 : decode cL_claim 27 = .ok (.iconst 4, 1) := by decide +kernel
theorem dL_claim_28 : decode cL_claim 28 = .ok (.ireturn, 1) := by decide +kernel
theorem dL_claim_29 : decode cL_claim 29 = .ok (.iconst 0, 1) := by decide +kernel
theorem dL_claim_30 : decode cL_claim 30 = .ok (.ireturn, 1) := by decide +kernel
theorem dL_claimWorst_0 : decode cL_claimWorst 0 = .ok (.aload_n 2, 1) := by decide +kernel
theorem dL_claimWorst_1 : decode cL_claimWorst 1 = .ok (.iconst 0, 1) := by decide +kernel
theorem dL_claimWorst_2 : decode cL_claimWorst 2 = .ok (.aload_n 0, 1) := by decide +kernel
theorem dL_claimWorst_3 : decode cL_claimWorst 3 = .ok (.iload_n 1, 1) := by decide +kernel
theorem dL_claimWorst_4 : decode cL_claimWorst 4 = .ok (.invokevirtual 94, 3) := by decide +kernel
theorem dL_claimWorst_7 : decode cL_claimWorst 7 = .ok (.i2l, 1) := by decide +kernel
theorem dL_claimWorst_8 : decode cL_claimWorst 8 = .ok (.lastore, 1) := by decide +kernel
theorem dL_claimWorst_9 : decode cL_claimWorst 9 = .ok (.goto 9, 3) := by decide +kernel
theorem dL_claimWorst_12 : decode cL_claimWorst 12 = .ok (.astore_n 3, 1) := by decide +kernel
theorem dL_claimWorst_13 : decode cL_claimWorst 13 = .ok (.iconst 1, 1) := by decide +kernel
theorem dL_claimWorst_14 : decode cL_claimWorst 14 = .ok (.ireturn, 1) := by decide +kernel
theorem dL_claimWorst_15 : decode cL_claimWorst 15 = .ok (.astore_n 3, 1) := by decide +kernel
theorem dL_claimWorst_16 : decode cL_claimWorst 16 = .ok (.iconst 2, 1) := by decide +kernel
theorem dL_claimWorst_17 : decode cL_claimWorst 17 = .ok (.ireturn, 1) := by decide +kernel
theorem dL_claimWorst_18 : decode cL_claimWorst 18 = .ok (.iconst 0, 1) := by decide +kernel
theorem dL_claimWorst_19 : decode cL_claimWorst 19 = .ok (.ireturn, 1) := by decide +kernel
theorem dL_claimCount_0 : decode cL_claimCount 0 = .ok (.aload_n 2, 1) := by decide +kernel
theorem dL_claimCount_1 : decode cL_claimCount 1 = .ok (.iconst 0, 1) := by decide +kernel
theorem dL_claimCount_2 : decode cL_claimCount 2 = .ok (.aload_n 0, 1) := by decide +kernel
theorem dL_claimCount_3 : decode cL_claimCount 3 = .ok (.iload_n 1, 1) := by decide +kernel
theorem dL_claimCount_4 : decode cL_claimCount 4 = .ok (.invokevirtual 99, 3) := by decide +kernel
theorem dL_claimCount_7 : decode cL_claimCount 7 = .ok (.i2l, 1) := by decide +kernel
theorem dL_claimCount_8 : decode cL_claimCount 8 = .ok (.lastore, 1) := by decide +kernel
theorem dL_claimCount_9 : decode cL_claimCount 9 = .ok (.goto 6, 3) := by decide +kernel
theorem dL_claimCount_12 : decode cL_claimCount 12 = .ok (.astore_n 3, 1) := by decide +kernel
theorem dL_claimCount_13 : decode cL_claimCount 13 = .ok (.iconst 1, 1) := by decide +kernel
theorem dL_claimCount_14 : decode cL_claimCount 14 = .ok (.ireturn, 1) := by decide +kernel
theorem dL_claimCount_15 : decode cL_claimCount 15 = .ok (.iconst 0, 1) := by decide +kernel
theorem dL_claimCount_16 : decode cL_claimCount 16 = .ok (.ireturn, 1) := by decide +kernel
theorem dL_paidTo_0 : decode cL_paidTo 0 = .ok (.aload_n 2, 1) := by decide +kernel
theorem dL_paidTo_1 : decode cL_paidTo 1 = .ok (.iconst 0, 1) := by decide +kernel
theorem dL_paidTo_2 : decode cL_paidTo 2 = .ok (.aload_n 0, 1) := by decide +kernel
theorem dL_paidTo_3 : decode cL_paidTo 3 = .ok (.iload_n 1, 1) := by decide +kernel
theorem dL_paidTo_4 : decode cL_paidTo 4 = .ok (.invokevirtual 102, 3) := by decide +kernel
theorem dL_paidTo_7 : decode cL_paidTo 7 = .ok (.i2l, 1) := by decide +kernel
theorem dL_paidTo_8 : decode cL_paidTo 8 = .ok (.lastore, 1) := by decide +kernel
theorem dL_paidTo_9 : decode cL_paidTo 9 = .ok (.goto 6, 3) := by decide +kernel
theorem dL_paidTo_12 : decode cL_paidTo 12 = .ok (.astore_n 3, 1) := by decide +kernel
theorem dL_paidTo_13 : decode cL_paidTo 13 = .ok (.iconst 1, 1) := by decide +kernel
theorem dL_paidTo_14 : decode cL_paidTo 14 = .ok (.ireturn, 1) := by decide +kernel
theorem dL_paidTo_15 : decode cL_paidTo 15 = .ok (.iconst 0, 1) := by decide +kernel
theorem dL_paidTo_16 : decode cL_paidTo 16 = .ok (.ireturn, 1) := by decide +kernel
theorem dL_meanPayment_0 : decode cL_meanPayment 0 = .ok (.aload_n 1, 1) := by decide +kernel
theorem dL_meanPayment_1 : decode cL_meanPayment 1 = .ok (.iconst 0, 1) := by decide +kernel
theorem dL_meanPayment_2 : decode cL_meanPayment 2 = .ok (.aload_n 0, 1) := by decide +kernel
theorem dL_meanPayment_3 : decode cL_meanPayment 3 = .ok (.invokevirtual 105, 3) := by decide +kernel
theorem dL_meanPayment_6 : decode cL_meanPayment 6 = .ok (.dastore, 1) := by decide +kernel
theorem dL_meanPayment_7 : decode cL_meanPayment 7 = .ok (.goto 6, 3) := by decide +kernel
theorem dL_meanPayment_10 : decode cL_meanPayment 10 = .ok (.astore_n 2, 1) := by decide +kernel
theorem dL_meanPayment_11 : decode cL_meanPayment 11 = .ok (.iconst 1, 1) := by decide +kernel
theorem dL_meanPayment_12 : decode cL_meanPayment 12 = .ok (.ireturn, 1) := by decide +kernel
theorem dL_meanPayment_13 : decode cL_meanPayment 13 = .ok (.iconst 0, 1) := by decide +kernel
theorem dL_meanPayment_14 : decode cL_meanPayment 14 = .ok (.ireturn, 1) := by decide +kernel
theorem dL_floodedWithOpening_0 : decode cL_floodedWithOpening 0 = .ok (.aload_n 3, 1) := by decide +kernel
theorem dL_floodedWithOpening_1 : decode cL_floodedWithOpening 1 = .ok (.iconst 0, 1) := by decide +kernel
theorem dL_floodedWithOpening_2 : decode cL_floodedWithOpening 2 = .ok (.aload_n 0, 1) := by decide +kernel
theorem dL_floodedWithOpening_3 : decode cL_floodedWithOpening 3 = .ok (.iload_n 1, 1) := by decide +kernel
theorem dL_floodedWithOpening_4 : decode cL_floodedWithOpening 4 = .ok (.iload_n 2, 1) := by decide +kernel
theorem dL_floodedWithOpening_5 : decode cL_floodedWithOpening 5 = .ok (.invokevirtual 111, 3) := by decide +kernel
theorem dL_floodedWithOpening_8 : decode cL_floodedWithOpening 8 = .ok (.i2l, 1) := by decide +kernel
theorem dL_floodedWithOpening_9 : decode cL_floodedWithOpening 9 = .ok (.lastore, 1) := by decide +kernel
theorem dL_floodedWithOpening_10 : decode cL_floodedWithOpening 10 = .ok (.goto 11, 3) := by decide +kernel
theorem dL_floodedWithOpening_13 : decode cL_floodedWithOpening 13 = .ok (.astore 4, 2) := by decide +kernel
theorem dL_floodedWithOpening_15 : decode cL_floodedWithOpening 15 = .ok (.iconst 1, 1) := by decide +kernel
theorem dL_floodedWithOpening_16 : decode cL_floodedWithOpening 16 = .ok (.ireturn, 1) := by decide +kernel
theorem dL_floodedWithOpening_17 : decode cL_floodedWithOpening 17 = .ok (.astore 4, 2) := by decide +kernel
theorem dL_floodedWithOpening_19 : decode cL_floodedWithOpening 19 = .ok (.iconst 2, 1) := by decide +kernel
theorem dL_floodedWithOpening_20 : decode cL_floodedWithOpening 20 = .ok (.ireturn, 1) := by decide +kernel
theorem dL_floodedWithOpening_21 : decode cL_floodedWithOpening 21 = .ok (.iconst 0, 1) := by decide +kernel
theorem dL_floodedWithOpening_22 : decode cL_floodedWithOpening 22 = .ok (.ireturn, 1) := by decide +kernel
theorem dL_bestOpening_0 : decode cL_bestOpening 0 = .ok (.aload_n 2, 1) := by decide +kernel
theorem dL_bestOpening_1 : decode cL_bestOpening 1 = .ok (.iconst 0, 1) := by decide +kernel
theorem dL_bestOpening_2 : decode cL_bestOpening 2 = .ok (.aload_n 0, 1) := by decide +kernel
theorem dL_bestOpening_3 : decode cL_bestOpening 3 = .ok (.iload_n 1, 1) := by decide +kernel
theorem dL_bestOpening_4 : decode cL_bestOpening 4 = .ok (.invokevirtual 114, 3) := by decide +kernel
theorem dL_bestOpening_7 : decode cL_bestOpening 7 = .ok (.i2l, 1) := by decide +kernel
theorem dL_bestOpening_8 : decode cL_bestOpening 8 = .ok (.lastore, 1) := by decide +kernel
theorem dL_bestOpening_9 : decode cL_bestOpening 9 = .ok (.goto 6, 3) := by decide +kernel
theorem dL_bestOpening_12 : decode cL_bestOpening 12 = .ok (.astore_n 3, 1) := by decide +kernel
theorem dL_bestOpening_13 : decode cL_bestOpening 13 = .ok (.iconst 1, 1) := by decide +kernel
theorem dL_bestOpening_14 : decode cL_bestOpening 14 = .ok (.ireturn, 1) := by decide +kernel
theorem dL_bestOpening_15 : decode cL_bestOpening 15 = .ok (.iconst 0, 1) := by decide +kernel
theorem dL_bestOpening_16 : decode cL_bestOpening 16 = .ok (.ireturn, 1) := by decide +kernel
theorem dL_writeRule_0 : decode cL_writeRule 0 = .ok (.aload_n 2, 1) := by decide +kernel
theorem dL_writeRule_1 : decode cL_writeRule 1 = .ok (.iconst 0, 1) := by decide +kernel
theorem dL_writeRule_2 : decode cL_writeRule 2 = .ok (.aload_n 0, 1) := by decide +kernel
theorem dL_writeRule_3 : decode cL_writeRule 3 = .ok (.iload_n 1, 1) := by decide +kernel
theorem dL_writeRule_4 : decode cL_writeRule 4 = .ok (.invokevirtual 117, 3) := by decide +kernel
theorem dL_writeRule_7 : decode cL_writeRule 7 = .ok (.i2l, 1) := by decide +kernel
theorem dL_writeRule_8 : decode cL_writeRule 8 = .ok (.lastore, 1) := by decide +kernel
theorem dL_writeRule_9 : decode cL_writeRule 9 = .ok (.goto 6, 3) := by decide +kernel
theorem dL_writeRule_12 : decode cL_writeRule 12 = .ok (.astore_n 3, 1) := by decide +kernel
theorem dL_writeRule_13 : decode cL_writeRule 13 = .ok (.iconst 1, 1) := by decide +kernel
theorem dL_writeRule_14 : decode cL_writeRule 14 = .ok (.ireturn, 1) := by decide +kernel
theorem dL_writeRule_15 : decode cL_writeRule 15 = .ok (.iconst 0, 1) := by decide +kernel
theorem dL_writeRule_16 : decode cL_writeRule 16 = .ok (.ireturn, 1) := by decide +kernel
theorem dL_lineAt_0 : decode cL_lineAt 0 = .ok (.aload_n 2, 1) := by decide +kernel
theorem dL_lineAt_1 : decode cL_lineAt 1 = .ok (.iconst 0, 1) := by decide +kernel
theorem dL_lineAt_2 : decode cL_lineAt 2 = .ok (.aload_n 0, 1) := by decide +kernel
theorem dL_lineAt_3 : decode cL_lineAt 3 = .ok (.iload_n 1, 1) := by decide +kernel
theorem dL_lineAt_4 : decode cL_lineAt 4 = .ok (.invokevirtual 120, 3) := by decide +kernel
theorem dL_lineAt_7 : decode cL_lineAt 7 = .ok (.i2l, 1) := by decide +kernel
theorem dL_lineAt_8 : decode cL_lineAt 8 = .ok (.lastore, 1) := by decide +kernel
theorem dL_lineAt_9 : decode cL_lineAt 9 = .ok (.goto 6, 3) := by decide +kernel
theorem dL_lineAt_12 : decode cL_lineAt 12 = .ok (.astore_n 3, 1) := by decide +kernel
theorem dL_lineAt_13 : decode cL_lineAt 13 = .ok (.iconst 1, 1) := by decide +kernel
theorem dL_lineAt_14 : decode cL_lineAt 14 = .ok (.ireturn, 1) := by decide +kernel
theorem dL_lineAt_15 : decode cL_lineAt 15 = .ok (.iconst 0, 1) := by decide +kernel
theorem dL_lineAt_16 : decode cL_lineAt 16 = .ok (.ireturn, 1) := by decide +kernel
