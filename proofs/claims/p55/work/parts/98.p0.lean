theorem dL_cell_0 : decode cL_cell 0 = .ok (.iload_n 1, 1) := by decide +kernel
theorem dL_cell_1 : decode cL_cell 1 = .ok (.aload_n 0, 1) := by decide +kernel
theorem dL_cell_2 : decode cL_cell 2 = .ok (.arraylength, 1) := by decide +kernel
theorem dL_cell_3 : decode cL_cell 3 = .ok (.if_icmp .ge 9, 3) := by decide +kernel
theorem dL_cell_6 : decode cL_cell 6 = .ok (.aload_n 0, 1) := by decide +kernel
theorem dL_cell_7 : decode cL_cell 7 = .ok (.iload_n 1, 1) := by decide +kernel
theorem dL_cell_8 : decode cL_cell 8 = .ok (.iaload, 1) := by decide +kernel
theorem dL_cell_9 : decode cL_cell 9 = .ok (.goto 10, 3) := by decide +kernel
theorem dL_cell_12 : decode cL_cell 12 = .ok (.ldc 7, 2) := by decide +kernel
theorem dL_cell_14 : decode cL_cell 14 = .ok (.iload_n 1, 1) := by decide +kernel
theorem dL_cell_15 : decode cL_cell 15 = .ok (.imul, 1) := by decide +kernel
theorem dL_cell_16 : decode cL_cell 16 = .ok (.bipush 19, 2) := by decide +kernel
theorem dL_cell_18 : decode cL_cell 18 = .ok (.iadd, 1) := by decide +kernel
theorem dL_cell_19 : decode cL_cell 19 = .ok (.ireturn, 1) := by decide +kernel
theorem dL_pick_0 : decode cL_pick 0 = .ok (.aload_n 0, 1) := by decide +kernel
theorem dL_pick_1 : decode cL_pick 1 = .ok (.iload_n 1, 1) := by decide +kernel
theorem dL_pick_2 : decode cL_pick 2 = .ok (.invokestatic 8, 3) := by decide +kernel
theorem dL_pick_5 : decode cL_pick 5 = .ok (.iconst 1, 1) := by decide +kernel
theorem dL_pick_6 : decode cL_pick 6 = .ok (.iushr, 1) := by decide +kernel
theorem dL_pick_7 : decode cL_pick 7 = .ok (.iload_n 2, 1) := by decide +kernel
theorem dL_pick_8 : decode cL_pick 8 = .ok (.irem, 1) := by decide +kernel
theorem dL_pick_9 : decode cL_pick 9 = .ok (.ireturn, 1) := by decide +kernel
theorem dL_addReach_0 : decode cL_addReach 0 = .ok (.aload_n 0, 1) := by decide +kernel
theorem dL_addReach_1 : decode cL_addReach 1 = .ok (.iload_n 1, 1) := by decide +kernel
theorem dL_addReach_2 : decode cL_addReach 2 = .ok (.iload_n 2, 1) := by decide +kernel
theorem dL_addReach_3 : decode cL_addReach 3 = .ok (.iload_n 3, 1) := by decide +kernel
theorem dL_addReach_4 : decode cL_addReach 4 = .ok (.iload 4, 2) := by decide +kernel
theorem dL_addReach_6 : decode cL_addReach 6 = .ok (.iload 5, 2) := by decide +kernel
theorem dL_addReach_8 : decode cL_addReach 8 = .ok (.invokevirtual 14, 3) := by decide +kernel
theorem dL_addReach_11 : decode cL_addReach 11 = .ok (.ireturn, 1) := by decide +kernel
theorem dL_addReach_12 : decode cL_addReach 12 = .ok (.astore 6, 2) := by decide +kernel
theorem dL_addReach_14 : decode cL_addReach 14 = .ok (.sipush (-1001), 3) := by decide +kernel
theorem dL_addReach_17 : decode cL_addReach 17 = .ok (.ireturn, 1) := by decide +kernel
theorem dL_addReach_18 : decode cL_addReach 18 = .ok (.astore 6, 2) := by decide +kernel
theorem dL_addReach_20 : decode cL_addReach 20 = .ok (.sipush (-1002), 3) := by decide +kernel
theorem dL_addReach_23 : decode cL_addReach 23 = .ok (.ireturn, 1) := by decide +kernel
theorem dL_areaOf_0 : decode cL_areaOf 0 = .ok (.aload_n 0, 1) := by decide +kernel
theorem dL_areaOf_1 : decode cL_areaOf 1 = .ok (.iload_n 1, 1) := by decide +kernel
theorem dL_areaOf_2 : decode cL_areaOf 2 = .ok (.invokevirtual 24, 3) := by decide +kernel
theorem dL_areaOf_5 : decode cL_areaOf 5 = .ok (.ireturn, 1) := by decide +kernel
theorem dL_areaOf_6 : decode cL_areaOf 6 = .ok (.astore_n 2, 1) := by decide +kernel
theorem dL_areaOf_7 : decode cL_areaOf 7 = .ok (.sipush (-1001), 3) := by decide +kernel
theorem dL_areaOf_10 : decode cL_areaOf 10 = .ok (.ireturn, 1) := by decide +kernel
theorem dL_volumeOf_0 : decode cL_volumeOf 0 = .ok (.aload_n 0, 1) := by decide +kernel
theorem dL_volumeOf_1 : decode cL_volumeOf 1 = .ok (.iload_n 1, 1) := by decide +kernel
theorem dL_volumeOf_2 : decode cL_volumeOf 2 = .ok (.invokevirtual 30, 3) := by decide +kernel
theorem dL_volumeOf_5 : decode cL_volumeOf 5 = .ok (.ireturn, 1) := by decide +kernel
theorem dL_volumeOf_6 : decode cL_volumeOf 6 = .ok (.astore_n 2, 1) := by decide +kernel
theorem dL_volumeOf_7 : decode cL_volumeOf 7 = .ok (.sipush (-1001), 3) := by decide +kernel
theorem dL_volumeOf_10 : decode cL_volumeOf 10 = .ok (.ireturn, 1) := by decide +kernel
theorem dL_volumeBySteps_0 : decode cL_volumeBySteps 0 = .ok (.aload_n 0, 1) := by decide +kernel
theorem dL_volumeBySteps_1 : decode cL_volumeBySteps 1 = .ok (.iload_n 1, 1) := by decide +kernel
theorem dL_volumeBySteps_2 : decode cL_volumeBySteps 2 = .ok (.invokevirtual 33, 3) := by decide +kernel
theorem dL_volumeBySteps_5 : decode cL_volumeBySteps 5 = .ok (.ireturn, 1) := by decide +kernel
theorem dL_volumeBySteps_6 : decode cL_volumeBySteps 6 = .ok (.astore_n 2, 1) := by decide +kernel
theorem dL_volumeBySteps_7 : decode cL_volumeBySteps 7 = .ok (.sipush (-1001), 3) := by decide +kernel
theorem dL_volumeBySteps_10 : decode cL_volumeBySteps 10 = .ok (.ireturn, 1) := by decide +kernel
theorem dL_levelOf_0 : decode cL_levelOf 0 = .ok (.aload_n 0, 1) := by decide +kernel
theorem dL_levelOf_1 : decode cL_levelOf 1 = .ok (.iload_n 1, 1) := by decide +kernel
theorem dL_levelOf_2 : decode cL_levelOf 2 = .ok (.invokevirtual 36, 3) := by decide +kernel
theorem dL_levelOf_5 : decode cL_levelOf 5 = .ok (.ireturn, 1) := by decide +kernel
theorem dL_levelOf_6 : decode cL_levelOf 6 = .ok (.astore_n 2, 1) := by decide +kernel
theorem dL_levelOf_7 : decode cL_levelOf 7 = .ok (.sipush (-1001), 3) := by decide +kernel
theorem dL_levelOf_10 : decode cL_levelOf 10 = .ok (.ireturn, 1) := by decide +kernel
theorem dL_lockfulOf_0 : decode cL_lockfulOf 0 = .ok (.aload_n 0, 1) := by decide +kernel
theorem dL_lockfulOf_1 : decode cL_lockfulOf 1 = .ok (.iload_n 1, 1) := by decide +kernel
theorem dL_lockfulOf_2 : decode cL_lockfulOf 2 = .ok (.invokevirtual 39, 3) := by decide +kernel
theorem dL_lockfulOf_5 : decode cL_lockfulOf 5 = .ok (.ireturn, 1) := by decide +kernel
theorem dL_lockfulOf_6 : decode cL_lockfulOf 6 = .ok (.astore_n 2, 1) := by decide +kernel
theorem dL_lockfulOf_7 : decode cL_lockfulOf 7 = .ok (.sipush (-1001), 3) := by decide +kernel
theorem dL_lockfulOf_10 : decode cL_lockfulOf 10 = .ok (.ireturn, 1) := by decide +kernel
theorem dL_isFull_0 : decode cL_isFull 0 = .ok (.aload_n 0, 1) := by decide +kernel
theorem dL_isFull_1 : decode cL_isFull 1 = .ok (.iload_n 1, 1) := by decide +kernel
theorem dL_isFull_2 : decode cL_isFull 2 = .ok (.invokevirtual 48, 3) := by decide +kernel
theorem dL_isFull_5 : decode cL_isFull 5 = .ok (.ifCond .eq 7, 3) := by decide +kernel
theorem dL_isFull_8 : decode cL_isFull 8 = .ok (.iconst 1, 1) := by decide +kernel
theorem dL_isFull_9 : decode cL_isFull 9 = .ok (.goto 4, 3) := by decide +kernel
theorem dL_isFull_12 : decode cL_isFull 12 = .ok (.iconst 0, 1) := by decide +kernel
theorem dL_isFull_13 : decode cL_isFull 13 = .ok (.ireturn, 1) := by decide +kernel
theorem dL_isFull_14 : decode cL_isFull 14 = .ok (.astore_n 2, 1) := by decide +kernel
theorem dL_isFull_15 : decode cL_isFull 15 = .ok (.sipush (-1001), 3) := by decide +kernel
theorem dL_isFull_18 : decode cL_isFull 18 = .ok (.ireturn, 1) := by decide +kernel
theorem dL_turn_0 : decode cL_turn 0 = .ok (.aload_n 0, 1) := by decide +kernel
theorem dL_turn_1 : decode cL_turn 1 = .ok (.iload_n 1, 1) := by decide +kernel
theorem dL_turn_2 : decode cL_turn 2 = .ok (.invokevirtual 52, 3) := by decide +kernel
theorem dL_turn_5 : decode cL_turn 5 = .ok (.ifCond .eq 7, 3) := by decide +kernel
theorem dL_turn_8 : decode cL_turn 8 = .ok (.iconst 1, 1) := by decide +kernel
theorem dL_turn_9 : decode cL_turn 9 = .ok (.goto 4, 3) := by decide +kernel
theorem dL_turn_12 : decode cL_turn 12 = .ok (.iconst 0, 1) := by decide +kernel
theorem dL_turn_13 : decode cL_turn 13 = .ok (.ireturn, 1) := by decide +kernel
theorem dL_turn_14 : decode cL_turn 14 = .ok (.astore_n 2, 1) := by decide +kernel
theorem dL_turn_15 : decode cL_turn 15 = .ok (.sipush (-1001), 3) := by decide +kernel
theorem dL_turn_18 : decode cL_turn 18 = .ok (.ireturn, 1) := by decide +kernel
theorem dL_turn_19 : decode cL_turn 19 = .ok (.astore_n 2, 1) := by decide +kernel
theorem dL_turn_20 : decode cL_turn 20 = .ok (.sipush (-1002), 3) := by decide +kernel
theorem dL_turn_23 : decode cL_turn 23 = .ok (.ireturn, 1) := by decide +kernel
theorem dL_waterThrough_0 : decode cL_waterThrough 0 = .ok (.aload_n 0, 1) := by decide +kernel
theorem dL_waterThrough_1 : decode cL_waterThrough 1 = .ok (.iload_n 1, 1) := by decide +kernel
theorem dL_waterThrough_2 : decode cL_waterThrough 2 = .ok (.invokevirtual 57, 3) := by decide +kernel
theorem dL_waterThrough_5 : decode cL_waterThrough 5 = .ok (.ireturn, 1) := by decide +kernel
theorem dL_waterThrough_6 : decode cL_waterThrough 6 = .ok (.astore_n 2, 1) := by decide +kernel
theorem dL_waterThrough_7 : decode cL_waterThrough 7 = .ok (.sipush (-1001), 3) := by decide +kernel
theorem dL_waterThrough_10 : decode cL_waterThrough 10 = .ok (.ireturn, 1) := by decide +kernel
theorem dL_rain_0 : decode cL_rain 0 = .ok (.aload_n 0, 1) := by decide +kernel
theorem dL_rain_1 : decode cL_rain 1 = .ok (.iload_n 1, 1) := by decide +kernel
theorem dL_rain_2 : decode cL_rain 2 = .ok (.iload_n 2, 1) := by decide +kernel
theorem dL_rain_3 : decode cL_rain 3 = .ok (.invokevirtual 60, 3) := by decide +kernel
theorem dL_rain_6 : decode cL_rain 6 = .ok (.ireturn, 1) := by decide +kernel
theorem dL_rain_7 : decode cL_rain 7 = .ok (.astore_n 3, 1) := by decide +kernel
theorem dL_rain_8 : decode cL_rain 8 = .ok (.sipush (-1001), 3) := by decide +kernel
theorem dL_rain_11 : decode cL_rain 11 = .ok (.ireturn, 1) := by decide +kernel
theorem dL_rain_12 : decode cL_rain 12 = .ok (.astore_n 3, 1) := by decide +kernel
theorem dL_rain_13 : decode cL_rain 13 = .ok (.sipush (-1002), 3) := by decide +kernel
theorem dL_rain_16 : decode cL_rain 16 = .ok (.ireturn, 1) := by decide +kernel
theorem dL_addBarge_0 : decode cL_addBarge 0 = .ok (.aload_n 0, 1) := by decide +kernel
theorem dL_addBarge_1 : decode cL_addBarge 1 = .ok (.iload_n 1, 1) := by decide +kernel
theorem dL_addBarge_2 : decode cL_addBarge 2 = .ok (.iload_n 2, 1) := by decide +kernel
theorem dL_addBarge_3 : decode cL_addBarge 3 = .ok (.iload_n 3, 1) := by decide +kernel
theorem dL_addBarge_4 : decode cL_addBarge 4 = .ok (.iload 4, 2) := by decide +kernel
theorem dL_addBarge_6 : decode cL_addBarge 6 = .ok (.invokevirtual 64, 3) := by decide +kernel
theorem dL_addBarge_9 : decode cL_addBarge 9 = .ok (.ireturn, 1) := by decide +kernel
theorem dL_addBarge_10 : decode cL_addBarge 10 = .ok (.astore 5, 2) := by decide +kernel
theorem dL_addBarge_12 : decode cL_addBarge 12 = .ok (.sipush (-1001), 3) := by decide +kernel
theorem dL_addBarge_15 : decode cL_addBarge 15 = .ok (.ireturn, 1) := by decide +kernel
theorem dL_addBarge_16 : decode cL_addBarge 16 = .ok (.astore 5, 2) := by decide +kernel
theorem dL_addBarge_18 : decode cL_addBarge 18 = .ok (.sipush (-1002), 3) := by decide +kernel
theorem dL_addBarge_21 : decode cL_addBarge 21 = .ok (.ireturn, 1) := by decide +kernel
theorem dL_addBarge_22 : decode cL_addBarge 22 = .ok (.astore 5, 2) := by decide +kernel
theorem dL_addBarge_24 : decode cL_addBarge 24 = .ok (.sipush (-1003), 3) := by decide +kernel
theorem dL_addBarge_27 : decode cL_addBarge 27 = .ok (.ireturn, 1) := by decide +kernel
theorem dL_addBarge_28 : decode cL_addBarge 28 = .ok (.astore 5, 2) := by decide +kernel
theorem dL_addBarge_30 : decode cL_addBarge 30 = .ok (.sipush (-1004), 3) := by decide +kernel
theorem dL_addBarge_33 : decode cL_addBarge 33 = .ok (.ireturn, 1) := by decide +kernel
theorem dL_reachOf_0 : decode cL_reachOf 0 = .ok (.aload_n 0, 1) := by decide +kernel
theorem dL_reachOf_1 : decode cL_reachOf 1 = .ok (.iload_n 1, 1) := by decide +kernel
theorem dL_reachOf_2 : decode cL_reachOf 2 = .ok (.invokevirtual 68, 3) := by decide +kernel
theorem dL_reachOf_5 : decode cL_reachOf 5 = .ok (.ireturn, 1) := by decide +kernel
theorem dL_reachOf_6 : decode cL_reachOf 6 = .ok (.astore_n 2, 1) := by decide +kernel
theorem dL_reachOf_7 : decode cL_reachOf 7 = .ok (.sipush (-1001), 3) := by decide +kernel
theorem dL_reachOf_10 : decode cL_reachOf 10 = .ok (.ireturn, 1) := by decide +kernel
theorem dL_cargoOf_0 : decode cL_cargoOf 0 = .ok (.aload_n 0, 1) := by decide +kernel
theorem dL_cargoOf_1 : decode cL_cargoOf 1 = .ok (.iload_n 1, 1) := by decide +kernel
theorem dL_cargoOf_2 : decode cL_cargoOf 2 = .ok (.invokevirtual 71, 3) := by decide +kernel
theorem dL_cargoOf_5 : decode cL_cargoOf 5 = .ok (.ireturn, 1) := by decide +kernel
theorem dL_cargoOf_6 : decode cL_cargoOf 6 = .ok (.astore_n 2, 1) := by decide +kernel
theorem dL_cargoOf_7 : decode cL_cargoOf 7 = .ok (.sipush (-1001), 3) := by decide +kernel
theorem dL_cargoOf_10 : decode cL_cargoOf 10 = .ok (.ireturn, 1) := by decide +kernel
theorem dL_draughtOf_0 : decode cL_draughtOf 0 = .ok (.aload_n 0, 1) := by decide +kernel
theorem dL_draughtOf_1 : decode cL_draughtOf 1 = .ok (.iload_n 1, 1) := by decide +kernel
theorem dL_draughtOf_2 : decode cL_draughtOf 2 = .ok (.invokevirtual 74, 3) := by decide +kernel
theorem dL_draughtOf_5 : decode cL_draughtOf 5 = .ok (.ireturn, 1) := by decide +kernel
theorem dL_draughtOf_6 : decode cL_draughtOf 6 = .ok (.astore_n 2, 1) := by decide +kernel
theorem dL_draughtOf_7 : decode cL_draughtOf 7 = .ok (.sipush (-1001), 3) := by decide +kernel
theorem dL_draughtOf_10 : decode cL_draughtOf 10 = .ok (.ireturn, 1) := by decide +kernel
theorem dL_isAfloat_0 : decode cL_isAfloat 0 = .ok (.aload_n 0, 1) := by decide +kernel
theorem dL_isAfloat_1 : decode cL_isAfloat 1 = .ok (.iload_n 1, 1) := by decide +kernel
theorem dL_isAfloat_2 : decode cL_isAfloat 2 = .ok (.invokevirtual 77, 3) := by decide +kernel
theorem dL_isAfloat_5 : decode cL_isAfloat 5 = .ok (.ifCond .eq 7, 3) := by decide +kernel
theorem dL_isAfloat_8 : decode cL_isAfloat 8 = .ok (.iconst 1, 1) := by decide +kernel
theorem dL_isAfloat_9 : decode cL_isAfloat 9 = .ok (.goto 4, 3) := by decide +kernel
theorem dL_isAfloat_12 : decode cL_isAfloat 12 = .ok (.iconst 0, 1) := by decide +kernel
theorem dL_isAfloat_13 : decode cL_isAfloat 13 = .ok (.ireturn, 1) := by decide +kernel
theorem dL_isAfloat_14 : decode cL_isAfloat 14 = .ok (.astore_n 2, 1) := by decide +kernel
theorem dL_isAfloat_15 : decode cL_isAfloat 15 = .ok (.sipush (-1001), 3) := by decide +kernel
theorem dL_isAfloat_18 : decode cL_isAfloat 18 = .ok (.ireturn, 1) := by decide +kernel
theorem dL_couple_0 : decode cL_couple 0 = .ok (.aload_n 0, 1) := by decide +kernel
theorem dL_couple_1 : decode cL_couple 1 = .ok (.iload_n 1, 1) := by decide +kernel
theorem dL_couple_2 : decode cL_couple 2 = .ok (.iload_n 2, 1) := by decide +kernel
theorem dL_couple_3 : decode cL_couple 3 = .ok (.invokevirtual 80, 3) := by decide +kernel
theorem dL_couple_6 : decode cL_couple 6 = .ok (.ireturn, 1) := by decide +kernel
theorem dL_couple_7 : decode cL_couple 7 = .ok (.astore_n 3, 1) := by decide +kernel
theorem dL_couple_8 : decode cL_couple 8 = .ok (.sipush (-1001), 3) := by decide +kernel
theorem dL_couple_11 : decode cL_couple 11 = .ok (.ireturn, 1) := by decide +kernel
theorem dL_couple_12 : decode cL_couple 12 = .ok (.astore_n 3, 1) := by decide +kernel
theorem dL_couple_13 : decode cL_couple 13 = .ok (.sipush (-1002), 3) := by decide +kernel
theorem dL_couple_16 : decode cL_couple 16 = .ok (.ireturn, 1) := by decide +kernel
theorem dL_couple_17 : decode cL_couple 17 = .ok (.astore_n 3, 1) := by decide +kernel
theorem dL_couple_18 : decode cL_couple 18 = .ok (.sipush (-1003), 3) := by decide +kernel
theorem dL_couple_21 : decode cL_couple 21 = .ok (.ireturn, 1) := by decide +kernel
theorem dL_uncouple_0 : decode cL_uncouple 0 = .ok (.aload_n 0, 1) := by decide +kernel
theorem dL_uncouple_1 : decode cL_uncouple 1 = .ok (.iload_n 1, 1) := by decide +kernel
theorem dL_uncouple_2 : decode cL_uncouple 2 = .ok (.invokevirtual 83, 3) := by decide +kernel
theorem dL_uncouple_5 : decode cL_uncouple 5 = .ok (.ireturn, 1) := by decide +kernel
theorem dL_uncouple_6 : decode cL_uncouple 6 = .ok (.astore_n 2, 1) := by decide +kernel
theorem dL_uncouple_7 : decode cL_uncouple 7 = .ok (.sipush (-1001), 3) := by decide +kernel
theorem dL_uncouple_10 : decode cL_uncouple 10 = .ok (.ireturn, 1) := by decide +kernel
theorem dL_uncouple_11 : decode cL_uncouple 11 = .ok (.astore_n 2, 1) := by decide +kernel
theorem dL_uncouple_12 : decode cL_uncouple 12 = .ok (.sipush (-1002), 3) := by decide +kernel
theorem dL_uncouple_15 : decode cL_uncouple 15 = .ok (.ireturn, 1) := by decide +kernel
theorem dL_convoySize_0 : decode cL_convoySize 0 = .ok (.aload_n 0, 1) := by decide +kernel
theorem dL_convoySize_1 : decode cL_convoySize 1 = .ok (.iload_n 1, 1) := by decide +kernel
theorem dL_convoySize_2 : decode cL_convoySize 2 = .ok (.invokevirtual 86, 3) := by decide +kernel
theorem dL_convoySize_5 : decode cL_convoySize 5 = .ok (.ireturn, 1) := by decide +kernel
theorem dL_convoySize_6 : decode cL_convoySize 6 = .ok (.astore_n 2, 1) := by decide +kernel
theorem dL_convoySize_7 : decode cL_convoySize 7 = .ok (.sipush (-1001), 3) := by decide +kernel
theorem dL_convoySize_10 : decode cL_convoySize 10 = .ok (.ireturn, 1) := by decide +kernel
theorem dL_convoyAt_0 : decode cL_convoyAt 0 = .ok (.aload_n 0, 1) := by decide +kernel
theorem dL_convoyAt_1 : decode cL_convoyAt 1 = .ok (.iload_n 1, 1) := by decide +kernel
theorem dL_convoyAt_2 : decode cL_convoyAt 2 = .ok (.iload_n 2, 1) := by decide +kernel
theorem dL_convoyAt_3 : decode cL_convoyAt 3 = .ok (.invokevirtual 89, 3) := by decide +kernel
theorem dL_convoyAt_6 : decode cL_convoyAt 6 = .ok (.ireturn, 1) := by decide +kernel
theorem dL_convoyAt_7 : decode cL_convoyAt 7 = .ok (.astore_n 3, 1) := by decide +kernel
theorem dL_convoyAt_8 : decode cL_convoyAt 8 = .ok (.sipush (-1001), 3) := by decide +kernel
theorem dL_convoyAt_11 : decode cL_convoyAt 11 = .ok (.ireturn, 1) := by decide +kernel
theorem dL_convoyAt_12 : decode cL_convoyAt 12 = .ok (.astore_n 3, 1) := by decide +kernel
theorem dL_convoyAt_13 : decode cL_convoyAt 13 = .ok (.sipush (-1002), 3) := by decide +kernel
theorem dL_convoyAt_16 : decode cL_convoyAt 16 = .ok (.ireturn, 1) := by decide +kernel
theorem dL_partsFor_0 : decode cL_partsFor 0 = .ok (.aload_n 0, 1) := by decide +kernel
theorem dL_partsFor_1 : decode cL_partsFor 1 = .ok (.iload_n 1, 1) := by decide +kernel
theorem dL_partsFor_2 : decode cL_partsFor 2 = .ok (.iload_n 2, 1) := by decide +kernel
theorem dL_partsFor_3 : decode cL_partsFor 3 = .ok (.invokevirtual 94, 3) := by decide +kernel
theorem dL_partsFor_6 : decode cL_partsFor 6 = .ok (.ireturn, 1) := by decide +kernel
theorem dL_partsFor_7 : decode cL_partsFor 7 = .ok (.astore_n 3, 1) := by decide +kernel
theorem dL_partsFor_8 : decode cL_partsFor 8 = .ok (.sipush (-1001), 3) := by decide +kernel
theorem dL_partsFor_11 : decode cL_partsFor 11 = .ok (.ireturn, 1) := by decide +kernel
theorem dL_partsFor_12 : decode cL_partsFor 12 = .ok (.astore_n 3, 1) := by decide +kernel
theorem dL_partsFor_13 : decode cL_partsFor 13 = .ok (.sipush (-1002), 3) := by decide +kernel
theorem dL_partsFor_16 : decode cL_partsFor 16 = .ok (.ireturn, 1) := by decide +kernel
theorem dL_pass_0 : decode cL_pass 0 = .ok (.aload_n 0, 1) := by decide +kernel
theorem dL_pass_1 : decode cL_pass 1 = .ok (.iload_n 1, 1) := by decide +kernel
theorem dL_pass_2 : decode cL_pass 2 = .ok (.iload_n 2, 1) := by decide +kernel
theorem dL_pass_3 : decode cL_pass 3 = .ok (.invokevirtual 97, 3) := by decide +kernel
theorem dL_pass_6 : decode cL_pass 6 = .ok (.ireturn, 1) := by decide +kernel
theorem dL_pass_7 : decode cL_pass 7 = .ok (.astore_n 3, 1) := by decide +kernel
theorem dL_pass_8 : decode cL_pass 8 = .ok (.sipush (-1001), 3) := by decide +kernel
theorem dL_pass_11 : decode cL_pass 11 = .ok (.ireturn, 1) := by decide +kernel
theorem dL_pass_12 : decode cL_pass 12 = .ok (.astore_n 3, 1) := by decide +kernel
theorem dL_pass_13 : decode cL_pass 13 = .ok (.sipush (-1002), 3) := by decide +kernel
theorem dL_pass_16 : decode cL_pass 16 = .ok (.ireturn, 1) := by decide +kernel
theorem dL_pass_17 : decode cL_pass 17 = .ok (.astore_n 3, 1) := by decide +kernel
theorem dL_pass_18 : decode cL_pass 18 = .ok (.sipush (-1003), 3) := by decide +kernel
theorem dL_pass_21 : decode cL_pass 21 = .ok (.ireturn, 1) := by decide +kernel
theorem dL_voyage_0 : decode cL_voyage 0 = .ok (.aload_n 0, 1) := by decide +kernel
theorem dL_voyage_1 : decode cL_voyage 1 = .ok (.iload_n 1, 1) := by decide +kernel
theorem dL_voyage_2 : decode cL_voyage 2 = .ok (.iload_n 2, 1) := by decide +kernel
theorem dL_voyage_3 : decode cL_voyage 3 = .ok (.invokevirtual 101, 3) := by decide +kernel
theorem dL_voyage_6 : decode cL_voyage 6 = .ok (.ireturn, 1) := by decide +kernel
theorem dL_voyage_7 : decode cL_voyage 7 = .ok (.astore_n 3, 1) := by decide +kernel
theorem dL_voyage_8 : decode cL_voyage 8 = .ok (.sipush (-1001), 3) := by decide +kernel
theorem dL_voyage_11 : decode cL_voyage 11 = .ok (.ireturn, 1) := by decide +kernel
theorem dL_voyage_12 : decode cL_voyage 12 = .ok (.astore_n 3, 1) := by decide +kernel
theorem dL_voyage_13 : decode cL_voyage 13 = .ok (.sipush (-1002), 3) := by decide +kernel
theorem dL_voyage_16 : decode cL_voyage 16 = .ok (.ireturn, 1) := by decide +kernel
theorem dL_voyage_17 : decode cL_voyage 17 = .ok (.astore_n 3, 1) := by decide +kernel
theorem dL_voyage_18 : decode cL_voyage 18 = .ok (.sipush (-1003), 3) := by decide +kernel
theorem dL_voyage_21 : decode cL_voyage 21 = .ok (.ireturn, 1) := by decide +kernel
theorem dL_isPossible_0 : decode cL_isPossible 0 = .ok (.aload_n 0, 1) := by decide +kernel
theorem dL_isPossible_1 : decode cL_isPossible 1 = .ok (.iload_n 1, 1) := by decide +kernel
theorem dL_isPossible_2 : decode cL_isPossible 2 = .ok (.iload_n 2, 1) := by decide +kernel
theorem dL_isPossible_3 : decode cL_isPossible 3 = .ok (.invokevirtual 104, 3) := by decide +kernel
theorem dL_isPossible_6 : decode cL_isPossible 6 = .ok (.ifCond .eq 7, 3) := by decide +kernel
theorem dL_isPossible_9 : decode cL_isPossible 9 = .ok (.iconst 1, 1) := by decide +kernel
theorem dL_isPossible_10 : decode cL_isPossible 10 = .ok (.goto 4, 3) := by decide +kernel
theorem dL_isPossible_13 : decode cL_isPossible 13 = .ok (.iconst 0, 1) := by decide +kernel
theorem dL_isPossible_14 : decode cL_isPossible 14 = .ok (.ireturn, 1) := by decide +kernel
theorem dL_isPossible_15 : decode cL_isPossible 15 = .ok (.astore_n 3, 1) := by decide +kernel
theorem dL_isPossible_16 : decode cL_isPossible 16 = .ok (.sipush (-1001), 3) := by decide +kernel
theorem dL_isPossible_19 : decode cL_isPossible 19 = .ok (.ireturn, 1) := by decide +kernel
theorem dL_waterFor_0 : decode cL_waterFor 0 = .ok (.aload_n 0, 1) := by decide +kernel
theorem dL_waterFor_1 : decode cL_waterFor 1 = .ok (.iload_n 1, 1) := by decide +kernel
theorem dL_waterFor_2 : decode cL_waterFor 2 = .ok (.iload_n 2, 1) := by decide +kernel
theorem dL_waterFor_3 : decode cL_waterFor 3 = .ok (.invokevirtual 108, 3) := by decide +kernel
theorem dL_waterFor_6 : decode cL_waterFor 6 = .ok (.ireturn, 1) := by decide +kernel
theorem dL_waterFor_7 : decode cL_waterFor 7 = .ok (.astore_n 3, 1) := by decide +kernel
theorem dL_waterFor_8 : decode cL_waterFor 8 = .ok (.sipush (-1001), 3) := by decide +kernel
theorem dL_waterFor_11 : decode cL_waterFor 11 = .ok (.ireturn, 1) := by decide +kernel
theorem dL_waterFor_12 : decode cL_waterFor 12 = .ok (.astore_n 3, 1) := by decide +kernel
theorem dL_waterFor_13 : decode cL_waterFor 13 = .ok (.sipush (-1002), 3) := by decide +kernel
theorem dL_waterFor_16 : decode cL_waterFor 16 = .ok (.ireturn, 1) := by decide +kernel
theorem dL_refusalReason_0 : decode cL_refusalReason 0 = .ok (.aload_n 0, 1) := by decide +kernel
theorem dL_refusalReason_1 : decode cL_refusalReason 1 = .ok (.invokevirtual 111, 3) := by decide +kernel
theorem dL_refusalReason_4 : decode cL_refusalReason 4 = .ok (.ireturn, 1) := by decide +kernel
theorem dL_refusalReason_5 : decode cL_refusalReason 5 = .ok (.astore_n 1, 1) := by decide +kernel
theorem dL_refusalReason_6 : decode cL_refusalReason 6 = .ok (.sipush (-1001), 3) := by decide +kernel
theorem dL_refusalReason_9 : decode cL_refusalReason 9 = .ok (.ireturn, 1) := by decide +kernel
theorem dL_refusalLock_0 : decode cL_refusalLock 0 = .ok (.aload_n 0, 1) := by decide +kernel
theorem dL_refusalLock_1 : decode cL_refusalLock 1 = .ok (.invokevirtual 115, 3) := by decide +kernel
theorem dL_refusalLock_4 : decode cL_refusalLock 4 = .ok (.ireturn, 1) := by decide +kernel
theorem dL_refusalLock_5 : decode cL_refusalLock 5 = .ok (.astore_n 1, 1) := by decide +kernel
theorem dL_refusalLock_6 : decode cL_refusalLock 6 = .ok (.sipush (-1001), 3) := by decide +kernel
theorem dL_refusalLock_9 : decode cL_refusalLock 9 = .ok (.ireturn, 1) := by decide +kernel
theorem dL_priceIn_0 : decode cL_priceIn 0 = .ok (.aload_n 0, 1) := by decide +kernel
theorem dL_priceIn_1 : decode cL_priceIn 1 = .ok (.iload_n 1, 1) := by decide +kernel
theorem dL_priceIn_2 : decode cL_priceIn 2 = .ok (.invokevirtual 118, 3) := by decide +kernel
theorem dL_priceIn_5 : decode cL_priceIn 5 = .ok (.ireturn, 1) := by decide +kernel
theorem dL_priceIn_6 : decode cL_priceIn 6 = .ok (.astore_n 2, 1) := by decide +kernel
theorem dL_priceIn_7 : decode cL_priceIn 7 = .ok (.sipush (-1001), 3) := by decide +kernel
theorem dL_priceIn_10 : decode cL_priceIn 10 = .ok (.ireturn, 1) := by decide +kernel
theorem dL_buy_0 : decode cL_buy 0 = .ok (.aload_n 0, 1) := by decide +kernel
theorem dL_buy_1 : decode cL_buy 1 = .ok (.iload_n 1, 1) := by decide +kernel
theorem dL_buy_2 : decode cL_buy 2 = .ok (.iload_n 2, 1) := by decide +kernel
theorem dL_buy_3 : decode cL_buy 3 = .ok (.invokevirtual 121, 3) := by decide +kernel
theorem dL_buy_6 : decode cL_buy 6 = .ok (.lreturn, 1) := by decide +kernel
theorem dL_buy_7 : decode cL_buy 7 = .ok (.astore_n 3, 1) := by decide +kernel
theorem dL_buy_8 : decode cL_buy 8 = .ok (.ldc2_w 125, 3) := by decide +kernel
theorem dL_buy_11 : decode cL_buy 11 = .ok (.lreturn, 1) := by decide +kernel
theorem dL_buy_12 : decode cL_buy 12 = .ok (.astore_n 3, 1) := by decide +kernel
theorem dL_buy_13 : decode cL_buy 13 = .ok (.ldc2_w 127, 3) := by decide +kernel
theorem dL_buy_16 : decode cL_buy 16 = .ok (.lreturn, 1) := by decide +kernel
theorem dL_buy_17 : decode cL_buy 17 = .ok (.astore_n 3, 1) := by decide +kernel
theorem dL_buy_18 : decode cL_buy 18 = .ok (.ldc2_w 129, 3) := by decide +kernel
theorem dL_buy_21 : decode cL_buy 21 = .ok (.lreturn, 1) := by decide +kernel
theorem dL_buy_22 : decode cL_buy 22 = .ok (.astore_n 3, 1) := by decide +kernel
theorem dL_buy_23 : decode cL_buy 23 = .ok (.ldc2_w 131, 3) := by decide +kernel
theorem dL_buy_26 : decode cL_buy 26 = .ok (.lreturn, 1) := by decide +kernel
theorem dL_sell_0 : decode cL_sell 0 = .ok (.aload_n 0, 1) := by decide +kernel
theorem dL_sell_1 : decode cL_sell 1 = .ok (.iload_n 1, 1) := by decide +kernel
theorem dL_sell_2 : decode cL_sell 2 = .ok (.iload_n 2, 1) := by decide +kernel
theorem dL_sell_3 : decode cL_sell 3 = .ok (.invokevirtual 133, 3) := by decide +kernel
theorem dL_sell_6 : decode cL_sell 6 = .ok (.lreturn, 1) := by decide +kernel
theorem dL_sell_7 : decode cL_sell 7 = .ok (.astore_n 3, 1) := by decide +kernel
theorem dL_sell_8 : decode cL_sell 8 = .ok (.ldc2_w 125, 3) := by decide +kernel
theorem dL_sell_11 : decode cL_sell 11 = .ok (.lreturn, 1) := by decide +kernel
theorem dL_sell_12 : decode cL_sell 12 = .ok (.astore_n 3, 1) := by decide +kernel
theorem dL_sell_13 : decode cL_sell 13 = .ok (.ldc2_w 127, 3) := by decide +kernel
theorem dL_sell_16 : decode cL_sell 16 = .ok (.lreturn, 1) := by decide +kernel
theorem dL_sell_17 : decode cL_sell 17 = .ok (.astore_n 3, 1) := by decide +kernel
theorem dL_sell_18 : decode cL_sell 18 = .ok (.ldc2_w 129, 3) := by decide +kernel
theorem dL_sell_21 : decode cL_sell 21 = .ok (.lreturn, 1) := by decide +kernel
theorem dL_sellToDraught_0 : decode cL_sellToDraught 0 = .ok (.aload_n 0, 1) := by decide +kernel
theorem dL_sellToDraught_1 : decode cL_sellToDraught 1 = .ok (.iload_n 1, 1) := by decide +kernel
theorem dL_sellToDraught_2 : decode cL_sellToDraught 2 = .ok (.iload_n 2, 1) := by decide +kernel
theorem dL_sellToDraught_3 : decode cL_sellToDraught 3 = .ok (.invokevirtual 136, 3) := by decide +kernel
theorem dL_sellToDraught_6 : decode cL_sellToDraught 6 = .ok (.ireturn, 1) := by decide +kernel
theorem dL_sellToDraught_7 : decode cL_sellToDraught 7 = .ok (.astore_n 3, 1) := by decide +kernel
theorem dL_sellToDraught_8 : decode cL_sellToDraught 8 = .ok (.sipush (-1001), 3) := by decide +kernel
theorem dL_sellToDraught_11 : decode cL_sellToDraught 11 = .ok (.ireturn, 1) := by decide +kernel
theorem dL_sellToDraught_12 : decode cL_sellToDraught 12 = .ok (.astore_n 3, 1) := by decide +kernel
theorem dL_sellToDraught_13 : decode cL_sellToDraught 13 = .ok (.sipush (-1002), 3) := by decide +kernel
theorem dL_sellToDraught_16 : decode cL_sellToDraught 16 = .ok (.ireturn, 1) := by decide +kernel
theorem dL_sellToDraught_17 : decode cL_sellToDraught 17 = .ok (.astore_n 3, 1) := by decide +kernel
theorem dL_sellToDraught_18 : decode cL_sellToDraught 18 = .ok (.sipush (-1003), 3) := by decide +kernel
theorem dL_sellToDraught_21 : decode cL_sellToDraught 21 = .ok (.ireturn, 1) := by decide +kernel
theorem dL_greatestLoad_0 : decode cL_greatestLoad 0 = .ok (.aload_n 0, 1) := by decide +kernel
theorem dL_greatestLoad_1 : decode cL_greatestLoad 1 = .ok (.iload_n 1, 1) := by decide +kernel
theorem dL_greatestLoad_2 : decode cL_greatestLoad 2 = .ok (.invokevirtual 139, 3) := by decide +kernel
theorem dL_greatestLoad_5 : decode cL_greatestLoad 5 = .ok (.ireturn, 1) := by decide +kernel
theorem dL_greatestLoad_6 : decode cL_greatestLoad 6 = .ok (.astore_n 2, 1) := by decide +kernel
theorem dL_greatestLoad_7 : decode cL_greatestLoad 7 = .ok (.sipush (-1001), 3) := by decide +kernel
theorem dL_greatestLoad_10 : decode cL_greatestLoad 10 = .ok (.ireturn, 1) := by decide +kernel
theorem dL_worthIn_0 : decode cL_worthIn 0 = .ok (.aload_n 0, 1) := by decide +kernel
theorem dL_worthIn_1 : decode cL_worthIn 1 = .ok (.iload_n 1, 1) := by decide +kernel
theorem dL_worthIn_2 : decode cL_worthIn 2 = .ok (.iload_n 2, 1) := by decide +kernel
theorem dL_worthIn_3 : decode cL_worthIn 3 = .ok (.invokevirtual 142, 3) := by decide +kernel
theorem dL_worthIn_6 : decode cL_worthIn 6 = .ok (.ireturn, 1) := by decide +kernel
theorem dL_worthIn_7 : decode cL_worthIn 7 = .ok (.astore_n 3, 1) := by decide +kernel
theorem dL_worthIn_8 : decode cL_worthIn 8 = .ok (.sipush (-1001), 3) := by decide +kernel
theorem dL_worthIn_11 : decode cL_worthIn 11 = .ok (.ireturn, 1) := by decide +kernel
theorem dL_bestReach_0 : decode cL_bestReach 0 = .ok (.aload_n 0, 1) := by decide +kernel
theorem dL_bestReach_1 : decode cL_bestReach 1 = .ok (.iload_n 1, 1) := by decide +kernel
theorem dL_bestReach_2 : decode cL_bestReach 2 = .ok (.invokevirtual 145, 3) := by decide +kernel
theorem dL_bestReach_5 : decode cL_bestReach 5 = .ok (.ireturn, 1) := by decide +kernel
theorem dL_bestReach_6 : decode cL_bestReach 6 = .ok (.astore_n 2, 1) := by decide +kernel
theorem dL_bestReach_7 : decode cL_bestReach 7 = .ok (.sipush (-1001), 3) := by decide +kernel
theorem dL_bestReach_10 : decode cL_bestReach 10 = .ok (.ireturn, 1) := by decide +kernel
theorem dL_movementFrom_0 : decode cL_movementFrom 0 = .ok (.aload_n 0, 1) := by decide +kernel
theorem dL_movementFrom_1 : decode cL_movementFrom 1 = .ok (.iload_n 1, 1) := by decide +kernel
theorem dL_movementFrom_2 : decode cL_movementFrom 2 = .ok (.invokevirtual 148, 3) := by decide +kernel
theorem dL_movementFrom_5 : decode cL_movementFrom 5 = .ok (.ireturn, 1) := by decide +kernel
theorem dL_movementFrom_6 : decode cL_movementFrom 6 = .ok (.astore_n 2, 1) := by decide +kernel
theorem dL_movementFrom_7 : decode cL_movementFrom 7 = .ok (.sipush (-1001), 3) := by decide +kernel
theorem dL_movementFrom_10 : decode cL_movementFrom 10 = .ok (.ireturn, 1) := by decide +kernel
theorem dL_movementTo_0 : decode cL_movementTo 0 = .ok (.aload_n 0, 1) := by decide +kernel
theorem dL_movementTo_1 : decode cL_movementTo 1 = .ok (.iload_n 1, 1) := by decide +kernel
theorem dL_movementTo_2 : decode cL_movementTo 2 = .ok (.invokevirtual 151, 3) := by decide +kernel
theorem dL_movementTo_5 : decode cL_movementTo 5 = .ok (.ireturn, 1) := by decide +kernel
theorem dL_movementTo_6 : decode cL_movementTo 6 = .ok (.astore_n 2, 1) := by decide +kernel
theorem dL_movementTo_7 : decode cL_movementTo 7 = .ok (.sipush (-1001), 3) := by decide +kernel
theorem dL_movementTo_10 : decode cL_movementTo 10 = .ok (.ireturn, 1) := by decide +kernel
theorem dL_movementVolume_0 : decode cL_movementVolume 0 = .ok (.aload_n 0, 1) := by decide +kernel
theorem dL_movementVolume_1 : decode cL_movementVolume 1 = .ok (.iload_n 1, 1) := by decide +kernel
theorem dL_movementVolume_2 : decode cL_movementVolume 2 = .ok (.invokevirtual 154, 3) := by decide +kernel
theorem dL_movementVolume_5 : decode cL_movementVolume 5 = .ok (.ireturn, 1) := by decide +kernel
theorem dL_movementVolume_6 : decode cL_movementVolume 6 = .ok (.astore_n 2, 1) := by decide +kernel
theorem dL_movementVolume_7 : decode cL_movementVolume 7 = .ok (.sipush (-1001), 3) := by decide +kernel
theorem dL_movementVolume_10 : decode cL_movementVolume 10 = .ok (.ireturn, 1) := by decide +kernel
theorem dL_state_0 : decode cL_state 0 = .ok (.bipush 24, 2) := by decide +kernel
theorem dL_state_2 : decode cL_state 2 = .ok (.newarray .int, 2) := by decide +kernel
theorem dL_state_4 : decode cL_state 4 = .ok (.astore_n 1, 1) := by decide +kernel
theorem dL_state_5 : decode cL_state 5 = .ok (.iconst 0, 1) := by decide +kernel
theorem dL_state_6 : decode cL_state 6 = .ok (.istore_n 2, 1) := by decide +kernel
theorem dL_state_7 : decode cL_state 7 = .ok (.iload_n 2, 1) := by decide +kernel
theorem dL_state_8 : decode cL_state 8 = .ok (.aload_n 0, 1) := by decide +kernel
theorem dL_state_9 : decode cL_state 9 = .ok (.invokevirtual 157, 3) := by decide +kernel
theorem dL_state_12 : decode cL_state 12 = .ok (.if_icmp .ge 17, 3) := by decide +kernel
theorem dL_state_15 : decode cL_state 15 = .ok (.aload_n 1, 1) := by decide +kernel
theorem dL_state_16 : decode cL_state 16 = .ok (.iload_n 2, 1) := by decide +kernel
theorem dL_state_17 : decode cL_state 17 = .ok (.aload_n 0, 1) := by decide +kernel
theorem dL_state_18 : decode cL_state 18 = .ok (.iload_n 2, 1) := by decide +kernel
theorem dL_state_19 : decode cL_state 19 = .ok (.invokestatic 160, 3) := by decide +kernel
theorem dL_state_22 : decode cL_state 22 = .ok (.iastore, 1) := by decide +kernel
theorem dL_state_23 : decode cL_state 23 = .ok (.iinc 2 1, 3) := by decide +kernel
theorem dL_state_26 : decode cL_state 26 = .ok (.goto (-19), 3) := by decide +kernel
theorem dL_state_29 : decode cL_state 29 = .ok (.iconst 0, 1) := by decide +kernel
theorem dL_state_30 : decode cL_state 30 = .ok (.istore_n 2, 1) := by decide +kernel
theorem dL_state_31 : decode cL_state 31 = .ok (.iload_n 2, 1) := by decide +kernel
theorem dL_state_32 : decode cL_state 32 = .ok (.aload_n 0, 1) := by decide +kernel
theorem dL_state_33 : decode cL_state 33 = .ok (.invokevirtual 157, 3) := by decide +kernel
theorem dL_state_36 : decode cL_state 36 = .ok (.iconst 1, 1) := by decide +kernel
theorem dL_state_37 : decode cL_state 37 = .ok (.isub, 1) := by decide +kernel
theorem dL_state_38 : decode cL_state 38 = .ok (.if_icmp .ge 28, 3) := by decide +kernel
theorem dL_state_41 : decode cL_state 41 = .ok (.aload_n 1, 1) := by decide +kernel
theorem dL_state_42 : decode cL_state 42 = .ok (.bipush 6, 2) := by decide +kernel
theorem dL_state_44 : decode cL_state 44 = .ok (.iload_n 2, 1) := by decide +kernel
theorem dL_state_45 : decode cL_state 45 = .ok (.iadd, 1) := by decide +kernel
theorem dL_state_46 : decode cL_state 46 = .ok (.aload_n 0, 1) := by decide +kernel
theorem dL_state_47 : decode cL_state 47 = .ok (.iload_n 2, 1) := by decide +kernel
theorem dL_state_48 : decode cL_state 48 = .ok (.invokestatic 163, 3) := by decide +kernel
theorem dL_state_51 : decode cL_state 51 = .ok (.iconst 2, 1) := by decide +kernel
theorem dL_state_52 : decode cL_state 52 = .ok (.aload_n 0, 1) := by decide +kernel
theorem dL_state_53 : decode cL_state 53 = .ok (.iload_n 2, 1) := by decide +kernel
theorem dL_state_54 : decode cL_state 54 = .ok (.invokestatic 165, 3) := by decide +kernel
theorem dL_state_57 : decode cL_state 57 = .ok (.imul, 1) := by decide +kernel
theorem dL_state_58 : decode cL_state 58 = .ok (.iadd, 1) := by decide +kernel
theorem dL_state_59 : decode cL_state 59 = .ok (.iastore, 1) := by decide +kernel
theorem dL_state_60 : decode cL_state 60 = .ok (.iinc 2 1, 3) := by decide +kernel
theorem dL_state_63 : decode cL_state 63 = .ok (.goto (-32), 3) := by decide +kernel
theorem dL_state_66 : decode cL_state 66 = .ok (.iconst 0, 1) := by decide +kernel
theorem dL_state_67 : decode cL_state 67 = .ok (.istore_n 2, 1) := by decide +kernel
theorem dL_state_68 : decode cL_state 68 = .ok (.iload_n 2, 1) := by decide +kernel
theorem dL_state_69 : decode cL_state 69 = .ok (.aload_n 0, 1) := by decide +kernel
theorem dL_state_70 : decode cL_state 70 = .ok (.invokevirtual 167, 3) := by decide +kernel
theorem dL_state_73 : decode cL_state 73 = .ok (.if_icmp .ge 20, 3) := by decide +kernel
theorem dL_state_76 : decode cL_state 76 = .ok (.aload_n 1, 1) := by decide +kernel
theorem dL_state_77 : decode cL_state 77 = .ok (.bipush 11, 2) := by decide +kernel
theorem dL_state_79 : decode cL_state 79 = .ok (.iload_n 2, 1) := by decide +kernel
theorem dL_state_80 : decode cL_state 80 = .ok (.iadd, 1) := by decide +kernel
theorem dL_state_81 : decode cL_state 81 = .ok (.aload_n 0, 1) := by decide +kernel
theorem dL_state_82 : decode cL_state 82 = .ok (.iload_n 2, 1) := by decide +kernel
theorem dL_state_83 : decode cL_state 83 = .ok (.invokestatic 170, 3) := by decide +kernel
theorem dL_state_86 : decode cL_state 86 = .ok (.iastore, 1) := by decide +kernel
theorem dL_state_87 : decode cL_state 87 = .ok (.iinc 2 1, 3) := by decide +kernel
theorem dL_state_90 : decode cL_state 90 = .ok (.goto (-22), 3) := by decide +kernel
theorem dL_state_93 : decode cL_state 93 = .ok (.aload_n 1, 1) := by decide +kernel
theorem dL_state_94 : decode cL_state 94 = .ok (.bipush 19, 2) := by decide +kernel
theorem dL_state_96 : decode cL_state 96 = .ok (.aload_n 0, 1) := by decide +kernel
theorem dL_state_97 : decode cL_state 97 = .ok (.invokevirtual 172, 3) := by decide +kernel
theorem dL_state_100 : decode cL_state 100 = .ok (.iastore, 1) := by decide +kernel
theorem dL_state_101 : decode cL_state 101 = .ok (.aload_n 1, 1) := by decide +kernel
theorem dL_state_102 : decode cL_state 102 = .ok (.bipush 20, 2) := by decide +kernel
theorem dL_state_104 : decode cL_state 104 = .ok (.aload_n 0, 1) := by decide +kernel
theorem dL_state_105 : decode cL_state 105 = .ok (.invokevirtual 175, 3) := by decide +kernel
theorem dL_state_108 : decode cL_state 108 = .ok (.iastore, 1) := by decide +kernel
theorem dL_state_109 : decode cL_state 109 = .ok (.aload_n 1, 1) := by decide +kernel
theorem dL_state_110 : decode cL_state 110 = .ok (.areturn, 1) := by decide +kernel
theorem dL_same_0 : decode cL_same 0 = .ok (.iconst 1, 1) := by decide +kernel
theorem dL_same_1 : decode cL_same 1 = .ok (.istore_n 2, 1) := by decide +kernel
theorem dL_same_2 : decode cL_same 2 = .ok (.iconst 0, 1) := by decide +kernel
theorem dL_same_3 : decode cL_same 3 = .ok (.istore_n 3, 1) := by decide +kernel
theorem dL_same_4 : decode cL_same 4 = .ok (.iload_n 3, 1) := by decide +kernel
theorem dL_same_5 : decode cL_same 5 = .ok (.aload_n 0, 1) := by decide +kernel
theorem dL_same_6 : decode cL_same 6 = .ok (.arraylength, 1) := by decide +kernel
theorem dL_same_7 : decode cL_same 7 = .ok (.if_icmp .ge 26, 3) := by decide +kernel
theorem dL_same_10 : decode cL_same 10 = .ok (.iload_n 2, 1) := by decide +kernel
theorem dL_same_11 : decode cL_same 11 = .ok (.aload_n 0, 1) := by decide +kernel
theorem dL_same_12 : decode cL_same 12 = .ok (.iload_n 3, 1) := by decide +kernel
theorem dL_same_13 : decode cL_same 13 = .ok (.iaload, 1) := by decide +kernel
theorem dL_same_14 : decode cL_same 14 = .ok (.aload_n 1, 1) := by decide +kernel
theorem dL_same_15 : decode cL_same 15 = .ok (.iload_n 3, 1) := by decide +kernel
theorem dL_same_16 : decode cL_same 16 = .ok (.iaload, 1) := by decide +kernel
theorem dL_same_17 : decode cL_same 17 = .ok (.if_icmp .ne 7, 3) := by decide +kernel
theorem dL_same_20 : decode cL_same 20 = .ok (.iconst 1, 1) := by decide +kernel
theorem dL_same_21 : decode cL_same 21 = .ok (.goto 4, 3) := by decide +kernel
theorem dL_same_24 : decode cL_same 24 = .ok (.iconst 0, 1) := by decide +kernel
theorem dL_same_25 : decode cL_same 25 = .ok (.iand, 1) := by decide +kernel
theorem dL_same_26 : decode cL_same 26 = .ok (.istore_n 2, 1) := by decide +kernel
theorem dL_same_27 : decode cL_same 27 = .ok (.iinc 3 1, 3) := by decide +kernel
theorem dL_same_30 : decode cL_same 30 = .ok (.goto (-26), 3) := by decide +kernel
theorem dL_same_33 : decode cL_same 33 = .ok (.iload_n 2, 1) := by decide +kernel
theorem dL_same_34 : decode cL_same 34 = .ok (.ireturn, 1) := by decide +kernel
theorem dL_water_0 : decode cL_water 0 = .ok (.iconst 0, 1) := by decide +kernel
theorem dL_water_1 : decode cL_water 1 = .ok (.istore_n 1, 1) := by decide +kernel
theorem dL_water_2 : decode cL_water 2 = .ok (.iconst 0, 1) := by decide +kernel
theorem dL_water_3 : decode cL_water 3 = .ok (.istore_n 2, 1) := by decide +kernel
theorem dL_water_4 : decode cL_water 4 = .ok (.iconst 0, 1) := by decide +kernel
theorem dL_water_5 : decode cL_water 5 = .ok (.istore_n 3, 1) := by decide +kernel
theorem dL_water_6 : decode cL_water 6 = .ok (.iload_n 3, 1) := by decide +kernel
theorem dL_water_7 : decode cL_water 7 = .ok (.aload_n 0, 1) := by decide +kernel
theorem dL_water_8 : decode cL_water 8 = .ok (.invokevirtual 157, 3) := by decide +kernel
theorem dL_water_11 : decode cL_water 11 = .ok (.if_icmp .ge 102, 3) := by decide +kernel
theorem dL_water_14 : decode cL_water 14 = .ok (.aload_n 0, 1) := by decide +kernel
theorem dL_water_15 : decode cL_water 15 = .ok (.iload_n 3, 1) := by decide +kernel
theorem dL_water_16 : decode cL_water 16 = .ok (.invokestatic 160, 3) := by decide +kernel
theorem dL_water_19 : decode cL_water 19 = .ok (.istore 4, 2) := by decide +kernel
theorem dL_water_21 : decode cL_water 21 = .ok (.iload 4, 2) := by decide +kernel
theorem dL_water_23 : decode cL_water 23 = .ok (.ifCond .lt 42, 3) := by decide +kernel
theorem dL_water_26 : decode cL_water 26 = .ok (.iload 4, 2) := by decide +kernel
theorem dL_water_28 : decode cL_water 28 = .ok (.bipush 60, 2) := by decide +kernel
theorem dL_water_30 : decode cL_water 30 = .ok (.aload_n 0, 1) := by decide +kernel
theorem dL_water_31 : decode cL_water 31 = .ok (.iload_n 3, 1) := by decide +kernel
theorem dL_water_32 : decode cL_water 32 = .ok (.invokestatic 178, 3) := by decide +kernel
theorem dL_water_35 : decode cL_water 35 = .ok (.imul, 1) := by decide +kernel
theorem dL_water_36 : decode cL_water 36 = .ok (.if_icmp .gt 29, 3) := by decide +kernel
theorem dL_water_39 : decode cL_water 39 = .ok (.iload 4, 2) := by decide +kernel
theorem dL_water_41 : decode cL_water 41 = .ok (.aload_n 0, 1) := by decide +kernel
theorem dL_water_42 : decode cL_water 42 = .ok (.iload_n 3, 1) := by decide +kernel
theorem dL_water_43 : decode cL_water 43 = .ok (.invokestatic 180, 3) := by decide +kernel
theorem dL_water_46 : decode cL_water 46 = .ok (.if_icmp .ne 19, 3) := by decide +kernel
theorem dL_water_49 : decode cL_water 49 = .ok (.aload_n 0, 1) := by decide +kernel
theorem dL_water_50 : decode cL_water 50 = .ok (.iload_n 3, 1) := by decide +kernel
theorem dL_water_51 : decode cL_water 51 = .ok (.invokestatic 182, 3) := by decide +kernel
theorem dL_water_54 : decode cL_water 54 = .ok (.iload 4, 2) := by decide +kernel
theorem dL_water_56 : decode cL_water 56 = .ok (.aload_n 0, 1) := by decide +kernel
theorem dL_water_57 : decode cL_water 57 = .ok (.iload_n 3, 1) := by decide +kernel
theorem dL_water_58 : decode cL_water 58 = .ok (.invokestatic 178, 3) := by decide +kernel
theorem dL_water_61 : decode cL_water 61 = .ok (.idiv, 1) := by decide +kernel
theorem dL_water_62 : decode cL_water 62 = .ok (.if_icmp .eq 5, 3) := by decide +kernel
theorem dL_water_65 : decode cL_water 65 = .ok (.iconst 0, 1) := by decide +kernel
theorem dL_water_66 : decode cL_water 66 = .ok (.ireturn, 1) := by decide +kernel
theorem dL_water_67 : decode cL_water 67 = .ok (.iload_n 1, 1) := by decide +kernel
theorem dL_water_68 : decode cL_water 68 = .ok (.iload 4, 2) := by decide +kernel
theorem dL_water_70 : decode cL_water 70 = .ok (.iadd, 1) := by decide +kernel
theorem dL_water_71 : decode cL_water 71 = .ok (.istore_n 1, 1) := by decide +kernel
theorem dL_water_72 : decode cL_water 72 = .ok (.iload_n 2, 1) := by decide +kernel
theorem dL_water_73 : decode cL_water 73 = .ok (.aload_n 0, 1) := by decide +kernel
theorem dL_water_74 : decode cL_water 74 = .ok (.iload_n 3, 1) := by decide +kernel
theorem dL_water_75 : decode cL_water 75 = .ok (.invokestatic 182, 3) := by decide +kernel
theorem dL_water_78 : decode cL_water 78 = .ok (.iadd, 1) := by decide +kernel
theorem dL_water_79 : decode cL_water 79 = .ok (.istore_n 2, 1) := by decide +kernel
theorem dL_water_80 : decode cL_water 80 = .ok (.iload_n 3, 1) := by decide +kernel
theorem dL_water_81 : decode cL_water 81 = .ok (.iconst 1, 1) := by decide +kernel
theorem dL_water_82 : decode cL_water 82 = .ok (.iadd, 1) := by decide +kernel
theorem dL_water_83 : decode cL_water 83 = .ok (.aload_n 0, 1) := by decide +kernel
theorem dL_water_84 : decode cL_water 84 = .ok (.invokevirtual 157, 3) := by decide +kernel
theorem dL_water_87 : decode cL_water 87 = .ok (.if_icmp .ge 20, 3) := by decide +kernel
theorem dL_water_90 : decode cL_water 90 = .ok (.aload_n 0, 1) := by decide +kernel
theorem dL_water_91 : decode cL_water 91 = .ok (.iload_n 3, 1) := by decide +kernel
theorem dL_water_92 : decode cL_water 92 = .ok (.invokestatic 163, 3) := by decide +kernel
theorem dL_water_95 : decode cL_water 95 = .ok (.iconst 1, 1) := by decide +kernel
theorem dL_water_96 : decode cL_water 96 = .ok (.if_icmp .ne 11, 3) := by decide +kernel
theorem dL_water_99 : decode cL_water 99 = .ok (.iload_n 1, 1) := by decide +kernel
theorem dL_water_100 : decode cL_water 100 = .ok (.aload_n 0, 1) := by decide +kernel
theorem dL_water_101 : decode cL_water 101 = .ok (.iload_n 3, 1) := by decide +kernel
theorem dL_water_102 : decode cL_water 102 = .ok (.invokestatic 184, 3) := by decide +kernel
theorem dL_water_105 : decode cL_water 105 = .ok (.iadd, 1) := by decide +kernel
theorem dL_water_106 : decode cL_water 106 = .ok (.istore_n 1, 1) := by decide +kernel
theorem dL_water_107 : decode cL_water 107 = .ok (.iinc 3 1, 3) := by decide +kernel
theorem dL_water_110 : decode cL_water 110 = .ok (.goto (-104), 3) := by decide +kernel
theorem dL_water_113 : decode cL_water 113 = .ok (.iconst 0, 1) := by decide +kernel
theorem dL_water_114 : decode cL_water 114 = .ok (.istore_n 3, 1) := by decide +kernel
theorem dL_water_115 : decode cL_water 115 = .ok (.iconst 0, 1) := by decide +kernel
theorem dL_water_116 : decode cL_water 116 = .ok (.istore 4, 2) := by decide +kernel
theorem dL_water_118 : decode cL_water 118 = .ok (.iconst 0, 1) := by decide +kernel
theorem dL_water_119 : decode cL_water 119 = .ok (.istore 5, 2) := by decide +kernel
theorem dL_water_121 : decode cL_water 121 = .ok (.iconst 0, 1) := by decide +kernel
theorem dL_water_122 : decode cL_water 122 = .ok (.istore 6, 2) := by decide +kernel
theorem dL_water_124 : decode cL_water 124 = .ok (.iload 6, 2) := by decide +kernel
theorem dL_water_126 : decode cL_water 126 = .ok (.aload_n 0, 1) := by decide +kernel
theorem dL_water_127 : decode cL_water 127 = .ok (.invokevirtual 172, 3) := by decide +kernel
theorem dL_water_130 : decode cL_water 130 = .ok (.if_icmp .ge 88, 3) := by decide +kernel
theorem dL_water_133 : decode cL_water 133 = .ok (.aload_n 0, 1) := by decide +kernel
theorem dL_water_134 : decode cL_water 134 = .ok (.iload 6, 2) := by decide +kernel
theorem dL_water_136 : decode cL_water 136 = .ok (.invokestatic 186, 3) := by decide +kernel
theorem dL_water_139 : decode cL_water 139 = .ok (.istore 7, 2) := by decide +kernel
theorem dL_water_141 : decode cL_water 141 = .ok (.iload 7, 2) := by decide +kernel
theorem dL_water_143 : decode cL_water 143 = .ok (.iconst 1, 1) := by decide +kernel
theorem dL_water_144 : decode cL_water 144 = .ok (.if_icmp .ge 5, 3) := by decide +kernel
theorem dL_water_147 : decode cL_water 147 = .ok (.iconst 0, 1) := by decide +kernel
theorem dL_water_148 : decode cL_water 148 = .ok (.ireturn, 1) := by decide +kernel
theorem dL_water_149 : decode cL_water 149 = .ok (.iload_n 3, 1) := by decide +kernel
theorem dL_water_150 : decode cL_water 150 = .ok (.aload_n 0, 1) := by decide +kernel
theorem dL_water_151 : decode cL_water 151 = .ok (.iload 6, 2) := by decide +kernel
theorem dL_water_153 : decode cL_water 153 = .ok (.invokestatic 188, 3) := by decide +kernel
theorem dL_water_156 : decode cL_water 156 = .ok (.iconst (-1), 1) := by decide +kernel
theorem dL_water_157 : decode cL_water 157 = .ok (.if_icmp .ne 8, 3) := by decide +kernel
theorem dL_water_160 : decode cL_water 160 = .ok (.iload 7, 2) := by decide +kernel
theorem dL_water_162 : decode cL_water 162 = .ok (.goto 4, 3) := by decide +kernel
theorem dL_water_165 : decode cL_water 165 = .ok (.iconst 0, 1) := by decide +kernel
theorem dL_water_166 : decode cL_water 166 = .ok (.iadd, 1) := by decide +kernel
theorem dL_water_167 : decode cL_water 167 = .ok (.istore_n 3, 1) := by decide +kernel
theorem dL_water_168 : decode cL_water 168 = .ok (.iload 4, 2) := by decide +kernel
theorem dL_water_170 : decode cL_water 170 = .ok (.aload_n 0, 1) := by decide +kernel
theorem dL_water_171 : decode cL_water 171 = .ok (.iload 6, 2) := by decide +kernel
theorem dL_water_173 : decode cL_water 173 = .ok (.invokestatic 190, 3) := by decide +kernel
theorem dL_water_176 : decode cL_water 176 = .ok (.bipush (-2), 2) := by decide +kernel
theorem dL_water_178 : decode cL_water 178 = .ok (.if_icmp .ne 8, 3) := by decide +kernel
theorem dL_water_181 : decode cL_water 181 = .ok (.iload 7, 2) := by decide +kernel
theorem dL_water_183 : decode cL_water 183 = .ok (.goto 4, 3) := by decide +kernel
theorem dL_water_186 : decode cL_water 186 = .ok (.iconst 0, 1) := by decide +kernel
theorem dL_water_187 : decode cL_water 187 = .ok (.iadd, 1) := by decide +kernel
theorem dL_water_188 : decode cL_water 188 = .ok (.istore 4, 2) := by decide +kernel
theorem dL_water_190 : decode cL_water 190 = .ok (.iload 5, 2) := by decide +kernel
theorem dL_water_192 : decode cL_water 192 = .ok (.aload_n 0, 1) := by decide +kernel
theorem dL_water_193 : decode cL_water 193 = .ok (.iload 6, 2) := by decide +kernel
theorem dL_water_195 : decode cL_water 195 = .ok (.invokestatic 190, 3) := by decide +kernel
theorem dL_water_198 : decode cL_water 198 = .ok (.bipush (-3), 2) := by decide +kernel
theorem dL_water_200 : decode cL_water 200 = .ok (.if_icmp .ne 8, 3) := by decide +kernel
theorem dL_water_203 : decode cL_water 203 = .ok (.iload 7, 2) := by decide +kernel
theorem dL_water_205 : decode cL_water 205 = .ok (.goto 4, 3) := by decide +kernel
theorem dL_water_208 : decode cL_water 208 = .ok (.iconst 0, 1) := by decide +kernel
theorem dL_water_209 : decode cL_water 209 = .ok (.iadd, 1) := by decide +kernel
theorem dL_water_210 : decode cL_water 210 = .ok (.istore 5, 2) := by decide +kernel
theorem dL_water_212 : decode cL_water 212 = .ok (.iinc 6 1, 3) := by decide +kernel
theorem dL_water_215 : decode cL_water 215 = .ok (.goto (-91), 3) := by decide +kernel
theorem dL_water_218 : decode cL_water 218 = .ok (.iload_n 1, 1) := by decide +kernel
theorem dL_water_219 : decode cL_water 219 = .ok (.aload_n 0, 1) := by decide +kernel
theorem dL_water_220 : decode cL_water 220 = .ok (.invokevirtual 192, 3) := by decide +kernel
theorem dL_water_223 : decode cL_water 223 = .ok (.if_icmp .ne 67, 3) := by decide +kernel
theorem dL_water_226 : decode cL_water 226 = .ok (.iload_n 3, 1) := by decide +kernel
theorem dL_water_227 : decode cL_water 227 = .ok (.aload_n 0, 1) := by decide +kernel
theorem dL_water_228 : decode cL_water 228 = .ok (.invokevirtual 195, 3) := by decide +kernel
theorem dL_water_231 : decode cL_water 231 = .ok (.if_icmp .ne 59, 3) := by decide +kernel
theorem dL_water_234 : decode cL_water 234 = .ok (.iload 4, 2) := by decide +kernel
theorem dL_water_236 : decode cL_water 236 = .ok (.aload_n 0, 1) := by decide +kernel
theorem dL_water_237 : decode cL_water 237 = .ok (.invokevirtual 175, 3) := by decide +kernel
theorem dL_water_240 : decode cL_water 240 = .ok (.if_icmp .ne 50, 3) := by decide +kernel
theorem dL_water_243 : decode cL_water 243 = .ok (.iload 5, 2) := by decide +kernel
theorem dL_water_245 : decode cL_water 245 = .ok (.aload_n 0, 1) := by decide +kernel
theorem dL_water_246 : decode cL_water 246 = .ok (.invokevirtual 198, 3) := by decide +kernel
theorem dL_water_249 : decode cL_water 249 = .ok (.if_icmp .ne 41, 3) := by decide +kernel
theorem dL_water_252 : decode cL_water 252 = .ok (.iload_n 3, 1) := by decide +kernel
theorem dL_water_253 : decode cL_water 253 = .ok (.iload_n 1, 1) := by decide +kernel
theorem dL_water_254 : decode cL_water 254 = .ok (.iload 4, 2) := by decide +kernel
theorem dL_water_256 : decode cL_water 256 = .ok (.iadd, 1) := by decide +kernel
theorem dL_water_257 : decode cL_water 257 = .ok (.iload 5, 2) := by decide +kernel
theorem dL_water_259 : decode cL_water 259 = .ok (.iadd, 1) := by decide +kernel
theorem dL_water_260 : decode cL_water 260 = .ok (.if_icmp .ne 30, 3) := by decide +kernel
theorem dL_water_263 : decode cL_water 263 = .ok (.aload_n 0, 1) := by decide +kernel
theorem dL_water_264 : decode cL_water 264 = .ok (.invokevirtual 201, 3) := by decide +kernel
theorem dL_water_267 : decode cL_water 267 = .ok (.ifCond .eq 23, 3) := by decide +kernel
theorem dL_water_270 : decode cL_water 270 = .ok (.aload_n 0, 1) := by decide +kernel
theorem dL_water_271 : decode cL_water 271 = .ok (.invokevirtual 205, 3) := by decide +kernel
theorem dL_water_274 : decode cL_water 274 = .ok (.iload_n 2, 1) := by decide +kernel
theorem dL_water_275 : decode cL_water 275 = .ok (.i2d, 1) := by decide +kernel
theorem dL_water_276 : decode cL_water 276 = .ok (.aload_n 0, 1) := by decide +kernel
theorem dL_water_277 : decode cL_water 277 = .ok (.invokevirtual 157, 3) := by decide +kernel
theorem dL_water_280 : decode cL_water 280 = .ok (.i2d, 1) := by decide +kernel
theorem dL_water_281 : decode cL_water 281 = .ok (.ddiv, 1) := by decide +kernel
theorem dL_water_282 : decode cL_water 282 = .ok (.dcmp .l, 1) := by decide +kernel
theorem dL_water_283 : decode cL_water 283 = .ok (.ifCond .ne 7, 3) := by decide +kernel
theorem dL_water_286 : decode cL_water 286 = .ok (.iconst 1, 1) := by decide +kernel
theorem dL_water_287 : decode cL_water 287 = .ok (.goto 4, 3) := by decide +kernel
theorem dL_water_290 : decode cL_water 290 = .ok (.iconst 0, 1) := by decide +kernel
theorem dL_water_291 : decode cL_water 291 = .ok (.ireturn, 1) := by decide +kernel
theorem dL_convoys_0 : decode cL_convoys 0 = .ok (.iconst 0, 1) := by decide +kernel
theorem dL_convoys_1 : decode cL_convoys 1 = .ok (.istore_n 1, 1) := by decide +kernel
theorem dL_convoys_2 : decode cL_convoys 2 = .ok (.iload_n 1, 1) := by decide +kernel
theorem dL_convoys_3 : decode cL_convoys 3 = .ok (.aload_n 0, 1) := by decide +kernel
theorem dL_convoys_4 : decode cL_convoys 4 = .ok (.invokevirtual 167, 3) := by decide +kernel
theorem dL_convoys_7 : decode cL_convoys 7 = .ok (.if_icmp .ge 196, 3) := by decide +kernel
theorem dL_convoys_10 : decode cL_convoys 10 = .ok (.aload_n 0, 1) := by decide +kernel
theorem dL_convoys_11 : decode cL_convoys 11 = .ok (.iload_n 1, 1) := by decide +kernel
theorem dL_convoys_12 : decode cL_convoys 12 = .ok (.invokestatic 209, 3) := by decide +kernel
theorem dL_convoys_15 : decode cL_convoys 15 = .ok (.istore_n 2, 1) := by decide +kernel
theorem dL_convoys_16 : decode cL_convoys 16 = .ok (.iconst 0, 1) := by decide +kernel
theorem dL_convoys_17 : decode cL_convoys 17 = .ok (.istore_n 3, 1) := by decide +kernel
theorem dL_convoys_18 : decode cL_convoys 18 = .ok (.iconst 0, 1) := by decide +kernel
theorem dL_convoys_19 : decode cL_convoys 19 = .ok (.istore 4, 2) := by decide +kernel
theorem dL_convoys_21 : decode cL_convoys 21 = .ok (.iload 4, 2) := by decide +kernel
theorem dL_convoys_23 : decode cL_convoys 23 = .ok (.iload_n 2, 1) := by decide +kernel
theorem dL_convoys_24 : decode cL_convoys 24 = .ok (.if_icmp .ge 76, 3) := by decide +kernel
theorem dL_convoys_27 : decode cL_convoys 27 = .ok (.aload_n 0, 1) := by decide +kernel
theorem dL_convoys_28 : decode cL_convoys 28 = .ok (.iload_n 1, 1) := by decide +kernel
theorem dL_convoys_29 : decode cL_convoys 29 = .ok (.iload 4, 2) := by decide +kernel
theorem dL_convoys_31 : decode cL_convoys 31 = .ok (.invokestatic 211, 3) := by decide +kernel
theorem dL_convoys_34 : decode cL_convoys 34 = .ok (.istore 5, 2) := by decide +kernel
theorem dL_convoys_36 : decode cL_convoys 36 = .ok (.iload 5, 2) := by decide +kernel
theorem dL_convoys_38 : decode cL_convoys 38 = .ok (.ifCond .lt 40, 3) := by decide +kernel
theorem dL_convoys_41 : decode cL_convoys 41 = .ok (.aload_n 0, 1) := by decide +kernel
theorem dL_convoys_42 : decode cL_convoys 42 = .ok (.iload 5, 2) := by decide +kernel
theorem dL_convoys_44 : decode cL_convoys 44 = .ok (.invokestatic 209, 3) := by decide +kernel
theorem dL_convoys_47 : decode cL_convoys 47 = .ok (.iload_n 2, 1) := by decide +kernel
theorem dL_convoys_48 : decode cL_convoys 48 = .ok (.if_icmp .ne 30, 3) := by decide +kernel
theorem dL_convoys_51 : decode cL_convoys 51 = .ok (.aload_n 0, 1) := by decide +kernel
theorem dL_convoys_52 : decode cL_convoys 52 = .ok (.iload 5, 2) := by decide +kernel
theorem dL_convoys_54 : decode cL_convoys 54 = .ok (.iload 4, 2) := by decide +kernel
theorem dL_convoys_56 : decode cL_convoys 56 = .ok (.invokestatic 211, 3) := by decide +kernel
theorem dL_convoys_59 : decode cL_convoys 59 = .ok (.iload 5, 2) := by decide +kernel
theorem dL_convoys_61 : decode cL_convoys 61 = .ok (.if_icmp .ne 17, 3) := by decide +kernel
theorem dL_convoys_64 : decode cL_convoys 64 = .ok (.aload_n 0, 1) := by decide +kernel
theorem dL_convoys_65 : decode cL_convoys 65 = .ok (.iload 5, 2) := by decide +kernel
theorem dL_convoys_67 : decode cL_convoys 67 = .ok (.invokestatic 170, 3) := by decide +kernel
theorem dL_convoys_70 : decode cL_convoys 70 = .ok (.aload_n 0, 1) := by decide +kernel
theorem dL_convoys_71 : decode cL_convoys 71 = .ok (.iload_n 1, 1) := by decide +kernel
theorem dL_convoys_72 : decode cL_convoys 72 = .ok (.invokestatic 170, 3) := by decide +kernel
theorem dL_convoys_75 : decode cL_convoys 75 = .ok (.if_icmp .eq 5, 3) := by decide +kernel
theorem dL_convoys_78 : decode cL_convoys 78 = .ok (.iconst 0, 1) := by decide +kernel
theorem dL_convoys_79 : decode cL_convoys 79 = .ok (.ireturn, 1) := by decide +kernel
theorem dL_convoys_80 : decode cL_convoys 80 = .ok (.iload_n 3, 1) := by decide +kernel
theorem dL_convoys_81 : decode cL_convoys 81 = .ok (.iload 5, 2) := by decide +kernel
theorem dL_convoys_83 : decode cL_convoys 83 = .ok (.iload_n 1, 1) := by decide +kernel
theorem dL_convoys_84 : decode cL_convoys 84 = .ok (.if_icmp .ne 7, 3) := by decide +kernel
theorem dL_convoys_87 : decode cL_convoys 87 = .ok (.iconst 1, 1) := by decide +kernel
theorem dL_convoys_88 : decode cL_convoys 88 = .ok (.goto 4, 3) := by decide +kernel
theorem dL_convoys_91 : decode cL_convoys 91 = .ok (.iconst 0, 1) := by decide +kernel
theorem dL_convoys_92 : decode cL_convoys 92 = .ok (.ior, 1) := by decide +kernel
theorem dL_convoys_93 : decode cL_convoys 93 = .ok (.istore_n 3, 1) := by decide +kernel
theorem dL_convoys_94 : decode cL_convoys 94 = .ok (.iinc 4 1, 3) := by decide +kernel
theorem dL_convoys_97 : decode cL_convoys 97 = .ok (.goto (-76), 3) := by decide +kernel
theorem dL_convoys_100 : decode cL_convoys 100 = .ok (.aload_n 0, 1) := by decide +kernel
theorem dL_convoys_101 : decode cL_convoys 101 = .ok (.iload_n 1, 1) := by decide +kernel
theorem dL_convoys_102 : decode cL_convoys 102 = .ok (.invokestatic 214, 3) := by decide +kernel
theorem dL_convoys_105 : decode cL_convoys 105 = .ok (.aload_n 0, 1) := by decide +kernel
theorem dL_convoys_106 : decode cL_convoys 106 = .ok (.aload_n 0, 1) := by decide +kernel
theorem dL_convoys_107 : decode cL_convoys 107 = .ok (.iload_n 1, 1) := by decide +kernel
theorem dL_convoys_108 : decode cL_convoys 108 = .ok (.invokestatic 170, 3) := by decide +kernel
theorem dL_convoys_111 : decode cL_convoys 111 = .ok (.invokestatic 182, 3) := by decide +kernel
theorem dL_convoys_114 : decode cL_convoys 114 = .ok (.if_icmp .ge 7, 3) := by decide +kernel
theorem dL_convoys_117 : decode cL_convoys 117 = .ok (.iconst 1, 1) := by decide +kernel
theorem dL_convoys_118 : decode cL_convoys 118 = .ok (.goto 4, 3) := by decide +kernel
theorem dL_convoys_121 : decode cL_convoys 121 = .ok (.iconst 0, 1) := by decide +kernel
theorem dL_convoys_122 : decode cL_convoys 122 = .ok (.istore 4, 2) := by decide +kernel
theorem dL_convoys_124 : decode cL_convoys 124 = .ok (.iload_n 3, 1) := by decide +kernel
theorem dL_convoys_125 : decode cL_convoys 125 = .ok (.ifCond .eq 46, 3) := by decide +kernel
theorem dL_convoys_128 : decode cL_convoys 128 = .ok (.iload_n 2, 1) := by decide +kernel
theorem dL_convoys_129 : decode cL_convoys 129 = .ok (.iconst 4, 1) := by decide +kernel
theorem dL_convoys_130 : decode cL_convoys 130 = .ok (.if_icmp .gt 41, 3) := by decide +kernel
theorem dL_convoys_133 : decode cL_convoys 133 = .ok (.aload_n 0, 1) := by decide +kernel
theorem dL_convoys_134 : decode cL_convoys 134 = .ok (.iload_n 1, 1) := by decide +kernel
theorem dL_convoys_135 : decode cL_convoys 135 = .ok (.iload_n 2, 1) := by decide +kernel
theorem dL_convoys_136 : decode cL_convoys 136 = .ok (.invokestatic 211, 3) := by decide +kernel
theorem dL_convoys_139 : decode cL_convoys 139 = .ok (.sipush (-1002), 3) := by decide +kernel
theorem dL_convoys_142 : decode cL_convoys 142 = .ok (.if_icmp .ne 29, 3) := by decide +kernel
theorem dL_convoys_145 : decode cL_convoys 145 = .ok (.aload_n 0, 1) := by decide +kernel
theorem dL_convoys_146 : decode cL_convoys 146 = .ok (.iload_n 1, 1) := by decide +kernel
theorem dL_convoys_147 : decode cL_convoys 147 = .ok (.invokestatic 216, 3) := by decide +kernel
theorem dL_convoys_150 : decode cL_convoys 150 = .ok (.iload 4, 2) := by decide +kernel
theorem dL_convoys_152 : decode cL_convoys 152 = .ok (.ifCond .eq 7, 3) := by decide +kernel
theorem dL_convoys_155 : decode cL_convoys 155 = .ok (.iconst 1, 1) := by decide +kernel
theorem dL_convoys_156 : decode cL_convoys 156 = .ok (.goto 4, 3) := by decide +kernel
theorem dL_convoys_159 : decode cL_convoys 159 = .ok (.iconst 0, 1) := by decide +kernel
theorem dL_convoys_160 : decode cL_convoys 160 = .ok (.if_icmp .ne 11, 3) := by decide +kernel
theorem dL_convoys_163 : decode cL_convoys 163 = .ok (.aload_n 0, 1) := by decide +kernel
theorem dL_convoys_164 : decode cL_convoys 164 = .ok (.iload_n 1, 1) := by decide +kernel
theorem dL_convoys_165 : decode cL_convoys 165 = .ok (.invokestatic 218, 3) := by decide +kernel
theorem dL_convoys_168 : decode cL_convoys 168 = .ok (.ifCond .ge 5, 3) := by decide +kernel
theorem dL_convoys_171 : decode cL_convoys 171 = .ok (.iconst 0, 1) := by decide +kernel
theorem dL_convoys_172 : decode cL_convoys 172 = .ok (.ireturn, 1) := by decide +kernel
theorem dL_convoys_173 : decode cL_convoys 173 = .ok (.aload_n 0, 1) := by decide +kernel
theorem dL_convoys_174 : decode cL_convoys 174 = .ok (.iload_n 1, 1) := by decide +kernel
theorem dL_convoys_175 : decode cL_convoys 175 = .ok (.invokestatic 220, 3) := by decide +kernel
theorem dL_convoys_178 : decode cL_convoys 178 = .ok (.istore 5, 2) := by decide +kernel
theorem dL_convoys_180 : decode cL_convoys 180 = .ok (.iload 5, 2) := by decide +kernel
theorem dL_convoys_182 : decode cL_convoys 182 = .ok (.ifCond .lt 13, 3) := by decide +kernel
theorem dL_convoys_185 : decode cL_convoys 185 = .ok (.iload 4, 2) := by decide +kernel
theorem dL_convoys_187 : decode cL_convoys 187 = .ok (.ifCond .ne 10, 3) := by decide +kernel
theorem dL_convoys_190 : decode cL_convoys 190 = .ok (.iload 5, 2) := by decide +kernel
theorem dL_convoys_192 : decode cL_convoys 192 = .ok (.ifCond .eq 5, 3) := by decide +kernel
theorem dL_convoys_195 : decode cL_convoys 195 = .ok (.iconst 0, 1) := by decide +kernel
theorem dL_convoys_196 : decode cL_convoys 196 = .ok (.ireturn, 1) := by decide +kernel
theorem dL_convoys_197 : decode cL_convoys 197 = .ok (.iinc 1 1, 3) := by decide +kernel
theorem dL_convoys_200 : decode cL_convoys 200 = .ok (.goto (-198), 3) := by decide +kernel
theorem dL_convoys_203 : decode cL_convoys 203 = .ok (.iconst 1, 1) := by decide +kernel
theorem dL_convoys_204 : decode cL_convoys 204 = .ok (.ireturn, 1) := by decide +kernel
theorem dL_sails_0 : decode cL_sails 0 = .ok (.aload_n 0, 1) := by decide +kernel
theorem dL_sails_1 : decode cL_sails 1 = .ok (.invokestatic 222, 3) := by decide +kernel
theorem dL_sails_4 : decode cL_sails 4 = .ok (.astore_n 3, 1) := by decide +kernel
theorem dL_sails_5 : decode cL_sails 5 = .ok (.aload_n 0, 1) := by decide +kernel
theorem dL_sails_6 : decode cL_sails 6 = .ok (.iload_n 1, 1) := by decide +kernel
theorem dL_sails_7 : decode cL_sails 7 = .ok (.invokestatic 170, 3) := by decide +kernel
theorem dL_sails_10 : decode cL_sails 10 = .ok (.istore 4, 2) := by decide +kernel
theorem dL_sails_12 : decode cL_sails 12 = .ok (.aload_n 0, 1) := by decide +kernel
theorem dL_sails_13 : decode cL_sails 13 = .ok (.iload_n 1, 1) := by decide +kernel
theorem dL_sails_14 : decode cL_sails 14 = .ok (.iload_n 2, 1) := by decide +kernel
theorem dL_sails_15 : decode cL_sails 15 = .ok (.invokestatic 226, 3) := by decide +kernel
theorem dL_sails_18 : decode cL_sails 18 = .ok (.istore 5, 2) := by decide +kernel
theorem dL_sails_20 : decode cL_sails 20 = .ok (.aload_n 0, 1) := by decide +kernel
theorem dL_sails_21 : decode cL_sails 21 = .ok (.iload_n 1, 1) := by decide +kernel
theorem dL_sails_22 : decode cL_sails 22 = .ok (.iload_n 2, 1) := by decide +kernel
theorem dL_sails_23 : decode cL_sails 23 = .ok (.invokestatic 228, 3) := by decide +kernel
theorem dL_sails_26 : decode cL_sails 26 = .ok (.iconst 1, 1) := by decide +kernel
theorem dL_sails_27 : decode cL_sails 27 = .ok (.if_icmp .ne 7, 3) := by decide +kernel
theorem dL_sails_30 : decode cL_sails 30 = .ok (.iconst 1, 1) := by decide +kernel
theorem dL_sails_31 : decode cL_sails 31 = .ok (.goto 4, 3) := by decide +kernel
theorem dL_sails_34 : decode cL_sails 34 = .ok (.iconst 0, 1) := by decide +kernel
theorem dL_sails_35 : decode cL_sails 35 = .ok (.istore 6, 2) := by decide +kernel
theorem dL_sails_37 : decode cL_sails 37 = .ok (.aload_n 0, 1) := by decide +kernel
theorem dL_sails_38 : decode cL_sails 38 = .ok (.iload_n 1, 1) := by decide +kernel
theorem dL_sails_39 : decode cL_sails 39 = .ok (.invokestatic 230, 3) := by decide +kernel
theorem dL_sails_42 : decode cL_sails 42 = .ok (.istore 7, 2) := by decide +kernel
theorem dL_sails_44 : decode cL_sails 44 = .ok (.aload_n 3, 1) := by decide +kernel
theorem dL_sails_45 : decode cL_sails 45 = .ok (.aload_n 0, 1) := by decide +kernel
theorem dL_sails_46 : decode cL_sails 46 = .ok (.invokestatic 222, 3) := by decide +kernel
theorem dL_sails_49 : decode cL_sails 49 = .ok (.invokestatic 232, 3) := by decide +kernel
theorem dL_sails_52 : decode cL_sails 52 = .ok (.ifCond .eq 55, 3) := by decide +kernel
theorem dL_sails_55 : decode cL_sails 55 = .ok (.iload 6, 2) := by decide +kernel
theorem dL_sails_57 : decode cL_sails 57 = .ok (.iload 5, 2) := by decide +kernel
theorem dL_sails_59 : decode cL_sails 59 = .ok (.ifCond .lt 7, 3) := by decide +kernel
theorem dL_sails_62 : decode cL_sails 62 = .ok (.iconst 1, 1) := by decide +kernel
theorem dL_sails_63 : decode cL_sails 63 = .ok (.goto 4, 3) := by decide +kernel
theorem dL_sails_66 : decode cL_sails 66 = .ok (.iconst 0, 1) := by decide +kernel
theorem dL_sails_67 : decode cL_sails 67 = .ok (.if_icmp .ne 40, 3) := by decide +kernel
theorem dL_sails_70 : decode cL_sails 70 = .ok (.iload 7, 2) := by decide +kernel
theorem dL_sails_72 : decode cL_sails 72 = .ok (.ifCond .lt 35, 3) := by decide +kernel
theorem dL_sails_75 : decode cL_sails 75 = .ok (.aload_n 0, 1) := by decide +kernel
theorem dL_sails_76 : decode cL_sails 76 = .ok (.iload_n 1, 1) := by decide +kernel
theorem dL_sails_77 : decode cL_sails 77 = .ok (.iload 7, 2) := by decide +kernel
theorem dL_sails_79 : decode cL_sails 79 = .ok (.invokestatic 228, 3) := by decide +kernel
theorem dL_sails_82 : decode cL_sails 82 = .ok (.iconst 1, 1) := by decide +kernel
theorem dL_sails_83 : decode cL_sails 83 = .ok (.if_icmp .ne 24, 3) := by decide +kernel
theorem dL_sails_86 : decode cL_sails 86 = .ok (.iload 6, 2) := by decide +kernel
theorem dL_sails_88 : decode cL_sails 88 = .ok (.ifCond .eq 21, 3) := by decide +kernel
theorem dL_sails_91 : decode cL_sails 91 = .ok (.aload_n 0, 1) := by decide +kernel
theorem dL_sails_92 : decode cL_sails 92 = .ok (.iload_n 1, 1) := by decide +kernel
theorem dL_sails_93 : decode cL_sails 93 = .ok (.iload_n 2, 1) := by decide +kernel
theorem dL_sails_94 : decode cL_sails 94 = .ok (.invokestatic 236, 3) := by decide +kernel
theorem dL_sails_97 : decode cL_sails 97 = .ok (.aload_n 0, 1) := by decide +kernel
theorem dL_sails_98 : decode cL_sails 98 = .ok (.iload_n 1, 1) := by decide +kernel
theorem dL_sails_99 : decode cL_sails 99 = .ok (.iload 7, 2) := by decide +kernel
theorem dL_sails_101 : decode cL_sails 101 = .ok (.invokestatic 236, 3) := by decide +kernel
theorem dL_sails_104 : decode cL_sails 104 = .ok (.if_icmp .le 5, 3) := by decide +kernel
theorem dL_sails_107 : decode cL_sails 107 = .ok (.iconst 0, 1) := by decide +kernel
theorem dL_sails_108 : decode cL_sails 108 = .ok (.ireturn, 1) := by decide +kernel
theorem dL_sails_109 : decode cL_sails 109 = .ok (.iconst 0, 1) := by decide +kernel
theorem dL_sails_110 : decode cL_sails 110 = .ok (.istore 8, 2) := by decide +kernel
theorem dL_sails_112 : decode cL_sails 112 = .ok (.iload 4, 2) := by decide +kernel
theorem dL_sails_114 : decode cL_sails 114 = .ok (.iload_n 2, 1) := by decide +kernel
theorem dL_sails_115 : decode cL_sails 115 = .ok (.invokestatic 238, 3) := by decide +kernel
theorem dL_sails_118 : decode cL_sails 118 = .ok (.istore 9, 2) := by decide +kernel
theorem dL_sails_120 : decode cL_sails 120 = .ok (.iload 9, 2) := by decide +kernel
theorem dL_sails_122 : decode cL_sails 122 = .ok (.iload 4, 2) := by decide +kernel
theorem dL_sails_124 : decode cL_sails 124 = .ok (.iload_n 2, 1) := by decide +kernel
theorem dL_sails_125 : decode cL_sails 125 = .ok (.invokestatic 243, 3) := by decide +kernel
theorem dL_sails_128 : decode cL_sails 128 = .ok (.if_icmp .ge 21, 3) := by decide +kernel
theorem dL_sails_131 : decode cL_sails 131 = .ok (.iload 8, 2) := by decide +kernel
theorem dL_sails_133 : decode cL_sails 133 = .ok (.aload_n 0, 1) := by decide +kernel
theorem dL_sails_134 : decode cL_sails 134 = .ok (.iload_n 1, 1) := by decide +kernel
theorem dL_sails_135 : decode cL_sails 135 = .ok (.iload 9, 2) := by decide +kernel
theorem dL_sails_137 : decode cL_sails 137 = .ok (.invokestatic 246, 3) := by decide +kernel
theorem dL_sails_140 : decode cL_sails 140 = .ok (.iadd, 1) := by decide +kernel
theorem dL_sails_141 : decode cL_sails 141 = .ok (.istore 8, 2) := by decide +kernel
theorem dL_sails_143 : decode cL_sails 143 = .ok (.iinc 9 1, 3) := by decide +kernel
theorem dL_sails_146 : decode cL_sails 146 = .ok (.goto (-26), 3) := by decide +kernel
theorem dL_sails_149 : decode cL_sails 149 = .ok (.iconst 0, 1) := by decide +kernel
theorem dL_sails_150 : decode cL_sails 150 = .ok (.istore 9, 2) := by decide +kernel
theorem dL_sails_152 : decode cL_sails 152 = .ok (.iconst 0, 1) := by decide +kernel
theorem dL_sails_153 : decode cL_sails 153 = .ok (.istore 10, 2) := by decide +kernel
theorem dL_sails_155 : decode cL_sails 155 = .ok (.iload 10, 2) := by decide +kernel
theorem dL_sails_157 : decode cL_sails 157 = .ok (.aload_n 0, 1) := by decide +kernel
theorem dL_sails_158 : decode cL_sails 158 = .ok (.invokevirtual 157, 3) := by decide +kernel
theorem dL_sails_161 : decode cL_sails 161 = .ok (.iconst 1, 1) := by decide +kernel
theorem dL_sails_162 : decode cL_sails 162 = .ok (.isub, 1) := by decide +kernel
theorem dL_sails_163 : decode cL_sails 163 = .ok (.if_icmp .ge 20, 3) := by decide +kernel
theorem dL_sails_166 : decode cL_sails 166 = .ok (.iload 9, 2) := by decide +kernel
theorem dL_sails_168 : decode cL_sails 168 = .ok (.aload_n 0, 1) := by decide +kernel
theorem dL_sails_169 : decode cL_sails 169 = .ok (.iload 10, 2) := by decide +kernel
theorem dL_sails_171 : decode cL_sails 171 = .ok (.invokestatic 165, 3) := by decide +kernel
theorem dL_sails_174 : decode cL_sails 174 = .ok (.isub, 1) := by decide +kernel
theorem dL_sails_175 : decode cL_sails 175 = .ok (.istore 9, 2) := by decide +kernel
theorem dL_sails_177 : decode cL_sails 177 = .ok (.iinc 10 1, 3) := by decide +kernel
theorem dL_sails_180 : decode cL_sails 180 = .ok (.goto (-25), 3) := by decide +kernel
theorem dL_sails_183 : decode cL_sails 183 = .ok (.aload_n 0, 1) := by decide +kernel
theorem dL_sails_184 : decode cL_sails 184 = .ok (.iload_n 1, 1) := by decide +kernel
theorem dL_sails_185 : decode cL_sails 185 = .ok (.iload_n 2, 1) := by decide +kernel
theorem dL_sails_186 : decode cL_sails 186 = .ok (.invokestatic 248, 3) := by decide +kernel
theorem dL_sails_189 : decode cL_sails 189 = .ok (.istore 10, 2) := by decide +kernel
theorem dL_sails_191 : decode cL_sails 191 = .ok (.iload 4, 2) := by decide +kernel
theorem dL_sails_193 : decode cL_sails 193 = .ok (.iload_n 2, 1) := by decide +kernel
theorem dL_sails_194 : decode cL_sails 194 = .ok (.if_icmp .ne 27, 3) := by decide +kernel
theorem dL_sails_197 : decode cL_sails 197 = .ok (.iload 10, 2) := by decide +kernel
theorem dL_sails_199 : decode cL_sails 199 = .ok (.sipush (-1002), 3) := by decide +kernel
theorem dL_sails_202 : decode cL_sails 202 = .ok (.if_icmp .ne 17, 3) := by decide +kernel
theorem dL_sails_205 : decode cL_sails 205 = .ok (.iload 6, 2) := by decide +kernel
theorem dL_sails_207 : decode cL_sails 207 = .ok (.ifCond .eq 12, 3) := by decide +kernel
theorem dL_sails_210 : decode cL_sails 210 = .ok (.iload 5, 2) := by decide +kernel
theorem dL_sails_212 : decode cL_sails 212 = .ok (.ifCond .ne 7, 3) := by decide +kernel
theorem dL_sails_215 : decode cL_sails 215 = .ok (.iconst 1, 1) := by decide +kernel
theorem dL_sails_216 : decode cL_sails 216 = .ok (.goto 4, 3) := by decide +kernel
theorem dL_sails_219 : decode cL_sails 219 = .ok (.iconst 0, 1) := by decide +kernel
theorem dL_sails_220 : decode cL_sails 220 = .ok (.ireturn, 1) := by decide +kernel
theorem dL_sails_221 : decode cL_sails 221 = .ok (.iload 6, 2) := by decide +kernel
theorem dL_sails_223 : decode cL_sails 223 = .ok (.ifCond .ne 70, 3) := by decide +kernel
theorem dL_sails_226 : decode cL_sails 226 = .ok (.iload 10, 2) := by decide +kernel
theorem dL_sails_228 : decode cL_sails 228 = .ok (.sipush (-1003), 3) := by decide +kernel
theorem dL_sails_231 : decode cL_sails 231 = .ok (.if_icmp .ne 60, 3) := by decide +kernel
theorem dL_sails_234 : decode cL_sails 234 = .ok (.aload_n 3, 1) := by decide +kernel
theorem dL_sails_235 : decode cL_sails 235 = .ok (.aload_n 0, 1) := by decide +kernel
theorem dL_sails_236 : decode cL_sails 236 = .ok (.invokestatic 222, 3) := by decide +kernel
theorem dL_sails_239 : decode cL_sails 239 = .ok (.invokestatic 232, 3) := by decide +kernel
theorem dL_sails_242 : decode cL_sails 242 = .ok (.ifCond .eq 49, 3) := by decide +kernel
theorem dL_sails_245 : decode cL_sails 245 = .ok (.aload_n 0, 1) := by decide +kernel
theorem dL_sails_246 : decode cL_sails 246 = .ok (.invokestatic 250, 3) := by decide +kernel
theorem dL_sails_249 : decode cL_sails 249 = .ok (.iconst 1, 1) := by decide +kernel
theorem dL_sails_250 : decode cL_sails 250 = .ok (.if_icmp .lt 41, 3) := by decide +kernel
theorem dL_sails_253 : decode cL_sails 253 = .ok (.aload_n 0, 1) := by decide +kernel
theorem dL_sails_254 : decode cL_sails 254 = .ok (.invokestatic 250, 3) := by decide +kernel
theorem dL_sails_257 : decode cL_sails 257 = .ok (.iconst 5, 1) := by decide +kernel
theorem dL_sails_258 : decode cL_sails 258 = .ok (.if_icmp .gt 33, 3) := by decide +kernel
theorem dL_sails_261 : decode cL_sails 261 = .ok (.aload_n 0, 1) := by decide +kernel
theorem dL_sails_262 : decode cL_sails 262 = .ok (.invokestatic 253, 3) := by decide +kernel
theorem dL_sails_265 : decode cL_sails 265 = .ok (.iload 4, 2) := by decide +kernel
theorem dL_sails_267 : decode cL_sails 267 = .ok (.iload_n 2, 1) := by decide +kernel
theorem dL_sails_268 : decode cL_sails 268 = .ok (.invokestatic 238, 3) := by decide +kernel
theorem dL_sails_271 : decode cL_sails 271 = .ok (.if_icmp .lt 20, 3) := by decide +kernel
theorem dL_sails_274 : decode cL_sails 274 = .ok (.aload_n 0, 1) := by decide +kernel
theorem dL_sails_275 : decode cL_sails 275 = .ok (.invokestatic 253, 3) := by decide +kernel
theorem dL_sails_278 : decode cL_sails 278 = .ok (.iload 4, 2) := by decide +kernel
theorem dL_sails_280 : decode cL_sails 280 = .ok (.iload_n 2, 1) := by decide +kernel
theorem dL_sails_281 : decode cL_sails 281 = .ok (.invokestatic 243, 3) := by decide +kernel
theorem dL_sails_284 : decode cL_sails 284 = .ok (.if_icmp .ge 7, 3) := by decide +kernel
theorem dL_sails_287 : decode cL_sails 287 = .ok (.iconst 1, 1) := by decide +kernel
theorem dL_sails_288 : decode cL_sails 288 = .ok (.goto 4, 3) := by decide +kernel
theorem dL_sails_291 : decode cL_sails 291 = .ok (.iconst 0, 1) := by decide +kernel
theorem dL_sails_292 : decode cL_sails 292 = .ok (.ireturn, 1) := by decide +kernel
theorem dL_sails_293 : decode cL_sails 293 = .ok (.iconst 0, 1) := by decide +kernel
theorem dL_sails_294 : decode cL_sails 294 = .ok (.istore 11, 2) := by decide +kernel
theorem dL_sails_296 : decode cL_sails 296 = .ok (.iload 11, 2) := by decide +kernel
theorem dL_sails_298 : decode cL_sails 298 = .ok (.aload_n 0, 1) := by decide +kernel
theorem dL_sails_299 : decode cL_sails 299 = .ok (.invokevirtual 157, 3) := by decide +kernel
theorem dL_sails_302 : decode cL_sails 302 = .ok (.iconst 1, 1) := by decide +kernel
theorem dL_sails_303 : decode cL_sails 303 = .ok (.isub, 1) := by decide +kernel
theorem dL_sails_304 : decode cL_sails 304 = .ok (.if_icmp .ge 20, 3) := by decide +kernel
theorem dL_sails_307 : decode cL_sails 307 = .ok (.iload 9, 2) := by decide +kernel
theorem dL_sails_309 : decode cL_sails 309 = .ok (.aload_n 0, 1) := by decide +kernel
theorem dL_sails_310 : decode cL_sails 310 = .ok (.iload 11, 2) := by decide +kernel
theorem dL_sails_312 : decode cL_sails 312 = .ok (.invokestatic 165, 3) := by decide +kernel
theorem dL_sails_315 : decode cL_sails 315 = .ok (.iadd, 1) := by decide +kernel
theorem dL_sails_316 : decode cL_sails 316 = .ok (.istore 9, 2) := by decide +kernel
theorem dL_sails_318 : decode cL_sails 318 = .ok (.iinc 11 1, 3) := by decide +kernel
theorem dL_sails_321 : decode cL_sails 321 = .ok (.goto (-25), 3) := by decide +kernel
theorem dL_sails_324 : decode cL_sails 324 = .ok (.iconst 0, 1) := by decide +kernel
theorem dL_sails_325 : decode cL_sails 325 = .ok (.istore 11, 2) := by decide +kernel
theorem dL_sails_327 : decode cL_sails 327 = .ok (.iload 11, 2) := by decide +kernel
theorem dL_sails_329 : decode cL_sails 329 = .ok (.aload_n 0, 1) := by decide +kernel
theorem dL_sails_330 : decode cL_sails 330 = .ok (.iload_n 1, 1) := by decide +kernel
theorem dL_sails_331 : decode cL_sails 331 = .ok (.invokestatic 209, 3) := by decide +kernel
theorem dL_sails_334 : decode cL_sails 334 = .ok (.if_icmp .ge 26, 3) := by decide +kernel
theorem dL_sails_337 : decode cL_sails 337 = .ok (.aload_n 0, 1) := by decide +kernel
theorem dL_sails_338 : decode cL_sails 338 = .ok (.aload_n 0, 1) := by decide +kernel
theorem dL_sails_339 : decode cL_sails 339 = .ok (.iload_n 1, 1) := by decide +kernel
theorem dL_sails_340 : decode cL_sails 340 = .ok (.iload 11, 2) := by decide +kernel
theorem dL_sails_342 : decode cL_sails 342 = .ok (.invokestatic 211, 3) := by decide +kernel
theorem dL_sails_345 : decode cL_sails 345 = .ok (.invokestatic 170, 3) := by decide +kernel
theorem dL_sails_348 : decode cL_sails 348 = .ok (.iload_n 2, 1) := by decide +kernel
theorem dL_sails_349 : decode cL_sails 349 = .ok (.if_icmp .eq 5, 3) := by decide +kernel
theorem dL_sails_352 : decode cL_sails 352 = .ok (.iconst 0, 1) := by decide +kernel
theorem dL_sails_353 : decode cL_sails 353 = .ok (.ireturn, 1) := by decide +kernel
theorem dL_sails_354 : decode cL_sails 354 = .ok (.iinc 11 1, 3) := by decide +kernel
theorem dL_sails_357 : decode cL_sails 357 = .ok (.goto (-30), 3) := by decide +kernel
theorem dL_sails_360 : decode cL_sails 360 = .ok (.iload 10, 2) := by decide +kernel
theorem dL_sails_362 : decode cL_sails 362 = .ok (.iload 8, 2) := by decide +kernel
theorem dL_sails_364 : decode cL_sails 364 = .ok (.if_icmp .ne 14, 3) := by decide +kernel
theorem dL_sails_367 : decode cL_sails 367 = .ok (.iload 9, 2) := by decide +kernel
theorem dL_sails_369 : decode cL_sails 369 = .ok (.iload 5, 2) := by decide +kernel
theorem dL_sails_371 : decode cL_sails 371 = .ok (.if_icmp .ne 7, 3) := by decide +kernel
theorem dL_sails_374 : decode cL_sails 374 = .ok (.iconst 1, 1) := by decide +kernel
theorem dL_sails_375 : decode cL_sails 375 = .ok (.goto 4, 3) := by decide +kernel
theorem dL_sails_378 : decode cL_sails 378 = .ok (.iconst 0, 1) := by decide +kernel
theorem dL_sails_379 : decode cL_sails 379 = .ok (.ireturn, 1) := by decide +kernel
theorem dL_passes_0 : decode cL_passes 0 = .ok (.aload_n 0, 1) := by decide +kernel
theorem dL_passes_1 : decode cL_passes 1 = .ok (.invokestatic 222, 3) := by decide +kernel
theorem dL_passes_4 : decode cL_passes 4 = .ok (.astore_n 3, 1) := by decide +kernel
theorem dL_passes_5 : decode cL_passes 5 = .ok (.aload_n 0, 1) := by decide +kernel
theorem dL_passes_6 : decode cL_passes 6 = .ok (.iload_n 1, 1) := by decide +kernel
theorem dL_passes_7 : decode cL_passes 7 = .ok (.invokestatic 170, 3) := by decide +kernel
theorem dL_passes_10 : decode cL_passes 10 = .ok (.istore 4, 2) := by decide +kernel
theorem dL_passes_12 : decode cL_passes 12 = .ok (.iload_n 2, 1) := by decide +kernel
theorem dL_passes_13 : decode cL_passes 13 = .ok (.ifCond .eq 10, 3) := by decide +kernel
theorem dL_passes_16 : decode cL_passes 16 = .ok (.iload 4, 2) := by decide +kernel
theorem dL_passes_18 : decode cL_passes 18 = .ok (.iconst 1, 1) := by decide +kernel
theorem dL_passes_19 : decode cL_passes 19 = .ok (.iadd, 1) := by decide +kernel
theorem dL_passes_20 : decode cL_passes 20 = .ok (.goto 7, 3) := by decide +kernel
theorem dL_passes_23 : decode cL_passes 23 = .ok (.iload 4, 2) := by decide +kernel
theorem dL_passes_25 : decode cL_passes 25 = .ok (.iconst 1, 1) := by decide +kernel
theorem dL_passes_26 : decode cL_passes 26 = .ok (.isub, 1) := by decide +kernel
theorem dL_passes_27 : decode cL_passes 27 = .ok (.istore 5, 2) := by decide +kernel
theorem dL_passes_29 : decode cL_passes 29 = .ok (.aload_n 0, 1) := by decide +kernel
theorem dL_passes_30 : decode cL_passes 30 = .ok (.iload_n 1, 1) := by decide +kernel
theorem dL_passes_31 : decode cL_passes 31 = .ok (.iload_n 2, 1) := by decide +kernel
theorem dL_passes_32 : decode cL_passes 32 = .ok (.invokestatic 255, 3) := by decide +kernel
theorem dL_passes_35 : decode cL_passes 35 = .ok (.istore 6, 2) := by decide +kernel
theorem dL_passes_37 : decode cL_passes 37 = .ok (.iload 5, 2) := by decide +kernel
theorem dL_passes_39 : decode cL_passes 39 = .ok (.ifCond .lt 12, 3) := by decide +kernel
theorem dL_passes_42 : decode cL_passes 42 = .ok (.iload 5, 2) := by decide +kernel
theorem dL_passes_44 : decode cL_passes 44 = .ok (.aload_n 0, 1) := by decide +kernel
theorem dL_passes_45 : decode cL_passes 45 = .ok (.invokevirtual 157, 3) := by decide +kernel
theorem dL_passes_48 : decode cL_passes 48 = .ok (.if_icmp .lt 28, 3) := by decide +kernel
theorem dL_passes_51 : decode cL_passes 51 = .ok (.iload 6, 2) := by decide +kernel
theorem dL_passes_53 : decode cL_passes 53 = .ok (.sipush (-1002), 3) := by decide +kernel
theorem dL_passes_56 : decode cL_passes 56 = .ok (.if_icmp .ne 18, 3) := by decide +kernel
theorem dL_passes_59 : decode cL_passes 59 = .ok (.aload_n 3, 1) := by decide +kernel
theorem dL_passes_60 : decode cL_passes 60 = .ok (.aload_n 0, 1) := by decide +kernel
theorem dL_passes_61 : decode cL_passes 61 = .ok (.invokestatic 222, 3) := by decide +kernel
theorem dL_passes_64 : decode cL_passes 64 = .ok (.invokestatic 232, 3) := by decide +kernel
theorem dL_passes_67 : decode cL_passes 67 = .ok (.ifCond .eq 7, 3) := by decide +kernel
theorem dL_passes_70 : decode cL_passes 70 = .ok (.iconst 1, 1) := by decide +kernel
theorem dL_passes_71 : decode cL_passes 71 = .ok (.goto 4, 3) := by decide +kernel
theorem dL_passes_74 : decode cL_passes 74 = .ok (.iconst 0, 1) := by decide +kernel
theorem dL_passes_75 : decode cL_passes 75 = .ok (.ireturn, 1) := by decide +kernel
theorem dL_passes_76 : decode cL_passes 76 = .ok (.iload 4, 2) := by decide +kernel
theorem dL_passes_78 : decode cL_passes 78 = .ok (.iload 5, 2) := by decide +kernel
theorem dL_passes_80 : decode cL_passes 80 = .ok (.invokestatic 238, 3) := by decide +kernel
theorem dL_passes_83 : decode cL_passes 83 = .ok (.istore 7, 2) := by decide +kernel
theorem dL_passes_85 : decode cL_passes 85 = .ok (.iload 6, 2) := by decide +kernel
theorem dL_passes_87 : decode cL_passes 87 = .ok (.ifCond .ge 71, 3) := by decide +kernel
theorem dL_passes_90 : decode cL_passes 90 = .ok (.iload 6, 2) := by decide +kernel
theorem dL_passes_92 : decode cL_passes 92 = .ok (.sipush (-1003), 3) := by decide +kernel
theorem dL_passes_95 : decode cL_passes 95 = .ok (.if_icmp .ne 61, 3) := by decide +kernel
theorem dL_passes_98 : decode cL_passes 98 = .ok (.aload_n 3, 1) := by decide +kernel
theorem dL_passes_99 : decode cL_passes 99 = .ok (.aload_n 0, 1) := by decide +kernel
theorem dL_passes_100 : decode cL_passes 100 = .ok (.invokestatic 222, 3) := by decide +kernel
theorem dL_passes_103 : decode cL_passes 103 = .ok (.invokestatic 232, 3) := by decide +kernel
theorem dL_passes_106 : decode cL_passes 106 = .ok (.ifCond .eq 50, 3) := by decide +kernel
theorem dL_passes_109 : decode cL_passes 109 = .ok (.aload_n 0, 1) := by decide +kernel
theorem dL_passes_110 : decode cL_passes 110 = .ok (.invokestatic 253, 3) := by decide +kernel
theorem dL_passes_113 : decode cL_passes 113 = .ok (.iload 7, 2) := by decide +kernel
theorem dL_passes_115 : decode cL_passes 115 = .ok (.if_icmp .ne 41, 3) := by decide +kernel
theorem dL_passes_118 : decode cL_passes 118 = .ok (.aload_n 0, 1) := by decide +kernel
theorem dL_passes_119 : decode cL_passes 119 = .ok (.invokestatic 250, 3) := by decide +kernel
theorem dL_passes_122 : decode cL_passes 122 = .ok (.iconst 1, 1) := by decide +kernel
theorem dL_passes_123 : decode cL_passes 123 = .ok (.if_icmp .ne 7, 3) := by decide +kernel
theorem dL_passes_126 : decode cL_passes 126 = .ok (.iconst 1, 1) := by decide +kernel
theorem dL_passes_127 : decode cL_passes 127 = .ok (.goto 4, 3) := by decide +kernel
theorem dL_passes_130 : decode cL_passes 130 = .ok (.iconst 0, 1) := by decide +kernel
theorem dL_passes_131 : decode cL_passes 131 = .ok (.aload_n 0, 1) := by decide +kernel
theorem dL_passes_132 : decode cL_passes 132 = .ok (.iload_n 1, 1) := by decide +kernel
theorem dL_passes_133 : decode cL_passes 133 = .ok (.iload 7, 2) := by decide +kernel
theorem dL_passes_135 : decode cL_passes 135 = .ok (.invokestatic 246, 3) := by decide +kernel
theorem dL_passes_138 : decode cL_passes 138 = .ok (.sipush (-1002), 3) := by decide +kernel
theorem dL_passes_141 : decode cL_passes 141 = .ok (.if_icmp .ne 7, 3) := by decide +kernel
theorem dL_passes_144 : decode cL_passes 144 = .ok (.iconst 1, 1) := by decide +kernel
theorem dL_passes_145 : decode cL_passes 145 = .ok (.goto 4, 3) := by decide +kernel
theorem dL_passes_148 : decode cL_passes 148 = .ok (.iconst 0, 1) := by decide +kernel
theorem dL_passes_149 : decode cL_passes 149 = .ok (.if_icmp .ne 7, 3) := by decide +kernel
theorem dL_passes_152 : decode cL_passes 152 = .ok (.iconst 1, 1) := by decide +kernel
theorem dL_passes_153 : decode cL_passes 153 = .ok (.goto 4, 3) := by decide +kernel
theorem dL_passes_156 : decode cL_passes 156 = .ok (.iconst 0, 1) := by decide +kernel
theorem dL_passes_157 : decode cL_passes 157 = .ok (.ireturn, 1) := by decide +kernel
theorem dL_passes_158 : decode cL_passes 158 = .ok (.iload 6, 2) := by decide +kernel
theorem dL_passes_160 : decode cL_passes 160 = .ok (.aload_n 0, 1) := by decide +kernel
theorem dL_passes_161 : decode cL_passes 161 = .ok (.iload_n 1, 1) := by decide +kernel
theorem dL_passes_162 : decode cL_passes 162 = .ok (.iload 7, 2) := by decide +kernel
theorem dL_passes_164 : decode cL_passes 164 = .ok (.invokestatic 246, 3) := by decide +kernel
theorem dL_passes_167 : decode cL_passes 167 = .ok (.if_icmp .ne 35, 3) := by decide +kernel
theorem dL_passes_170 : decode cL_passes 170 = .ok (.aload_n 0, 1) := by decide +kernel
theorem dL_passes_171 : decode cL_passes 171 = .ok (.iload_n 1, 1) := by decide +kernel
theorem dL_passes_172 : decode cL_passes 172 = .ok (.invokestatic 170, 3) := by decide +kernel
theorem dL_passes_175 : decode cL_passes 175 = .ok (.iload 5, 2) := by decide +kernel
theorem dL_passes_177 : decode cL_passes 177 = .ok (.if_icmp .ne 25, 3) := by decide +kernel
theorem dL_passes_180 : decode cL_passes 180 = .ok (.aload_n 0, 1) := by decide +kernel
theorem dL_passes_181 : decode cL_passes 181 = .ok (.iload 7, 2) := by decide +kernel
theorem dL_passes_183 : decode cL_passes 183 = .ok (.invokestatic 163, 3) := by decide +kernel
theorem dL_passes_186 : decode cL_passes 186 = .ok (.iload_n 2, 1) := by decide +kernel
theorem dL_passes_187 : decode cL_passes 187 = .ok (.ifCond .eq 7, 3) := by decide +kernel
theorem dL_passes_190 : decode cL_passes 190 = .ok (.iconst 0, 1) := by decide +kernel
theorem dL_passes_191 : decode cL_passes 191 = .ok (.goto 4, 3) := by decide +kernel
theorem dL_passes_194 : decode cL_passes 194 = .ok (.iconst 1, 1) := by decide +kernel
theorem dL_passes_195 : decode cL_passes 195 = .ok (.if_icmp .ne 7, 3) := by decide +kernel
theorem dL_passes_198 : decode cL_passes 198 = .ok (.iconst 1, 1) := by decide +kernel
theorem dL_passes_199 : decode cL_passes 199 = .ok (.goto 4, 3) := by decide +kernel
theorem dL_passes_202 : decode cL_passes 202 = .ok (.iconst 0, 1) := by decide +kernel
theorem dL_passes_203 : decode cL_passes 203 = .ok (.ireturn, 1) := by decide +kernel
theorem dL_trades_0 : decode cL_trades 0 = .ok (.aload_n 0, 1) := by decide +kernel
theorem dL_trades_1 : decode cL_trades 1 = .ok (.iload_n 1, 1) := by decide +kernel
theorem dL_trades_2 : decode cL_trades 2 = .ok (.invokestatic 220, 3) := by decide +kernel
theorem dL_trades_5 : decode cL_trades 5 = .ok (.istore_n 3, 1) := by decide +kernel
theorem dL_trades_6 : decode cL_trades 6 = .ok (.aload_n 0, 1) := by decide +kernel
theorem dL_trades_7 : decode cL_trades 7 = .ok (.iload_n 1, 1) := by decide +kernel
theorem dL_trades_8 : decode cL_trades 8 = .ok (.invokestatic 218, 3) := by decide +kernel
theorem dL_trades_11 : decode cL_trades 11 = .ok (.istore 4, 2) := by decide +kernel
theorem dL_trades_13 : decode cL_trades 13 = .ok (.aload_n 0, 1) := by decide +kernel
theorem dL_trades_14 : decode cL_trades 14 = .ok (.aload_n 0, 1) := by decide +kernel
theorem dL_trades_15 : decode cL_trades 15 = .ok (.iload_n 1, 1) := by decide +kernel
theorem dL_trades_16 : decode cL_trades 16 = .ok (.invokestatic 170, 3) := by decide +kernel
theorem dL_trades_19 : decode cL_trades 19 = .ok (.invokestatic 258, 3) := by decide +kernel
theorem dL_trades_22 : decode cL_trades 22 = .ok (.istore 5, 2) := by decide +kernel
theorem dL_trades_24 : decode cL_trades 24 = .ok (.aload_n 0, 1) := by decide +kernel
theorem dL_trades_25 : decode cL_trades 25 = .ok (.invokevirtual 260, 3) := by decide +kernel
theorem dL_trades_28 : decode cL_trades 28 = .ok (.lstore 6, 2) := by decide +kernel
theorem dL_trades_30 : decode cL_trades 30 = .ok (.aload_n 0, 1) := by decide +kernel
theorem dL_trades_31 : decode cL_trades 31 = .ok (.iload_n 1, 1) := by decide +kernel
theorem dL_trades_32 : decode cL_trades 32 = .ok (.iload_n 2, 1) := by decide +kernel
theorem dL_trades_33 : decode cL_trades 33 = .ok (.invokestatic 264, 3) := by decide +kernel
theorem dL_trades_36 : decode cL_trades 36 = .ok (.lstore 8, 2) := by decide +kernel
theorem dL_trades_38 : decode cL_trades 38 = .ok (.lload 8, 2) := by decide +kernel
theorem dL_trades_40 : decode cL_trades 40 = .ok (.lconst 0, 1) := by decide +kernel
theorem dL_trades_41 : decode cL_trades 41 = .ok (.lcmp, 1) := by decide +kernel
theorem dL_trades_42 : decode cL_trades 42 = .ok (.ifCond .ge 67, 3) := by decide +kernel
theorem dL_trades_45 : decode cL_trades 45 = .ok (.aload_n 0, 1) := by decide +kernel
theorem dL_trades_46 : decode cL_trades 46 = .ok (.iload_n 1, 1) := by decide +kernel
theorem dL_trades_47 : decode cL_trades 47 = .ok (.invokestatic 218, 3) := by decide +kernel
theorem dL_trades_50 : decode cL_trades 50 = .ok (.iload 4, 2) := by decide +kernel
theorem dL_trades_52 : decode cL_trades 52 = .ok (.if_icmp .ne 55, 3) := by decide +kernel
theorem dL_trades_55 : decode cL_trades 55 = .ok (.aload_n 0, 1) := by decide +kernel
theorem dL_trades_56 : decode cL_trades 56 = .ok (.invokevirtual 260, 3) := by decide +kernel
theorem dL_trades_59 : decode cL_trades 59 = .ok (.lload 6, 2) := by decide +kernel
theorem dL_trades_61 : decode cL_trades 61 = .ok (.lcmp, 1) := by decide +kernel
theorem dL_trades_62 : decode cL_trades 62 = .ok (.ifCond .ne 45, 3) := by decide +kernel
theorem dL_trades_65 : decode cL_trades 65 = .ok (.iload_n 2, 1) := by decide +kernel
theorem dL_trades_66 : decode cL_trades 66 = .ok (.iload_n 3, 1) := by decide +kernel
theorem dL_trades_67 : decode cL_trades 67 = .ok (.if_icmp .le 15, 3) := by decide +kernel
theorem dL_trades_70 : decode cL_trades 70 = .ok (.lload 8, 2) := by decide +kernel
theorem dL_trades_72 : decode cL_trades 72 = .ok (.ldc2_w 129, 3) := by decide +kernel
theorem dL_trades_75 : decode cL_trades 75 = .ok (.lcmp, 1) := by decide +kernel
theorem dL_trades_76 : decode cL_trades 76 = .ok (.ifCond .ne 31, 3) := by decide +kernel
theorem dL_trades_79 : decode cL_trades 79 = .ok (.goto 24, 3) := by decide +kernel
theorem dL_trades_82 : decode cL_trades 82 = .ok (.lload 8, 2) := by decide +kernel
theorem dL_trades_84 : decode cL_trades 84 = .ok (.ldc2_w 131, 3) := by decide +kernel
theorem dL_trades_87 : decode cL_trades 87 = .ok (.lcmp, 1) := by decide +kernel
theorem dL_trades_88 : decode cL_trades 88 = .ok (.ifCond .ne 19, 3) := by decide +kernel
theorem dL_trades_91 : decode cL_trades 91 = .ok (.iload_n 2, 1) := by decide +kernel
theorem dL_trades_92 : decode cL_trades 92 = .ok (.i2l, 1) := by decide +kernel
theorem dL_trades_93 : decode cL_trades 93 = .ok (.iload 5, 2) := by decide +kernel
theorem dL_trades_95 : decode cL_trades 95 = .ok (.i2l, 1) := by decide +kernel
theorem dL_trades_96 : decode cL_trades 96 = .ok (.lmul, 1) := by decide +kernel
theorem dL_trades_97 : decode cL_trades 97 = .ok (.lload 6, 2) := by decide +kernel
theorem dL_trades_99 : decode cL_trades 99 = .ok (.lcmp, 1) := by decide +kernel
theorem dL_trades_100 : decode cL_trades 100 = .ok (.ifCond .le 7, 3) := by decide +kernel
theorem dL_trades_103 : decode cL_trades 103 = .ok (.iconst 1, 1) := by decide +kernel
theorem dL_trades_104 : decode cL_trades 104 = .ok (.goto 4, 3) := by decide +kernel
theorem dL_trades_107 : decode cL_trades 107 = .ok (.iconst 0, 1) := by decide +kernel
theorem dL_trades_108 : decode cL_trades 108 = .ok (.ireturn, 1) := by decide +kernel
theorem dL_trades_109 : decode cL_trades 109 = .ok (.iload_n 2, 1) := by decide +kernel
theorem dL_trades_110 : decode cL_trades 110 = .ok (.iload_n 3, 1) := by decide +kernel
theorem dL_trades_111 : decode cL_trades 111 = .ok (.if_icmp .gt 30, 3) := by decide +kernel
theorem dL_trades_114 : decode cL_trades 114 = .ok (.lload 8, 2) := by decide +kernel
theorem dL_trades_116 : decode cL_trades 116 = .ok (.lload 6, 2) := by decide +kernel
theorem dL_trades_118 : decode cL_trades 118 = .ok (.iload_n 2, 1) := by decide +kernel
theorem dL_trades_119 : decode cL_trades 119 = .ok (.i2l, 1) := by decide +kernel
theorem dL_trades_120 : decode cL_trades 120 = .ok (.iload 5, 2) := by decide +kernel
theorem dL_trades_122 : decode cL_trades 122 = .ok (.i2l, 1) := by decide +kernel
theorem dL_trades_123 : decode cL_trades 123 = .ok (.lmul, 1) := by decide +kernel
theorem dL_trades_124 : decode cL_trades 124 = .ok (.lsub, 1) := by decide +kernel
theorem dL_trades_125 : decode cL_trades 125 = .ok (.lcmp, 1) := by decide +kernel
theorem dL_trades_126 : decode cL_trades 126 = .ok (.ifCond .ne 15, 3) := by decide +kernel
theorem dL_trades_129 : decode cL_trades 129 = .ok (.aload_n 0, 1) := by decide +kernel
theorem dL_trades_130 : decode cL_trades 130 = .ok (.iload_n 1, 1) := by decide +kernel
theorem dL_trades_131 : decode cL_trades 131 = .ok (.invokestatic 218, 3) := by decide +kernel
theorem dL_trades_134 : decode cL_trades 134 = .ok (.iload 4, 2) := by decide +kernel
theorem dL_trades_136 : decode cL_trades 136 = .ok (.iload_n 2, 1) := by decide +kernel
theorem dL_trades_137 : decode cL_trades 137 = .ok (.iadd, 1) := by decide +kernel
theorem dL_trades_138 : decode cL_trades 138 = .ok (.if_icmp .eq 5, 3) := by decide +kernel
theorem dL_trades_141 : decode cL_trades 141 = .ok (.iconst 0, 1) := by decide +kernel
theorem dL_trades_142 : decode cL_trades 142 = .ok (.ireturn, 1) := by decide +kernel
theorem dL_trades_143 : decode cL_trades 143 = .ok (.iload_n 2, 1) := by decide +kernel
theorem dL_trades_144 : decode cL_trades 144 = .ok (.iconst 2, 1) := by decide +kernel
theorem dL_trades_145 : decode cL_trades 145 = .ok (.irem, 1) := by decide +kernel
theorem dL_trades_146 : decode cL_trades 146 = .ok (.ifCond .eq 25, 3) := by decide +kernel
theorem dL_trades_149 : decode cL_trades 149 = .ok (.aload_n 0, 1) := by decide +kernel
theorem dL_trades_150 : decode cL_trades 150 = .ok (.iload_n 1, 1) := by decide +kernel
theorem dL_trades_151 : decode cL_trades 151 = .ok (.iload_n 2, 1) := by decide +kernel
theorem dL_trades_152 : decode cL_trades 152 = .ok (.invokestatic 267, 3) := by decide +kernel
theorem dL_trades_155 : decode cL_trades 155 = .ok (.lload 6, 2) := by decide +kernel
theorem dL_trades_157 : decode cL_trades 157 = .ok (.lcmp, 1) := by decide +kernel
theorem dL_trades_158 : decode cL_trades 158 = .ok (.ifCond .ne 17, 3) := by decide +kernel
theorem dL_trades_161 : decode cL_trades 161 = .ok (.aload_n 0, 1) := by decide +kernel
theorem dL_trades_162 : decode cL_trades 162 = .ok (.iload_n 1, 1) := by decide +kernel
theorem dL_trades_163 : decode cL_trades 163 = .ok (.invokestatic 218, 3) := by decide +kernel
theorem dL_trades_166 : decode cL_trades 166 = .ok (.iload 4, 2) := by decide +kernel
theorem dL_trades_168 : decode cL_trades 168 = .ok (.if_icmp .ne 7, 3) := by decide +kernel
theorem dL_trades_171 : decode cL_trades 171 = .ok (.iconst 1, 1) := by decide +kernel
theorem dL_trades_172 : decode cL_trades 172 = .ok (.goto 4, 3) := by decide +kernel
theorem dL_trades_175 : decode cL_trades 175 = .ok (.iconst 0, 1) := by decide +kernel
theorem dL_trades_176 : decode cL_trades 176 = .ok (.ireturn, 1) := by decide +kernel
