theorem wk_L_13 : Cond.classLink RL 13 "java/lang/IllegalArgumentException" ∈ lw_tbl := az_t (i := 374) (by decide +kernel)
theorem wk_L_15 : Cond.classLink RL 15 "java/lang/IllegalStateException" ∈ lw_tbl := az_t (i := 375) (by decide +kernel)
theorem wk_L_21 : Cond.classLink RL 21 "java/lang/IndexOutOfBoundsException" ∈ lw_tbl := az_t (i := 418) (by decide +kernel)
theorem wk_L_48 : Cond.classLink RL 48 "java/lang/UnsupportedOperationException" ∈ lw_tbl := az_t (i := 478) (by decide +kernel)
theorem wk_L_85 : Cond.classLink RL 85 "java/util/NoSuchElementException" ∈ lw_tbl := az_t (i := 658) (by decide +kernel)
theorem wc_L_addReach : Cond.codeWith yL_addReach cL_addReach 8 (some FieldType.int) [(0, 16, 19, 13), (0, 16, 23, 15)] ∈ lw_tbl := az_t (i := 373) (by decide +kernel)
theorem Y_L_addReach : az_YH yL_addReach cL_addReach 8 (some FieldType.int) [(0, 16, 19, 13), (0, 16, 23, 15)] 7 := ⟨wc_L_addReach, wini_L, by decide +kernel, by decide +kernel⟩
theorem wc_L_areaOf : Cond.codeWith yL_areaOf cL_areaOf 4 (some FieldType.int) [(0, 9, 12, 21)] ∈ lw_tbl := az_t (i := 417) (by decide +kernel)
theorem Y_L_areaOf : az_YH yL_areaOf cL_areaOf 4 (some FieldType.int) [(0, 9, 12, 21)] 3 := ⟨wc_L_areaOf, wini_L, by decide +kernel, by decide +kernel⟩
theorem wc_L_volumeOf : Cond.codeWith yL_volumeOf cL_volumeOf 4 (some FieldType.int) [(0, 9, 12, 21)] ∈ lw_tbl := az_t (i := 425) (by decide +kernel)
theorem Y_L_volumeOf : az_YH yL_volumeOf cL_volumeOf 4 (some FieldType.int) [(0, 9, 12, 21)] 3 := ⟨wc_L_volumeOf, wini_L, by decide +kernel, by decide +kernel⟩
theorem wc_L_volumeBySteps : Cond.codeWith yL_volumeBySteps cL_volumeBySteps 4 (some FieldType.int) [(0, 9, 12, 21)] ∈ lw_tbl := az_t (i := 429) (by decide +kernel)
theorem Y_L_volumeBySteps : az_YH yL_volumeBySteps cL_volumeBySteps 4 (some FieldType.int) [(0, 9, 12, 21)] 3 := ⟨wc_L_volumeBySteps, wini_L, by decide +kernel, by decide +kernel⟩
theorem wc_L_levelOf : Cond.codeWith yL_levelOf cL_levelOf 4 (some FieldType.int) [(0, 9, 12, 21)] ∈ lw_tbl := az_t (i := 433) (by decide +kernel)
theorem Y_L_levelOf : az_YH yL_levelOf cL_levelOf 4 (some FieldType.int) [(0, 9, 12, 21)] 3 := ⟨wc_L_levelOf, wini_L, by decide +kernel, by decide +kernel⟩
theorem wc_L_lockfulOf : Cond.codeWith yL_lockfulOf cL_lockfulOf 4 (some FieldType.int) [(0, 9, 12, 21)] ∈ lw_tbl := az_t (i := 440) (by decide +kernel)
theorem Y_L_lockfulOf : az_YH yL_lockfulOf cL_lockfulOf 4 (some FieldType.int) [(0, 9, 12, 21)] 3 := ⟨wc_L_lockfulOf, wini_L, by decide +kernel, by decide +kernel⟩
theorem wc_L_lengthOf : Cond.codeWith yL_lengthOf cL_lengthOf 4 (some FieldType.int) [(0, 9, 12, 21)] ∈ lw_tbl := az_t (i := 452) (by decide +kernel)
theorem Y_L_lengthOf : az_YH yL_lengthOf cL_lengthOf 4 (some FieldType.int) [(0, 9, 12, 21)] 3 := ⟨wc_L_lengthOf, wini_L, by decide +kernel, by decide +kernel⟩
theorem wc_L_sillOf : Cond.codeWith yL_sillOf cL_sillOf 4 (some FieldType.int) [(0, 9, 12, 21)] ∈ lw_tbl := az_t (i := 459) (by decide +kernel)
theorem Y_L_sillOf : az_YH yL_sillOf cL_sillOf 4 (some FieldType.int) [(0, 9, 12, 21)] 3 := ⟨wc_L_sillOf, wini_L, by decide +kernel, by decide +kernel⟩
theorem wc_L_isFull : Cond.codeWith yL_isFull cL_isFull 4 (some FieldType.int) [(0, 16, 19, 21)] ∈ lw_tbl := az_t (i := 466) (by decide +kernel)
theorem Y_L_isFull : az_YH yL_isFull cL_isFull 4 (some FieldType.int) [(0, 16, 19, 21)] 3 := ⟨wc_L_isFull, wini_L, by decide +kernel, by decide +kernel⟩
theorem wc_L_turn : Cond.codeWith yL_turn cL_turn 4 (some FieldType.int) [(0, 16, 19, 21), (0, 16, 22, 48)] ∈ lw_tbl := az_t (i := 477) (by decide +kernel)
theorem Y_L_turn : az_YH yL_turn cL_turn 4 (some FieldType.int) [(0, 16, 19, 21), (0, 16, 22, 48)] 3 := ⟨wc_L_turn, wini_L, by decide +kernel, by decide +kernel⟩
theorem wc_L_waterThrough : Cond.codeWith yL_waterThrough cL_waterThrough 4 (some FieldType.int) [(0, 9, 12, 21)] ∈ lw_tbl := az_t (i := 514) (by decide +kernel)
theorem Y_L_waterThrough : az_YH yL_waterThrough cL_waterThrough 4 (some FieldType.int) [(0, 9, 12, 21)] 3 := ⟨wc_L_waterThrough, wini_L, by decide +kernel, by decide +kernel⟩
theorem wc_L_rain : Cond.codeWith yL_rain cL_rain 5 (some FieldType.int) [(0, 10, 13, 21), (0, 10, 17, 13)] ∈ lw_tbl := az_t (i := 521) (by decide +kernel)
theorem Y_L_rain : az_YH yL_rain cL_rain 5 (some FieldType.int) [(0, 10, 13, 21), (0, 10, 17, 13)] 4 := ⟨wc_L_rain, wini_L, by decide +kernel, by decide +kernel⟩
theorem wc_L_addBarge : Cond.codeWith yL_addBarge cL_addBarge 7 (some FieldType.int) [(0, 14, 17, 21), (0, 14, 21, 13), (0, 14, 25, 15), (0, 14, 29, 48)] ∈ lw_tbl := az_t (i := 529) (by decide +kernel)
theorem Y_L_addBarge : az_YH yL_addBarge cL_addBarge 7 (some FieldType.int) [(0, 14, 17, 21), (0, 14, 21, 13), (0, 14, 25, 15), (0, 14, 29, 48)] 6 := ⟨wc_L_addBarge, wini_L, by decide +kernel, by decide +kernel⟩
theorem wc_L_reachOf : Cond.codeWith yL_reachOf cL_reachOf 4 (some FieldType.int) [(0, 9, 12, 21)] ∈ lw_tbl := az_t (i := 575) (by decide +kernel)
theorem Y_L_reachOf : az_YH yL_reachOf cL_reachOf 4 (some FieldType.int) [(0, 9, 12, 21)] 3 := ⟨wc_L_reachOf, wini_L, by decide +kernel, by decide +kernel⟩
theorem wc_L_cargoOf : Cond.codeWith yL_cargoOf cL_cargoOf 4 (some FieldType.int) [(0, 9, 12, 21)] ∈ lw_tbl := az_t (i := 587) (by decide +kernel)
theorem Y_L_cargoOf : az_YH yL_cargoOf cL_cargoOf 4 (some FieldType.int) [(0, 9, 12, 21)] 3 := ⟨wc_L_cargoOf, wini_L, by decide +kernel, by decide +kernel⟩
theorem wc_L_draughtOf : Cond.codeWith yL_draughtOf cL_draughtOf 4 (some FieldType.int) [(0, 9, 12, 21)] ∈ lw_tbl := az_t (i := 594) (by decide +kernel)
theorem Y_L_draughtOf : az_YH yL_draughtOf cL_draughtOf 4 (some FieldType.int) [(0, 9, 12, 21)] 3 := ⟨wc_L_draughtOf, wini_L, by decide +kernel, by decide +kernel⟩
theorem wc_L_isAfloat : Cond.codeWith yL_isAfloat cL_isAfloat 4 (some FieldType.int) [(0, 16, 19, 21)] ∈ lw_tbl := az_t (i := 609) (by decide +kernel)
theorem Y_L_isAfloat : az_YH yL_isAfloat cL_isAfloat 4 (some FieldType.int) [(0, 16, 19, 21)] 3 := ⟨wc_L_isAfloat, wini_L, by decide +kernel, by decide +kernel⟩
theorem wc_L_couple : Cond.codeWith yL_couple cL_couple 5 (some FieldType.int) [(0, 10, 13, 21), (0, 10, 17, 13), (0, 10, 21, 15)] ∈ lw_tbl := az_t (i := 621) (by decide +kernel)
theorem Y_L_couple : az_YH yL_couple cL_couple 5 (some FieldType.int) [(0, 10, 13, 21), (0, 10, 17, 13), (0, 10, 21, 15)] 4 := ⟨wc_L_couple, wini_L, by decide +kernel, by decide +kernel⟩
theorem wc_L_uncouple : Cond.codeWith yL_uncouple cL_uncouple 4 (some FieldType.int) [(0, 9, 12, 21), (0, 9, 15, 15)] ∈ lw_tbl := az_t (i := 642) (by decide +kernel)
theorem Y_L_uncouple : az_YH yL_uncouple cL_uncouple 4 (some FieldType.int) [(0, 9, 12, 21), (0, 9, 15, 15)] 3 := ⟨wc_L_uncouple, wini_L, by decide +kernel, by decide +kernel⟩
theorem wc_L_convoySize : Cond.codeWith yL_convoySize cL_convoySize 4 (some FieldType.int) [(0, 9, 12, 21)] ∈ lw_tbl := az_t (i := 650) (by decide +kernel)
theorem Y_L_convoySize : az_YH yL_convoySize cL_convoySize 4 (some FieldType.int) [(0, 9, 12, 21)] 3 := ⟨wc_L_convoySize, wini_L, by decide +kernel, by decide +kernel⟩
theorem wc_L_convoyAt : Cond.codeWith yL_convoyAt cL_convoyAt 5 (some FieldType.int) [(0, 10, 13, 21), (0, 10, 17, 85)] ∈ lw_tbl := az_t (i := 657) (by decide +kernel)
theorem Y_L_convoyAt : az_YH yL_convoyAt cL_convoyAt 5 (some FieldType.int) [(0, 10, 13, 21), (0, 10, 17, 85)] 4 := ⟨wc_L_convoyAt, wini_L, by decide +kernel, by decide +kernel⟩
theorem wc_L_partsFor : Cond.codeWith yL_partsFor cL_partsFor 5 (some FieldType.int) [(0, 10, 13, 21), (0, 10, 17, 48)] ∈ lw_tbl := az_t (i := 681) (by decide +kernel)
theorem Y_L_partsFor : az_YH yL_partsFor cL_partsFor 5 (some FieldType.int) [(0, 10, 13, 21), (0, 10, 17, 48)] 4 := ⟨wc_L_partsFor, wini_L, by decide +kernel, by decide +kernel⟩
theorem wc_L_pass : Cond.codeWith yL_pass cL_pass 5 (some FieldType.int) [(0, 10, 13, 21), (0, 10, 17, 85), (0, 10, 21, 48)] ∈ lw_tbl := az_t (i := 702) (by decide +kernel)
theorem Y_L_pass : az_YH yL_pass cL_pass 5 (some FieldType.int) [(0, 10, 13, 21), (0, 10, 17, 85), (0, 10, 21, 48)] 4 := ⟨wc_L_pass, wini_L, by decide +kernel, by decide +kernel⟩
theorem wc_L_voyage : Cond.codeWith yL_voyage cL_voyage 5 (some FieldType.int) [(0, 10, 13, 21), (0, 10, 17, 15), (0, 10, 21, 48)] ∈ lw_tbl := az_t (i := 741) (by decide +kernel)
theorem Y_L_voyage : az_YH yL_voyage cL_voyage 5 (some FieldType.int) [(0, 10, 13, 21), (0, 10, 17, 15), (0, 10, 21, 48)] 4 := ⟨wc_L_voyage, wini_L, by decide +kernel, by decide +kernel⟩
theorem wc_L_isPossible : Cond.codeWith yL_isPossible cL_isPossible 5 (some FieldType.int) [(0, 17, 20, 21)] ∈ lw_tbl := az_t (i := 749) (by decide +kernel)
theorem Y_L_isPossible : az_YH yL_isPossible cL_isPossible 5 (some FieldType.int) [(0, 17, 20, 21)] 4 := ⟨wc_L_isPossible, wini_L, by decide +kernel, by decide +kernel⟩
theorem wc_L_waterFor : Cond.codeWith yL_waterFor cL_waterFor 5 (some FieldType.int) [(0, 10, 13, 21), (0, 10, 17, 48)] ∈ lw_tbl := az_t (i := 760) (by decide +kernel)
theorem Y_L_waterFor : az_YH yL_waterFor cL_waterFor 5 (some FieldType.int) [(0, 10, 13, 21), (0, 10, 17, 48)] 4 := ⟨wc_L_waterFor, wini_L, by decide +kernel, by decide +kernel⟩
theorem wc_L_refusalReason : Cond.codeWith yL_refusalReason cL_refusalReason 3 (some FieldType.int) [(0, 8, 11, 85)] ∈ lw_tbl := az_t (i := 772) (by decide +kernel)
theorem Y_L_refusalReason : az_YH yL_refusalReason cL_refusalReason 3 (some FieldType.int) [(0, 8, 11, 85)] 2 := ⟨wc_L_refusalReason, wini_L, by decide +kernel, by decide +kernel⟩
theorem wc_L_refusalLock : Cond.codeWith yL_refusalLock cL_refusalLock 3 (some FieldType.int) [(0, 8, 11, 85)] ∈ lw_tbl := az_t (i := 784) (by decide +kernel)
theorem Y_L_refusalLock : az_YH yL_refusalLock cL_refusalLock 3 (some FieldType.int) [(0, 8, 11, 85)] 2 := ⟨wc_L_refusalLock, wini_L, by decide +kernel, by decide +kernel⟩
theorem wc_L_priceIn : Cond.codeWith yL_priceIn cL_priceIn 4 (some FieldType.int) [(0, 9, 12, 21)] ∈ lw_tbl := az_t (i := 791) (by decide +kernel)
theorem Y_L_priceIn : az_YH yL_priceIn cL_priceIn 4 (some FieldType.int) [(0, 9, 12, 21)] 3 := ⟨wc_L_priceIn, wini_L, by decide +kernel, by decide +kernel⟩
theorem wc_L_buy : Cond.codeWith yL_buy cL_buy 5 (some FieldType.int) [(0, 9, 12, 21), (0, 9, 16, 13), (0, 9, 20, 48), (0, 9, 24, 15)] ∈ lw_tbl := az_t (i := 798) (by decide +kernel)
theorem Y_L_buy : az_YH yL_buy cL_buy 5 (some FieldType.int) [(0, 9, 12, 21), (0, 9, 16, 13), (0, 9, 20, 48), (0, 9, 24, 15)] 4 := ⟨wc_L_buy, wini_L, by decide +kernel, by decide +kernel⟩
theorem wc_L_sell : Cond.codeWith yL_sell cL_sell 5 (some FieldType.int) [(0, 9, 12, 21), (0, 9, 16, 13), (0, 9, 20, 15)] ∈ lw_tbl := az_t (i := 810) (by decide +kernel)
theorem Y_L_sell : az_YH yL_sell cL_sell 5 (some FieldType.int) [(0, 9, 12, 21), (0, 9, 16, 13), (0, 9, 20, 15)] 4 := ⟨wc_L_sell, wini_L, by decide +kernel, by decide +kernel⟩
theorem wc_L_sellToDraught : Cond.codeWith yL_sellToDraught cL_sellToDraught 5 (some FieldType.int) [(0, 10, 13, 21), (0, 10, 17, 13), (0, 10, 21, 15)] ∈ lw_tbl := az_t (i := 822) (by decide +kernel)
theorem Y_L_sellToDraught : az_YH yL_sellToDraught cL_sellToDraught 5 (some FieldType.int) [(0, 10, 13, 21), (0, 10, 17, 13), (0, 10, 21, 15)] 4 := ⟨wc_L_sellToDraught, wini_L, by decide +kernel, by decide +kernel⟩
theorem wc_L_greatestLoad : Cond.codeWith yL_greatestLoad cL_greatestLoad 4 (some FieldType.int) [(0, 9, 12, 21)] ∈ lw_tbl := az_t (i := 835) (by decide +kernel)
theorem Y_L_greatestLoad : az_YH yL_greatestLoad cL_greatestLoad 4 (some FieldType.int) [(0, 9, 12, 21)] 3 := ⟨wc_L_greatestLoad, wini_L, by decide +kernel, by decide +kernel⟩
theorem wc_L_worthIn : Cond.codeWith yL_worthIn cL_worthIn 5 (some FieldType.int) [(0, 10, 13, 21)] ∈ lw_tbl := az_t (i := 842) (by decide +kernel)
theorem Y_L_worthIn : az_YH yL_worthIn cL_worthIn 5 (some FieldType.int) [(0, 10, 13, 21)] 4 := ⟨wc_L_worthIn, wini_L, by decide +kernel, by decide +kernel⟩
theorem wc_L_bestReach : Cond.codeWith yL_bestReach cL_bestReach 4 (some FieldType.int) [(0, 9, 12, 21)] ∈ lw_tbl := az_t (i := 849) (by decide +kernel)
theorem Y_L_bestReach : az_YH yL_bestReach cL_bestReach 4 (some FieldType.int) [(0, 9, 12, 21)] 3 := ⟨wc_L_bestReach, wini_L, by decide +kernel, by decide +kernel⟩
theorem wc_L_movementFrom : Cond.codeWith yL_movementFrom cL_movementFrom 4 (some FieldType.int) [(0, 9, 12, 21)] ∈ lw_tbl := az_t (i := 856) (by decide +kernel)
theorem Y_L_movementFrom : az_YH yL_movementFrom cL_movementFrom 4 (some FieldType.int) [(0, 9, 12, 21)] 3 := ⟨wc_L_movementFrom, wini_L, by decide +kernel, by decide +kernel⟩
theorem wc_L_movementTo : Cond.codeWith yL_movementTo cL_movementTo 4 (some FieldType.int) [(0, 9, 12, 21)] ∈ lw_tbl := az_t (i := 868) (by decide +kernel)
theorem Y_L_movementTo : az_YH yL_movementTo cL_movementTo 4 (some FieldType.int) [(0, 9, 12, 21)] 3 := ⟨wc_L_movementTo, wini_L, by decide +kernel, by decide +kernel⟩
theorem wc_L_movementVolume : Cond.codeWith yL_movementVolume cL_movementVolume 4 (some FieldType.int) [(0, 9, 12, 21)] ∈ lw_tbl := az_t (i := 875) (by decide +kernel)
theorem Y_L_movementVolume : az_YH yL_movementVolume cL_movementVolume 4 (some FieldType.int) [(0, 9, 12, 21)] 3 := ⟨wc_L_movementVolume, wini_L, by decide +kernel, by decide +kernel⟩
theorem wc_L_writeReach : Cond.codeWith yL_writeReach cL_writeReach 4 (some FieldType.int) [(0, 9, 12, 21)] ∈ lw_tbl := az_t (i := 882) (by decide +kernel)
theorem Y_L_writeReach : az_YH yL_writeReach cL_writeReach 4 (some FieldType.int) [(0, 9, 12, 21)] 3 := ⟨wc_L_writeReach, wini_L, by decide +kernel, by decide +kernel⟩
theorem wc_L_lineAt : Cond.codeWith yL_lineAt cL_lineAt 4 (some FieldType.int) [(0, 9, 12, 21)] ∈ lw_tbl := az_t (i := 1185) (by decide +kernel)
theorem Y_L_lineAt : az_YH yL_lineAt cL_lineAt 4 (some FieldType.int) [(0, 9, 12, 21)] 3 := ⟨wc_L_lineAt, wini_L, by decide +kernel, by decide +kernel⟩
theorem dL_addReach_0 : decode cL_addReach 0 = .ok (.aload 6, 2) := by decide +kernel
theorem dL_addReach_2 : decode cL_addReach 2 = .ok (.iconst 0, 1) := by decide +kernel
theorem dL_addReach_3 : decode cL_addReach 3 = .ok (.aload_n 0, 1) := by decide +kernel
theorem dL_addReach_4 : decode cL_addReach 4 = .ok (.iload_n 1, 1) := by decide +kernel
theorem dL_addReach_5 : decode cL_addReach 5 = .ok (.iload_n 2, 1) := by decide +kernel
theorem dL_addReach_6 : decode cL_addReach 6 = .ok (.iload_n 3, 1) := by decide +kernel
theorem dL_addReach_7 : decode cL_addReach 7 = .ok (.iload 4, 2) := by decide +kernel
theorem dL_addReach_9 : decode cL_addReach 9 = .ok (.iload 5, 2) := by decide +kernel
theorem dL_addReach_11 : decode cL_addReach 11 = .ok (.invokevirtual 7, 3) := by decide +kernel
theorem dL_addReach_14 : decode cL_addReach 14 = .ok (.i2l, 1) := by decide +kernel
theorem dL_addReach_15 : decode cL_addReach 15 = .ok (.lastore, 1) := by decide +kernel
theorem dL_addReach_16 : decode cL_addReach 16 = .ok (.goto 11, 3) := by decide +kernel
theorem dL_addReach_19 : decode cL_addReach 19 = .ok (.astore 7, 2) := by decide +kernel
theorem dL_addReach_21 : decode cL_addReach 21 = .ok (.iconst 1, 1) := by decide +kernel
theorem dL_addReach_22 : decode cL_addReach 22 = .ok (.ireturn, 1) := by decide +kernel
theorem dL_addReach_23 : decode cL_addReach 23 = .ok (.astore 7, 2) := by decide +kernel
theorem dL_addReach_25 : decode cL_addReach 25 = .ok (.iconst 2, 1) := by decide +kernel
theorem dL_addReach_26 : decode cL_addReach 26 = .ok (.ireturn, 1) := by decide +kernel
theorem dL_addReach_27 : decode cL_addReach 27 = .ok (.iconst 0, 1) := by decide +kernel
theorem dL_addReach_28 : decode cL_addReach 28 = .ok (.ireturn, 1) := by decide +kernel
theorem dL_areaOf_0 : decode cL_areaOf 0 = .ok (.aload_n 2, 1) := by decide +kernel
theorem dL_areaOf_1 : decode cL_areaOf 1 = .ok (.iconst 0, 1) := by decide +kernel
theorem dL_areaOf_2 : decode cL_areaOf 2 = .ok (.aload_n 0, 1) := by decide +kernel
theorem dL_areaOf_3 : decode cL_areaOf 3 = .ok (.iload_n 1, 1) := by decide +kernel
theorem dL_areaOf_4 : decode cL_areaOf 4 = .ok (.invokevirtual 17, 3) := by decide +kernel
theorem dL_areaOf_7 : decode cL_areaOf 7 = .ok (.i2l, 1) := by decide +kernel
theorem dL_areaOf_8 : decode cL_areaOf 8 = .ok (.lastore, 1) := by decide +kernel
theorem dL_areaOf_9 : decode cL_areaOf 9 = .ok (.goto 6, 3) := by decide +kernel
theorem dL_areaOf_12 : decode cL_areaOf 12 = .ok (.astore_n 3, 1) := by decide +kernel
theorem dL_areaOf_13 : decode cL_areaOf 13 = .ok (.iconst 1, 1) := by decide +kernel
theorem dL_areaOf_14 : decode cL_areaOf 14 = .ok (.ireturn, 1) := by decide +kernel
theorem dL_areaOf_15 : decode cL_areaOf 15 = .ok (.iconst 0, 1) := by decide +kernel
theorem dL_areaOf_16 : decode cL_areaOf 16 = .ok (.ireturn, 1) := by decide +kernel
theorem dL_volumeOf_0 : decode cL_volumeOf 0 = .ok (.aload_n 2, 1) := by decide +kernel
theorem dL_volumeOf_1 : decode cL_volumeOf 1 = .ok (.iconst 0, 1) := by decide +kernel
theorem dL_volumeOf_2 : decode cL_volumeOf 2 = .ok (.aload_n 0, 1) := by decide +kernel
theorem dL_volumeOf_3 : decode cL_volumeOf 3 = .ok (.iload_n 1, 1) := by decide +kernel
theorem dL_volumeOf_4 : decode cL_volumeOf 4 = .ok (.invokevirtual 23, 3) := by decide +kernel
theorem dL_volumeOf_7 : decode cL_volumeOf 7 = .ok (.i2l, 1) := by decide +kernel
theorem dL_volumeOf_8 : decode cL_volumeOf 8 = .ok (.lastore, 1) := by decide +kernel
theorem dL_volumeOf_9 : decode cL_volumeOf 9 = .ok (.goto 6, 3) := by decide +kernel
theorem dL_volumeOf_12 : decode cL_volumeOf 12 = .ok (.astore_n 3, 1) := by decide +kernel
theorem dL_volumeOf_13 : decode cL_volumeOf 13 = .ok (.iconst 1, 1) := by decide +kernel
theorem dL_volumeOf_14 : decode cL_volumeOf 14 = .ok (.ireturn, 1) := by decide +kernel
theorem dL_volumeOf_15 : decode cL_volumeOf 15 = .ok (.iconst 0, 1) := by decide +kernel
theorem dL_volumeOf_16 : decode cL_volumeOf 16 = .ok (.ireturn, 1) := by decide +kernel
theorem dL_volumeBySteps_0 : decode cL_volumeBySteps 0 = .ok (.aload_n 2, 1) := by decide +kernel
theorem dL_volumeBySteps_1 : decode cL_volumeBySteps 1 = .ok (.iconst 0, 1) := by decide +kernel
theorem dL_volumeBySteps_2 : decode cL_volumeBySteps 2 = .ok (.aload_n 0, 1) := by decide +kernel
theorem dL_volumeBySteps_3 : decode cL_volumeBySteps 3 = .ok (.iload_n 1, 1) := by decide +kernel
theorem dL_volumeBySteps_4 : decode cL_volumeBySteps 4 = .ok (.invokevirtual 26, 3) := by decide +kernel
theorem dL_volumeBySteps_7 : decode cL_volumeBySteps 7 = .ok (.i2l, 1) := by decide +kernel
theorem dL_volumeBySteps_8 : decode cL_volumeBySteps 8 = .ok (.lastore, 1) := by decide +kernel
theorem dL_volumeBySteps_9 : decode cL_volumeBySteps 9 = .ok (.goto 6, 3) := by decide +kernel
theorem dL_volumeBySteps_12 : decode cL_volumeBySteps 12 = .ok (.astore_n 3, 1) := by decide +kernel
theorem dL_volumeBySteps_13 : decode cL_volumeBySteps 13 = .ok (.iconst 1, 1) := by decide +kernel
theorem dL_volumeBySteps_14 : decode cL_volumeBySteps 14 = .ok (.ireturn, 1) := by decide +kernel
theorem dL_volumeBySteps_15 : decode cL_volumeBySteps 15 = .ok (.iconst 0, 1) := by decide +kernel
theorem dL_volumeBySteps_16 : decode cL_volumeBySteps 16 = .ok (.ireturn, 1) := by decide +kernel
theorem dL_levelOf_0 : decode cL_levelOf 0 = .ok (.aload_n 2, 1) := by decide +kernel
theorem dL_levelOf_1 : decode cL_levelOf 1 = .ok (.iconst 0, 1) := by decide +kernel
theorem dL_levelOf_2 : decode cL_levelOf 2 = .ok (.aload_n 0, 1) := by decide +kernel
theorem dL_levelOf_3 : decode cL_levelOf 3 = .ok (.iload_n 1, 1) := by decide +kernel
theorem dL_levelOf_4 : decode cL_levelOf 4 = .ok (.invokevirtual 29, 3) := by decide +kernel
theorem dL_levelOf_7 : decode cL_levelOf 7 = .ok (.i2l, 1) := by decide +kernel
theorem dL_levelOf_8 : decode cL_levelOf 8 = .ok (.lastore, 1) := by decide +kernel
theorem dL_levelOf_9 : decode cL_levelOf 9 = .ok (.goto 6, 3) := by decide +kernel
theorem dL_levelOf_12 : decode cL_levelOf 12 = .ok (.astore_n 3, 1) := by decide +kernel
theorem dL_levelOf_13 : decode cL_levelOf 13 = .ok (.iconst 1, 1) := by decide +kernel
theorem dL_levelOf_14 : decode cL_levelOf 14 = .ok (.ireturn, 1) := by decide +kernel
theorem dL_levelOf_15 : decode cL_levelOf 15 = .ok (.iconst 0, 1) := by decide +kernel
theorem dL_levelOf_16 : decode cL_levelOf 16 = .ok (.ireturn, 1) := by decide +kernel
theorem dL_lockfulOf_0 : decode cL_lockfulOf 0 = .ok (.aload_n 2, 1) := by decide +kernel
theorem dL_lockfulOf_1 : decode cL_lockfulOf 1 = .ok (.iconst 0, 1) := by decide +kernel
theorem dL_lockfulOf_2 : decode cL_lockfulOf 2 = .ok (.aload_n 0, 1) := by decide +kernel
theorem dL_lockfulOf_3 : decode cL_lockfulOf 3 = .ok (.iload_n 1, 1) := by decide +kernel
theorem dL_lockfulOf_4 : decode cL_lockfulOf 4 = .ok (.invokevirtual 32, 3) := by decide +kernel
theorem dL_lockfulOf_7 : decode cL_lockfulOf 7 = .ok (.i2l, 1) := by decide +kernel
theorem dL_lockfulOf_8 : decode cL_lockfulOf 8 = .ok (.lastore, 1) := by decide +kernel
theorem dL_lockfulOf_9 : decode cL_lockfulOf 9 = .ok (.goto 6, 3) := by decide +kernel
theorem dL_lockfulOf_12 : decode cL_lockfulOf 12 = .ok (.astore_n 3, 1) := by decide +kernel
theorem dL_lockfulOf_13 : decode cL_lockfulOf 13 = .ok (.iconst 1, 1) := by decide +kernel
theorem dL_lockfulOf_14 : decode cL_lockfulOf 14 = .ok (.ireturn, 1) := by decide +kernel
theorem dL_lockfulOf_15 : decode cL_lockfulOf 15 = .ok (.iconst 0, 1) := by decide +kernel
theorem dL_lockfulOf_16 : decode cL_lockfulOf 16 = .ok (.ireturn, 1) := by decide +kernel
theorem dL_lengthOf_0 : decode cL_lengthOf 0 = .ok (.aload_n 2, 1) := by decide +kernel
theorem dL_lengthOf_1 : decode cL_lengthOf 1 = .ok (.iconst 0, 1) := by decide +kernel
theorem dL_lengthOf_2 : decode cL_lengthOf 2 = .ok (.aload_n 0, 1) := by decide +kernel
theorem dL_lengthOf_3 : decode cL_lengthOf 3 = .ok (.iload_n 1, 1) := by decide +kernel
theorem dL_lengthOf_4 : decode cL_lengthOf 4 = .ok (.invokevirtual 35, 3) := by decide +kernel
theorem dL_lengthOf_7 : decode cL_lengthOf 7 = .ok (.i2l, 1) := by decide +kernel
theorem dL_lengthOf_8 : decode cL_lengthOf 8 = .ok (.lastore, 1) := by decide +kernel
theorem dL_lengthOf_9 : decode cL_lengthOf 9 = .ok (.goto 6, 3) := by decide +kernel
theorem dL_lengthOf_12 : decode cL_lengthOf 12 = .ok (.astore_n 3, 1) := by decide +kernel
theorem dL_lengthOf_13 : decode cL_lengthOf 13 = .ok (.iconst 1, 1) := by decide +kernel
theorem dL_lengthOf_14 : decode cL_lengthOf 14 = .ok (.ireturn, 1) := by decide +kernel
theorem dL_lengthOf_15 : decode cL_lengthOf 15 = .ok (.iconst 0, 1) := by decide +kernel
theorem dL_lengthOf_16 : decode cL_lengthOf 16 = .ok (.ireturn, 1) := by decide +kernel
theorem dL_sillOf_0 : decode cL_sillOf 0 = .ok (.aload_n 2, 1) := by decide +kernel
theorem dL_sillOf_1 : decode cL_sillOf 1 = .ok (.iconst 0, 1) := by decide +kernel
theorem dL_sillOf_2 : decode cL_sillOf 2 = .ok (.aload_n 0, 1) := by decide +kernel
theorem dL_sillOf_3 : decode cL_sillOf 3 = .ok (.iload_n 1, 1) := by decide +kernel
theorem dL_sillOf_4 : decode cL_sillOf 4 = .ok (.invokevirtual 38, 3) := by decide +kernel
theorem dL_sillOf_7 : decode cL_sillOf 7 = .ok (.i2l, 1) := by decide +kernel
theorem dL_sillOf_8 : decode cL_sillOf 8 = .ok (.lastore, 1) := by decide +kernel
theorem dL_sillOf_9 : decode cL_sillOf 9 = .ok (.goto 6, 3) := by decide +kernel
theorem dL_sillOf_12 : decode cL_sillOf 12 = .ok (.astore_n 3, 1) := by decide +kernel
theorem dL_sillOf_13 : decode cL_sillOf 13 = .ok (.iconst 1, 1) := by decide +kernel
theorem dL_sillOf_14 : decode cL_sillOf 14 = .ok (.ireturn, 1) := by decide +kernel
theorem dL_sillOf_15 : decode cL_sillOf 15 = .ok (.iconst 0, 1) := by decide +kernel
theorem dL_sillOf_16 : decode cL_sillOf 16 = .ok (.ireturn, 1) := by decide +kernel
theorem dL_isFull_0 : decode cL_isFull 0 = .ok (.aload_n 2, 1) := by decide +kernel
theorem dL_isFull_1 : decode cL_isFull 1 = .ok (.iconst 0, 1) := by decide +kernel
theorem dL_isFull_2 : decode cL_isFull 2 = .ok (.aload_n 0, 1) := by decide +kernel
theorem dL_isFull_3 : decode cL_isFull 3 = .ok (.iload_n 1, 1) := by decide +kernel
theorem dL_isFull_4 : decode cL_isFull 4 = .ok (.invokevirtual 41, 3) := by decide +kernel
theorem dL_isFull_7 : decode cL_isFull 7 = .ok (.ifCond .eq 7, 3) := by decide +kernel
theorem dL_isFull_10 : decode cL_isFull 10 = .ok (.lconst 1, 1) := by decide +kernel
theorem dL_isFull_11 : decode cL_isFull 11 = .ok (.goto 4, 3) := by decide +kernel
theorem dL_isFull_14 : decode cL_isFull 14 = .ok (.lconst 0, 1) := by decide +kernel
theorem dL_isFull_15 : decode cL_isFull 15 = .ok (.lastore, 1) := by decide +kernel
theorem dL_isFull_16 : decode cL_isFull 16 = .ok (.goto 6, 3) := by decide +kernel
theorem dL_isFull_19 : decode cL_isFull 19 = .ok (.astore_n 3, 1) := by decide +kernel
theorem dL_isFull_20 : decode cL_isFull 20 = .ok (.iconst 1, 1) := by decide +kernel
theorem dL_isFull_21 : decode cL_isFull 21 = .ok (.ireturn, 1) := by decide +kernel
theorem dL_isFull_22 : decode cL_isFull 22 = .ok (.iconst 0, 1) := by decide +kernel
theorem dL_isFull_23 : decode cL_isFull 23 = .ok (.ireturn, 1) := by decide +kernel
theorem dL_turn_0 : decode cL_turn 0 = .ok (.aload_n 2, 1) := by decide +kernel
theorem dL_turn_1 : decode cL_turn 1 = .ok (.iconst 0, 1) := by decide +kernel
theorem dL_turn_2 : decode cL_turn 2 = .ok (.aload_n 0, 1) := by decide +kernel
theorem dL_turn_3 : decode cL_turn 3 = .ok (.iload_n 1, 1) := by decide +kernel
theorem dL_turn_4 : decode cL_turn 4 = .ok (.invokevirtual 45, 3) := by decide +kernel
theorem dL_turn_7 : decode cL_turn 7 = .ok (.ifCond .eq 7, 3) := by decide +kernel
theorem dL_turn_10 : decode cL_turn 10 = .ok (.lconst 1, 1) := by decide +kernel
theorem dL_turn_11 : decode cL_turn 11 = .ok (.goto 4, 3) := by decide +kernel
theorem dL_turn_14 : decode cL_turn 14 = .ok (.lconst 0, 1) := by decide +kernel
theorem dL_turn_15 : decode cL_turn 15 = .ok (.lastore, 1) := by decide +kernel
theorem dL_turn_16 : decode cL_turn 16 = .ok (.goto 9, 3) := by decide +kernel
theorem dL_turn_19 : decode cL_turn 19 = .ok (.astore_n 3, 1) := by decide +kernel
theorem dL_turn_20 : decode cL_turn 20 = .ok (.iconst 1, 1) := by decide +kernel
theorem dL_turn_21 : decode cL_turn 21 = .ok (.ireturn, 1) := by decide +kernel
theorem dL_turn_22 : decode cL_turn 22 = .ok (.astore_n 3, 1) := by decide +kernel
theorem dL_turn_23 : decode cL_turn 23 = .ok (.iconst 2, 1) := by decide +kernel
theorem dL_turn_24 : decode cL_turn 24 = .ok (.ireturn, 1) := by decide +kernel
theorem dL_turn_25 : decode cL_turn 25 = .ok (.iconst 0, 1) := by decide +kernel
theorem dL_turn_26 : decode cL_turn 26 = .ok (.ireturn, 1) := by decide +kernel
theorem dL_waterThrough_0 : decode cL_waterThrough 0 = .ok (.aload_n 2, 1) := by decide +kernel
theorem dL_waterThrough_1 : decode cL_waterThrough 1 = .ok (.iconst 0, 1) := by decide +kernel
theorem dL_waterThrough_2 : decode cL_waterThrough 2 = .ok (.aload_n 0, 1) := by decide +kernel
theorem dL_waterThrough_3 : decode cL_waterThrough 3 = .ok (.iload_n 1, 1) := by decide +kernel
theorem dL_waterThrough_4 : decode cL_waterThrough 4 = .ok (.invokevirtual 50, 3) := by decide +kernel
theorem dL_waterThrough_7 : decode cL_waterThrough 7 = .ok (.i2l, 1) := by decide +kernel
theorem dL_waterThrough_8 : decode cL_waterThrough 8 = .ok (.lastore, 1) := by decide +kernel
theorem dL_waterThrough_9 : decode cL_waterThrough 9 = .ok (.goto 6, 3) := by decide +kernel
theorem dL_waterThrough_12 : decode cL_waterThrough 12 = .ok (.astore_n 3, 1) := by decide +kernel
theorem dL_waterThrough_13 : decode cL_waterThrough 13 = .ok (.iconst 1, 1) := by decide +kernel
theorem dL_waterThrough_14 : decode cL_waterThrough 14 = .ok (.ireturn, 1) := by decide +kernel
theorem dL_waterThrough_15 : decode cL_waterThrough 15 = .ok (.iconst 0, 1) := by decide +kernel
theorem dL_waterThrough_16 : decode cL_waterThrough 16 = .ok (.ireturn, 1) := by decide +kernel
theorem dL_rain_0 : decode cL_rain 0 = .ok (.aload_n 3, 1) := by decide +kernel
theorem dL_rain_1 : decode cL_rain 1 = .ok (.iconst 0, 1) := by decide +kernel
theorem dL_rain_2 : decode cL_rain 2 = .ok (.aload_n 0, 1) := by decide +kernel
theorem dL_rain_3 : decode cL_rain 3 = .ok (.iload_n 1, 1) := by decide +kernel
theorem dL_rain_4 : decode cL_rain 4 = .ok (.iload_n 2, 1) := by decide +kernel
theorem dL_rain_5 : decode cL_rain 5 = .ok (.invokevirtual 53, 3) := by decide +kernel
theorem dL_rain_8 : decode cL_rain 8 = .ok (.i2l, 1) := by decide +kernel
theorem dL_rain_9 : decode cL_rain 9 = .ok (.lastore, 1) := by decide +kernel
theorem dL_rain_10 : decode cL_rain 10 = .ok (.goto 11, 3) := by decide +kernel
theorem dL_rain_13 : decode cL_rain 13 = .ok (.astore 4, 2) := by decide +kernel
theorem dL_rain_15 : decode cL_rain 15 = .ok (.iconst 1, 1) := by decide +kernel
theorem dL_rain_16 : decode cL_rain 16 = .ok (.ireturn, 1) := by decide +kernel
theorem dL_rain_17 : decode cL_rain 17 = .ok (.astore 4, 2) := by decide +kernel
theorem dL_rain_19 : decode cL_rain 19 = .ok (.iconst 2, 1) := by decide +kernel
theorem dL_rain_20 : decode cL_rain 20 = .ok (.ireturn, 1) := by decide +kernel
theorem dL_rain_21 : decode cL_rain 21 = .ok (.iconst 0, 1) := by decide +kernel
theorem dL_rain_22 : decode cL_rain 22 = .ok (.ireturn, 1) := by decide +kernel
theorem dL_addBarge_0 : decode cL_addBarge 0 = .ok (.aload 5, 2) := by decide +kernel
theorem dL_addBarge_2 : decode cL_addBarge 2 = .ok (.iconst 0, 1) := by decide +kernel
theorem dL_addBarge_3 : decode cL_addBarge 3 = .ok (.aload_n 0, 1) := by decide +kernel
theorem dL_addBarge_4 : decode cL_addBarge 4 = .ok (.iload_n 1, 1) := by decide +kernel
theorem dL_addBarge_5 : decode cL_addBarge 5 = .ok (.iload_n 2, 1) := by decide +kernel
theorem dL_addBarge_6 : decode cL_addBarge 6 = .ok (.iload_n 3, 1) := by decide +kernel
theorem dL_addBarge_7 : decode cL_addBarge 7 = .ok (.iload 4, 2) := by decide +kernel
theorem dL_addBarge_9 : decode cL_addBarge 9 = .ok (.invokevirtual 57, 3) := by decide +kernel
theorem dL_addBarge_12 : decode cL_addBarge 12 = .ok (.i2l, 1) := by decide +kernel
theorem dL_addBarge_13 : decode cL_addBarge 13 = .ok (.lastore, 1) := by decide +kernel
theorem dL_addBarge_14 : decode cL_addBarge 14 = .ok (.goto 19, 3) := by decide +kernel
theorem dL_addBarge_17 : decode cL_addBarge 17 = .ok (.astore 6, 2) := by decide +kernel
theorem dL_addBarge_19 : decode cL_addBarge 19 = .ok (.iconst 1, 1) := by decide +kernel
theorem dL_addBarge_20 : decode cL_addBarge 20 = .ok (.ireturn, 1) := by decide +kernel
theorem dL_addBarge_21 : decode cL_addBarge 21 = .ok (.astore 6, 2) := by decide +kernel
theorem dL_addBarge_23 : decode cL_addBarge 23 = .ok (.iconst 2, 1) := by decide +kernel
theorem dL_addBarge_24 : decode cL_addBarge 24 = .ok (.ireturn, 1) := by decide +kernel
theorem dL_addBarge_25 : decode cL_addBarge 25 = .ok (.astore 6, 2) := by decide +kernel
theorem dL_addBarge_27 : decode cL_addBarge 27 = .ok (.iconst 3, 1) := by decide +kernel
theorem dL_addBarge_28 : decode cL_addBarge 28 = .ok (.ireturn, 1) := by decide +kernel
theorem dL_addBarge_29 : decode cL_addBarge 29 = .ok (.astore 6, 2) := by decide +kernel
theorem dL_addBarge_31 : decode cL_addBarge 31 = .ok (.iconst 4, 1) := by decide +kernel
theorem dL_addBarge_32 : decode cL_addBarge 32 = .ok (.ireturn, 1) := by decide +kernel
theorem dL_addBarge_33 : decode cL_addBarge 33 = .ok (.iconst 0, 1) := by decide +kernel
theorem dL_addBarge_34 : decode cL_addBarge 34 = .ok (.ireturn, 1) := by decide +kernel
theorem dL_reachOf_0 : decode cL_reachOf 0 = .ok (.aload_n 2, 1) := by decide +kernel
theorem dL_reachOf_1 : decode cL_reachOf 1 = .ok (.iconst 0, 1) := by decide +kernel
theorem dL_reachOf_2 : decode cL_reachOf 2 = .ok (.aload_n 0, 1) := by decide +kernel
theorem dL_reachOf_3 : decode cL_reachOf 3 = .ok (.iload_n 1, 1) := by decide +kernel
theorem dL_reachOf_4 : decode cL_reachOf 4 = .ok (.invokevirtual 61, 3) := by decide +kernel
theorem dL_reachOf_7 : decode cL_reachOf 7 = .ok (.i2l, 1) := by decide +kernel
theorem dL_reachOf_8 : decode cL_reachOf 8 = .ok (.lastore, 1) := by decide +kernel
theorem dL_reachOf_9 : decode cL_reachOf 9 = .ok (.goto 6, 3) := by decide +kernel
theorem dL_reachOf_12 : decode cL_reachOf 12 = .ok (.astore_n 3, 1) := by decide +kernel
theorem dL_reachOf_13 : decode cL_reachOf 13 = .ok (.iconst 1, 1) := by decide +kernel
theorem dL_reachOf_14 : decode cL_reachOf 14 = .ok (.ireturn, 1) := by decide +kernel
theorem dL_reachOf_15 : decode cL_reachOf 15 = .ok (.iconst 0, 1) := by decide +kernel
theorem dL_reachOf_16 : decode cL_reachOf 16 = .ok (.ireturn, 1) := by decide +kernel
theorem dL_cargoOf_0 : decode cL_cargoOf 0 = .ok (.aload_n 2, 1) := by decide +kernel
theorem dL_cargoOf_1 : decode cL_cargoOf 1 = .ok (.iconst 0, 1) := by decide +kernel
theorem dL_cargoOf_2 : decode cL_cargoOf 2 = .ok (.aload_n 0, 1) := by decide +kernel
theorem dL_cargoOf_3 : decode cL_cargoOf 3 = .ok (.iload_n 1, 1) := by decide +kernel
theorem dL_cargoOf_4 : decode cL_cargoOf 4 = .ok (.invokevirtual 64, 3) := by decide +kernel
theorem dL_cargoOf_7 : decode cL_cargoOf 7 = .ok (.i2l, 1) := by decide +kernel
theorem dL_cargoOf_8 : decode cL_cargoOf 8 = .ok (.lastore, 1) := by decide +kernel
theorem dL_cargoOf_9 : decode cL_cargoOf 9 = .ok (.goto 6, 3) := by decide +kernel
theorem dL_cargoOf_12 : decode cL_cargoOf 12 = .ok (.astore_n 3, 1) := by decide +kernel
theorem dL_cargoOf_13 : decode cL_cargoOf 13 = .ok (.iconst 1, 1) := by decide +kernel
theorem dL_cargoOf_14 : decode cL_cargoOf 14 = .ok (.ireturn, 1) := by decide +kernel
theorem dL_cargoOf_15 : decode cL_cargoOf 15 = .ok (.iconst 0, 1) := by decide +kernel
theorem dL_cargoOf_16 : decode cL_cargoOf 16 = .ok (.ireturn, 1) := by decide +kernel
theorem dL_draughtOf_0 : decode cL_draughtOf 0 = .ok (.aload_n 2, 1) := by decide +kernel
theorem dL_draughtOf_1 : decode cL_draughtOf 1 = .ok (.iconst 0, 1) := by decide +kernel
theorem dL_draughtOf_2 : decode cL_draughtOf 2 = .ok (.aload_n 0, 1) := by decide +kernel
theorem dL_draughtOf_3 : decode cL_draughtOf 3 = .ok (.iload_n 1, 1) := by decide +kernel
theorem dL_draughtOf_4 : decode cL_draughtOf 4 = .ok (.invokevirtual 67, 3) := by decide +kernel
theorem dL_draughtOf_7 : decode cL_draughtOf 7 = .ok (.i2l, 1) := by decide +kernel
theorem dL_draughtOf_8 : decode cL_draughtOf 8 = .ok (.lastore, 1) := by decide +kernel
theorem dL_draughtOf_9 : decode cL_draughtOf 9 = .ok (.goto 6, 3) := by decide +kernel
theorem dL_draughtOf_12 : decode cL_draughtOf 12 = .ok (.astore_n 3, 1) := by decide +kernel
theorem dL_draughtOf_13 : decode cL_draughtOf 13 = .ok (.iconst 1, 1) := by decide +kernel
theorem dL_draughtOf_14 : decode cL_draughtOf 14 = .ok (.ireturn, 1) := by decide +kernel
theorem dL_draughtOf_15 : decode cL_draughtOf 15 = .ok (.iconst 0, 1) := by decide +kernel
theorem dL_draughtOf_16 : decode cL_draughtOf 16 = .ok (.ireturn, 1) := by decide +kernel
theorem dL_isAfloat_0 : decode cL_isAfloat 0 = .ok (.aload_n 2, 1) := by decide +kernel
theorem dL_isAfloat_1 : decode cL_isAfloat 1 = .ok (.iconst 0, 1) := by decide +kernel
theorem dL_isAfloat_2 : decode cL_isAfloat 2 = .ok (.aload_n 0, 1) := by decide +kernel
theorem dL_isAfloat_3 : decode cL_isAfloat 3 = .ok (.iload_n 1, 1) := by decide +kernel
theorem dL_isAfloat_4 : decode cL_isAfloat 4 = .ok (.invokevirtual 70, 3) := by decide +kernel
theorem dL_isAfloat_7 : decode cL_isAfloat 7 = .ok (.ifCond .eq 7, 3) := by decide +kernel
theorem dL_isAfloat_10 : decode cL_isAfloat 10 = .ok (.lconst 1, 1) := by decide +kernel
theorem dL_isAfloat_11 : decode cL_isAfloat 11 = .ok (.goto 4, 3) := by decide +kernel
theorem dL_isAfloat_14 : decode cL_isAfloat 14 = .ok (.lconst 0, 1) := by decide +kernel
theorem dL_isAfloat_15 : decode cL_isAfloat 15 = .ok (.lastore, 1) := by decide +kernel
theorem dL_isAfloat_16 : decode cL_isAfloat 16 = .ok (.goto 6, 3) := by decide +kernel
theorem dL_isAfloat_19 : decode cL_isAfloat 19 = .ok (.astore_n 3, 1) := by decide +kernel
theorem dL_isAfloat_20 : decode cL_isAfloat 20 = .ok (.iconst 1, 1) := by decide +kernel
theorem dL_isAfloat_21 : decode cL_isAfloat 21 = .ok (.ireturn, 1) := by decide +kernel
theorem dL_isAfloat_22 : decode cL_isAfloat 22 = .ok (.iconst 0, 1) := by decide +kernel
theorem dL_isAfloat_23 : decode cL_isAfloat 23 = .ok (.ireturn, 1) := by decide +kernel
theorem dL_couple_0 : decode cL_couple 0 = .ok (.aload_n 3, 1) := by decide +kernel
theorem dL_couple_1 : decode cL_couple 1 = .ok (.iconst 0, 1) := by decide +kernel
theorem dL_couple_2 : decode cL_couple 2 = .ok (.aload_n 0, 1) := by decide +kernel
theorem dL_couple_3 : decode cL_couple 3 = .ok (.iload_n 1, 1) := by decide +kernel
theorem dL_couple_4 : decode cL_couple 4 = .ok (.iload_n 2, 1) := by decide +kernel
theorem dL_couple_5 : decode cL_couple 5 = .ok (.invokevirtual 73, 3) := by decide +kernel
theorem dL_couple_8 : decode cL_couple 8 = .ok (.i2l, 1) := by decide +kernel
theorem dL_couple_9 : decode cL_couple 9 = .ok (.lastore, 1) := by decide +kernel
theorem dL_couple_10 : decode cL_couple 10 = .ok (.goto 15, 3) := by decide +kernel
theorem dL_couple_13 : decode cL_couple 13 = .ok (.astore 4, 2) := by decide +kernel
theorem dL_couple_15 : decode cL_couple 15 = .ok (.iconst 1, 1) := by decide +kernel
theorem dL_couple_16 : decode cL_couple 16 = .ok (.ireturn, 1) := by decide +kernel
theorem dL_couple_17 : decode cL_couple 17 = .ok (.astore 4, 2) := by decide +kernel
theorem dL_couple_19 : decode cL_couple 19 = .ok (.iconst 2, 1) := by decide +kernel
theorem dL_couple_20 : decode cL_couple 20 = .ok (.ireturn, 1) := by decide +kernel
theorem dL_couple_21 : decode cL_couple 21 = .ok (.astore 4, 2) := by decide +kernel
theorem dL_couple_23 : decode cL_couple 23 = .ok (.iconst 3, 1) := by decide +kernel
theorem dL_couple_24 : decode cL_couple 24 = .ok (.ireturn, 1) := by decide +kernel
theorem dL_couple_25 : decode cL_couple 25 = .ok (.iconst 0, 1) := by decide +kernel
theorem dL_couple_26 : decode cL_couple 26 = .ok (.ireturn, 1) := by decide +kernel
theorem dL_uncouple_0 : decode cL_uncouple 0 = .ok (.aload_n 2, 1) := by decide +kernel
theorem dL_uncouple_1 : decode cL_uncouple 1 = .ok (.iconst 0, 1) := by decide +kernel
theorem dL_uncouple_2 : decode cL_uncouple 2 = .ok (.aload_n 0, 1) := by decide +kernel
theorem dL_uncouple_3 : decode cL_uncouple 3 = .ok (.iload_n 1, 1) := by decide +kernel
theorem dL_uncouple_4 : decode cL_uncouple 4 = .ok (.invokevirtual 76, 3) := by decide +kernel
theorem dL_uncouple_7 : decode cL_uncouple 7 = .ok (.i2l, 1) := by decide +kernel
theorem dL_uncouple_8 : decode cL_uncouple 8 = .ok (.lastore, 1) := by decide +kernel
theorem dL_uncouple_9 : decode cL_uncouple 9 = .ok (.goto 9, 3) := by decide +kernel
theorem dL_uncouple_12 : decode cL_uncouple 12 = .ok (.astore_n 3, 1) := by decide +kernel
theorem dL_uncouple_13 : decode cL_uncouple 13 = .ok (.iconst 1, 1) := by decide +kernel
theorem dL_uncouple_14 : decode cL_uncouple 14 = .ok (.ireturn, 1) := by decide +kernel
theorem dL_uncouple_15 : decode cL_uncouple 15 = .ok (.astore_n 3, 1) := by decide +kernel
theorem dL_uncouple_16 : decode cL_uncouple 16 = .ok (.iconst 2, 1) := by decide +kernel
theorem dL_uncouple_17 : decode cL_uncouple 17 = .ok (.ireturn, 1) := by decide +kernel
theorem dL_uncouple_18 : decode cL_uncouple 18 = .ok (.iconst 0, 1) := by decide +kernel
theorem dL_uncouple_19 : decode cL_uncouple 19 = .ok (.ireturn, 1) := by decide +kernel
theorem dL_convoySize_0 : decode cL_convoySize 0 = .ok (.aload_n 2, 1) := by decide +kernel
theorem dL_convoySize_1 : decode cL_convoySize 1 = .ok (.iconst 0, 1) := by decide +kernel
theorem dL_convoySize_2 : decode cL_convoySize 2 = .ok (.aload_n 0, 1) := by decide +kernel
theorem dL_convoySize_3 : decode cL_convoySize 3 = .ok (.iload_n 1, 1) := by decide +kernel
theorem dL_convoySize_4 : decode cL_convoySize 4 = .ok (.invokevirtual 79, 3) := by decide +kernel
theorem dL_convoySize_7 : decode cL_convoySize 7 = .ok (.i2l, 1) := by decide +kernel
theorem dL_convoySize_8 : decode cL_convoySize 8 = .ok (.lastore, 1) := by decide +kernel
theorem dL_convoySize_9 : decode cL_convoySize 9 = .ok (.goto 6, 3) := by decide +kernel
theorem dL_convoySize_12 : decode cL_convoySize 12 = .ok (.astore_n 3, 1) := by decide +kernel
theorem dL_convoySize_13 : decode cL_convoySize 13 = .ok (.iconst 1, 1) := by decide +kernel
theorem dL_convoySize_14 : decode cL_convoySize 14 = .ok (.ireturn, 1) := by decide +kernel
theorem dL_convoySize_15 : decode cL_convoySize 15 = .ok (.iconst 0, 1) := by decide +kernel
theorem dL_convoySize_16 : decode cL_convoySize 16 = .ok (.ireturn, 1) := by decide +kernel
theorem dL_convoyAt_0 : decode cL_convoyAt 0 = .ok (.aload_n 3, 1) := by decide +kernel
theorem dL_convoyAt_1 : decode cL_convoyAt 1 = .ok (.iconst 0, 1) := by decide +kernel
theorem dL_convoyAt_2 : decode cL_convoyAt 2 = .ok (.aload_n 0, 1) := by decide +kernel
theorem dL_convoyAt_3 : decode cL_convoyAt 3 = .ok (.iload_n 1, 1) := by decide +kernel
theorem dL_convoyAt_4 : decode cL_convoyAt 4 = .ok (.iload_n 2, 1) := by decide +kernel
theorem dL_convoyAt_5 : decode cL_convoyAt 5 = .ok (.invokevirtual 82, 3) := by decide +kernel
theorem dL_convoyAt_8 : decode cL_convoyAt 8 = .ok (.i2l, 1) := by decide +kernel
theorem dL_convoyAt_9 : decode cL_convoyAt 9 = .ok (.lastore, 1) := by decide +kernel
theorem dL_convoyAt_10 : decode cL_convoyAt 10 = .ok (.goto 11, 3) := by decide +kernel
theorem dL_convoyAt_13 : decode cL_convoyAt 13 = .ok (.astore 4, 2) := by decide +kernel
theorem dL_convoyAt_15 : decode cL_convoyAt 15 = .ok (.iconst 1, 1) := by decide +kernel
theorem dL_convoyAt_16 : decode cL_convoyAt 16 = .ok (.ireturn, 1) := by decide +kernel
theorem dL_convoyAt_17 : decode cL_convoyAt 17 = .ok (.astore 4, 2) := by decide +kernel
theorem dL_convoyAt_19 : decode cL_convoyAt 19 = .ok (.iconst 2, 1) := by decide +kernel
theorem dL_convoyAt_20 : decode cL_convoyAt 20 = .ok (.ireturn, 1) := by decide +kernel
theorem dL_convoyAt_21 : decode cL_convoyAt 21 = .ok (.iconst 0, 1) := by decide +kernel
theorem dL_convoyAt_22 : decode cL_convoyAt 22 = .ok (.ireturn, 1) := by decide +kernel
theorem dL_partsFor_0 : decode cL_partsFor 0 = .ok (.aload_n 3, 1) := by decide +kernel
theorem dL_partsFor_1 : decode cL_partsFor 1 = .ok (.iconst 0, 1) := by decide +kernel
theorem dL_partsFor_2 : decode cL_partsFor 2 = .ok (.aload_n 0, 1) := by decide +kernel
theorem dL_partsFor_3 : decode cL_partsFor 3 = .ok (.iload_n 1, 1) := by decide +kernel
theorem dL_partsFor_4 : decode cL_partsFor 4 = .ok (.iload_n 2, 1) := by decide +kernel
theorem dL_partsFor_5 : decode cL_partsFor 5 = .ok (.invokevirtual 87, 3) := by decide +kernel
theorem dL_partsFor_8 : decode cL_partsFor 8 = .ok (.i2l, 1) := by decide +kernel
theorem dL_partsFor_9 : decode cL_partsFor 9 = .ok (.lastore, 1) := by decide +kernel
theorem dL_partsFor_10 : decode cL_partsFor 10 = .ok (.goto 11, 3) := by decide +kernel
theorem dL_partsFor_13 : decode cL_partsFor 13 = .ok (.astore 4, 2) := by decide +kernel
theorem dL_partsFor_15 : decode cL_partsFor 15 = .ok (.iconst 1, 1) := by decide +kernel
theorem dL_partsFor_16 : decode cL_partsFor 16 = .ok (.ireturn, 1) := by decide +kernel
theorem dL_partsFor_17 : decode cL_partsFor 17 = .ok (.astore 4, 2) := by decide +kernel
theorem dL_partsFor_19 : decode cL_partsFor 19 = .ok (.iconst 2, 1) := by decide +kernel
theorem dL_partsFor_20 : decode cL_partsFor 20 = .ok (.ireturn, 1) := by decide +kernel
theorem dL_partsFor_21 : decode cL_partsFor 21 = .ok (.iconst 0, 1) := by decide +kernel
theorem dL_partsFor_22 : decode cL_partsFor 22 = .ok (.ireturn, 1) := by decide +kernel
theorem dL_pass_0 : decode cL_pass 0 = .ok (.aload_n 3, 1) := by decide +kernel
theorem dL_pass_1 : decode cL_pass 1 = .ok (.iconst 0, 1) := by decide +kernel
theorem dL_pass_2 : decode cL_pass 2 = .ok (.aload_n 0, 1) := by decide +kernel
theorem dL_pass_3 : decode cL_pass 3 = .ok (.iload_n 1, 1) := by decide +kernel
theorem dL_pass_4 : decode cL_pass 4 = .ok (.iload_n 2, 1) := by decide +kernel
theorem dL_pass_5 : decode cL_pass 5 = .ok (.invokevirtual 90, 3) := by decide +kernel
theorem dL_pass_8 : decode cL_pass 8 = .ok (.i2l, 1) := by decide +kernel
theorem dL_pass_9 : decode cL_pass 9 = .ok (.lastore, 1) := by decide +kernel
theorem dL_pass_10 : decode cL_pass 10 = .ok (.goto 15, 3) := by decide +kernel
theorem dL_pass_13 : decode cL_pass 13 = .ok (.astore 4, 2) := by decide +kernel
theorem dL_pass_15 : decode cL_pass 15 = .ok (.iconst 1, 1) := by decide +kernel
theorem dL_pass_16 : decode cL_pass 16 = .ok (.ireturn, 1) := by decide +kernel
theorem dL_pass_17 : decode cL_pass 17 = .ok (.astore 4, 2) := by decide +kernel
theorem dL_pass_19 : decode cL_pass 19 = .ok (.iconst 2, 1) := by decide +kernel
theorem dL_pass_20 : decode cL_pass 20 = .ok (.ireturn, 1) := by decide +kernel
theorem dL_pass_21 : decode cL_pass 21 = .ok (.astore 4, 2) := by decide +kernel
theorem dL_pass_23 : decode cL_pass 23 = .ok (.iconst 3, 1) := by decide +kernel
theorem dL_pass_24 : decode cL_pass 24 = .ok (.ireturn, 1) := by decide +kernel
theorem dL_pass_25 : decode cL_pass 25 = .ok (.iconst 0, 1) := by decide +kernel
theorem dL_pass_26 : decode cL_pass 26 = .ok (.ireturn, 1) := by decide +kernel
theorem dL_voyage_0 : decode cL_voyage 0 = .ok (.aload_n 3, 1) := by decide +kernel
theorem dL_voyage_1 : decode cL_voyage 1 = .ok (.iconst 0, 1) := by decide +kernel
theorem dL_voyage_2 : decode cL_voyage 2 = .ok (.aload_n 0, 1) := by decide +kernel
theorem dL_voyage_3 : decode cL_voyage 3 = .ok (.iload_n 1, 1) := by decide +kernel
theorem dL_voyage_4 : decode cL_voyage 4 = .ok (.iload_n 2, 1) := by decide +kernel
theorem dL_voyage_5 : decode cL_voyage 5 = .ok (.invokevirtual 94, 3) := by decide +kernel
theorem dL_voyage_8 : decode cL_voyage 8 = .ok (.i2l, 1) := by decide +kernel
theorem dL_voyage_9 : decode cL_voyage 9 = .ok (.lastore, 1) := by decide +kernel
theorem dL_voyage_10 : decode cL_voyage 10 = .ok (.goto 15, 3) := by decide +kernel
theorem dL_voyage_13 : decode cL_voyage 13 = .ok (.astore 4, 2) := by decide +kernel
theorem dL_voyage_15 : decode cL_voyage 15 = .ok (.iconst 1, 1) := by decide +kernel
theorem dL_voyage_16 : decode cL_voyage 16 = .ok (.ireturn, 1) := by decide +kernel
theorem dL_voyage_17 : decode cL_voyage 17 = .ok (.astore 4, 2) := by decide +kernel
theorem dL_voyage_19 : decode cL_voyage 19 = .ok (.iconst 2, 1) := by decide +kernel
theorem dL_voyage_20 : decode cL_voyage 20 = .ok (.ireturn, 1) := by decide +kernel
theorem dL_voyage_21 : decode cL_voyage 21 = .ok (.astore 4, 2) := by decide +kernel
theorem dL_voyage_23 : decode cL_voyage 23 = .ok (.iconst 3, 1) := by decide +kernel
theorem dL_voyage_24 : decode cL_voyage 24 = .ok (.ireturn, 1) := by decide +kernel
theorem dL_voyage_25 : decode cL_voyage 25 = .ok (.iconst 0, 1) := by decide +kernel
theorem dL_voyage_26 : decode cL_voyage 26 = .ok (.ireturn, 1) := by decide +kernel
theorem dL_isPossible_0 : decode cL_isPossible 0 = .ok (.aload_n 3, 1) := by decide +kernel
theorem dL_isPossible_1 : decode cL_isPossible 1 = .ok (.iconst 0, 1) := by decide +kernel
theorem dL_isPossible_2 : decode cL_isPossible 2 = .ok (.aload_n 0, 1) := by decide +kernel
theorem dL_isPossible_3 : decode cL_isPossible 3 = .ok (.iload_n 1, 1) := by decide +kernel
theorem dL_isPossible_4 : decode cL_isPossible 4 = .ok (.iload_n 2, 1) := by decide +kernel
theorem dL_isPossible_5 : decode cL_isPossible 5 = .ok (.invokevirtual 97, 3) := by decide +kernel
theorem dL_isPossible_8 : decode cL_isPossible 8 = .ok (.ifCond .eq 7, 3) := by decide +kernel
theorem dL_isPossible_11 : decode cL_isPossible 11 = .ok (.lconst 1, 1) := by decide +kernel
theorem dL_isPossible_12 : decode cL_isPossible 12 = .ok (.goto 4, 3) := by decide +kernel
theorem dL_isPossible_15 : decode cL_isPossible 15 = .ok (.lconst 0, 1) := by decide +kernel
theorem dL_isPossible_16 : decode cL_isPossible 16 = .ok (.lastore, 1) := by decide +kernel
theorem dL_isPossible_17 : decode cL_isPossible 17 = .ok (.goto 7, 3) := by decide +kernel
theorem dL_isPossible_20 : decode cL_isPossible 20 = .ok (.astore 4, 2) := by decide +kernel
theorem dL_isPossible_22 : decode cL_isPossible 22 = .ok (.iconst 1, 1) := by decide +kernel
theorem dL_isPossible_23 : decode cL_isPossible 23 = .ok (.ireturn, 1) := by decide +kernel
theorem dL_isPossible_24 : decode cL_isPossible 24 = .ok (.iconst 0, 1) := by decide +kernel
theorem dL_isPossible_25 : decode cL_isPossible 25 = .ok (.ireturn, 1) := by decide +kernel
theorem dL_waterFor_0 : decode cL_waterFor 0 = .ok (.aload_n 3, 1) := by decide +kernel
theorem dL_waterFor_1 : decode cL_waterFor 1 = .ok (.iconst 0, 1) := by decide +kernel
theorem dL_waterFor_2 : decode cL_waterFor 2 = .ok (.aload_n 0, 1) := by decide +kernel
theorem dL_waterFor_3 : decode cL_waterFor 3 = .ok (.iload_n 1, 1) := by decide +kernel
theorem dL_waterFor_4 : decode cL_waterFor 4 = .ok (.iload_n 2, 1) := by decide +kernel
theorem dL_waterFor_5 : decode cL_waterFor 5 = .ok (.invokevirtual 101, 3) := by decide +kernel
theorem dL_waterFor_8 : decode cL_waterFor 8 = .ok (.i2l, 1) := by decide +kernel
theorem dL_waterFor_9 : decode cL_waterFor 9 = .ok (.lastore, 1) := by decide +kernel
theorem dL_waterFor_10 : decode cL_waterFor 10 = .ok (.goto 11, 3) := by decide +kernel
theorem dL_waterFor_13 : decode cL_waterFor 13 = .ok (.astore 4, 2) := by decide +kernel
theorem dL_waterFor_15 : decode cL_waterFor 15 = .ok (.iconst 1, 1) := by decide +kernel
theorem dL_waterFor_16 : decode cL_waterFor 16 = .ok (.ireturn, 1) := by decide +kernel
theorem dL_waterFor_17 : decode cL_waterFor 17 = .ok (.astore 4, 2) := by decide +kernel
theorem dL_waterFor_19 : decode cL_waterFor 19 = .ok (.iconst 2, 1) := by decide +kernel
theorem dL_waterFor_20 : decode cL_waterFor 20 = .ok (.ireturn, 1) := by decide +kernel
theorem dL_waterFor_21 : decode cL_waterFor 21 = .ok (.iconst 0, 1) := by decide +kernel
theorem dL_waterFor_22 : decode cL_waterFor 22 = .ok (.ireturn, 1) := by decide +kernel
theorem dL_refusalReason_0 : decode cL_refusalReason 0 = .ok (.aload_n 1, 1) := by decide +kernel
theorem dL_refusalReason_1 : decode cL_refusalReason 1 = .ok (.iconst 0, 1) := by decide +kernel
theorem dL_refusalReason_2 : decode cL_refusalReason 2 = .ok (.aload_n 0, 1) := by decide +kernel
theorem dL_refusalReason_3 : decode cL_refusalReason 3 = .ok (.invokevirtual 104, 3) := by decide +kernel
theorem dL_refusalReason_6 : decode cL_refusalReason 6 = .ok (.i2l, 1) := by decide +kernel
theorem dL_refusalReason_7 : decode cL_refusalReason 7 = .ok (.lastore, 1) := by decide +kernel
theorem dL_refusalReason_8 : decode cL_refusalReason 8 = .ok (.goto 6, 3) := by decide +kernel
theorem dL_refusalReason_11 : decode cL_refusalReason 11 = .ok (.astore_n 2, 1) := by decide +kernel
theorem dL_refusalReason_12 : decode cL_refusalReason 12 = .ok (.iconst 1, 1) := by decide +kernel
theorem dL_refusalReason_13 : decode cL_refusalReason 13 = .ok (.ireturn, 1) := by decide +kernel
theorem dL_refusalReason_14 : decode cL_refusalReason 14 = .ok (.iconst 0, 1) := by decide +kernel
theorem dL_refusalReason_15 : decode cL_refusalReason 15 = .ok (.ireturn, 1) := by decide +kernel
theorem dL_refusalLock_0 : decode cL_refusalLock 0 = .ok (.aload_n 1, 1) := by decide +kernel
theorem dL_refusalLock_1 : decode cL_refusalLock 1 = .ok (.iconst 0, 1) := by decide +kernel
theorem dL_refusalLock_2 : decode cL_refusalLock 2 = .ok (.aload_n 0, 1) := by decide +kernel
theorem dL_refusalLock_3 : decode cL_refusalLock 3 = .ok (.invokevirtual 108, 3) := by decide +kernel
theorem dL_refusalLock_6 : decode cL_refusalLock 6 = .ok (.i2l, 1) := by decide +kernel
theorem dL_refusalLock_7 : decode cL_refusalLock 7 = .ok (.lastore, 1) := by decide +kernel
theorem dL_refusalLock_8 : decode cL_refusalLock 8 = .ok (.goto 6, 3) := by decide +kernel
theorem dL_refusalLock_11 : decode cL_refusalLock 11 = .ok (.astore_n 2, 1) := by decide +kernel
theorem dL_refusalLock_12 : decode cL_refusalLock 12 = .ok (.iconst 1, 1) := by decide +kernel
theorem dL_refusalLock_13 : decode cL_refusalLock 13 = .ok (.ireturn, 1) := by decide +kernel
theorem dL_refusalLock_14 : decode cL_refusalLock 14 = .ok (.iconst 0, 1) := by decide +kernel
theorem dL_refusalLock_15 : decode cL_refusalLock 15 = .ok (.ireturn, 1) := by decide +kernel
theorem dL_priceIn_0 : decode cL_priceIn 0 = .ok (.aload_n 2, 1) := by decide +kernel
theorem dL_priceIn_1 : decode cL_priceIn 1 = .ok (.iconst 0, 1) := by decide +kernel
theorem dL_priceIn_2 : decode cL_priceIn 2 = .ok (.aload_n 0, 1) := by decide +kernel
theorem dL_priceIn_3 : decode cL_priceIn 3 = .ok (.iload_n 1, 1) := by decide +kernel
theorem dL_priceIn_4 : decode cL_priceIn 4 = .ok (.invokevirtual 111, 3) := by decide +kernel
theorem dL_priceIn_7 : decode cL_priceIn 7 = .ok (.i2l, 1) := by decide +kernel
theorem dL_priceIn_8 : decode cL_priceIn 8 = .ok (.lastore, 1) := by decide +kernel
theorem dL_priceIn_9 : decode cL_priceIn 9 = .ok (.goto 6, 3) := by decide +kernel
theorem dL_priceIn_12 : decode cL_priceIn 12 = .ok (.astore_n 3, 1) := by decide +kernel
theorem dL_priceIn_13 : decode cL_priceIn 13 = .ok (.iconst 1, 1) := by decide +kernel
theorem dL_priceIn_14 : decode cL_priceIn 14 = .ok (.ireturn, 1) := by decide +kernel
theorem dL_priceIn_15 : decode cL_priceIn 15 = .ok (.iconst 0, 1) := by decide +kernel
theorem dL_priceIn_16 : decode cL_priceIn 16 = .ok (.ireturn, 1) := by decide +kernel
theorem dL_buy_0 : decode cL_buy 0 = .ok (.aload_n 3, 1) := by decide +kernel
theorem dL_buy_1 : decode cL_buy 1 = .ok (.iconst 0, 1) := by decide +kernel
theorem dL_buy_2 : decode cL_buy 2 = .ok (.aload_n 0, 1) := by decide +kernel
theorem dL_buy_3 : decode cL_buy 3 = .ok (.iload_n 1, 1) := by decide +kernel
theorem dL_buy_4 : decode cL_buy 4 = .ok (.iload_n 2, 1) := by decide +kernel
theorem dL_buy_5 : decode cL_buy 5 = .ok (.invokevirtual 114, 3) := by decide +kernel
theorem dL_buy_8 : decode cL_buy 8 = .ok (.lastore, 1) := by decide +kernel
theorem dL_buy_9 : decode cL_buy 9 = .ok (.goto 19, 3) := by decide +kernel
theorem dL_buy_12 : decode cL_buy 12 = .ok (.astore 4, 2) := by decide +kernel
theorem dL_buy_14 : decode cL_buy 14 = .ok (.iconst 1, 1) := by decide +kernel
theorem dL_buy_15 : decode cL_buy 15 = .ok (.ireturn, 1) := by decide +kernel
theorem dL_buy_16 : decode cL_buy 16 = .ok (.astore 4, 2) := by decide +kernel
theorem dL_buy_18 : decode cL_buy 18 = .ok (.iconst 2, 1) := by decide +kernel
theorem dL_buy_19 : decode cL_buy 19 = .ok (.ireturn, 1) := by decide +kernel
theorem dL_buy_20 : decode cL_buy 20 = .ok (.astore 4, 2) := by decide +kernel
theorem dL_buy_22 : decode cL_buy 22 = .ok (.iconst 3, 1) := by decide +kernel
theorem dL_buy_23 : decode cL_buy 23 = .ok (.ireturn, 1) := by decide +kernel
theorem dL_buy_24 : decode cL_buy 24 = .ok (.astore 4, 2) := by decide +kernel
theorem dL_buy_26 : decode cL_buy 26 = .ok (.iconst 4, 1) := by decide +kernel
theorem dL_buy_27 : decode cL_buy 27 = .ok (.ireturn, 1) := by decide +kernel
theorem dL_buy_28 : decode cL_buy 28 = .ok (.iconst 0, 1) := by decide +kernel
theorem dL_buy_29 : decode cL_buy 29 = .ok (.ireturn, 1) := by decide +kernel
theorem dL_sell_0 : decode cL_sell 0 = .ok (.aload_n 3, 1) := by decide +kernel
theorem dL_sell_1 : decode cL_sell 1 = .ok (.iconst 0, 1) := by decide +kernel
theorem dL_sell_2 : decode cL_sell 2 = .ok (.aload_n 0, 1) := by decide +kernel
theorem dL_sell_3 : decode cL_sell 3 = .ok (.iload_n 1, 1) := by decide +kernel
theorem dL_sell_4 : decode cL_sell 4 = .ok (.iload_n 2, 1) := by decide +kernel
theorem dL_sell_5 : decode cL_sell 5 = .ok (.invokevirtual 118, 3) := by decide +kernel
theorem dL_sell_8 : decode cL_sell 8 = .ok (.lastore, 1) := by decide +kernel
theorem dL_sell_9 : decode cL_sell 9 = .ok (.goto 15, 3) := by decide +kernel
theorem dL_sell_12 : decode cL_sell 12 = .ok (.astore 4, 2) := by decide +kernel
theorem dL_sell_14 : decode cL_sell 14 = .ok (.iconst 1, 1) := by decide +kernel
theorem dL_sell_15 : decode cL_sell 15 = .ok (.ireturn, 1) := by decide +kernel
theorem dL_sell_16 : decode cL_sell 16 = .ok (.astore 4, 2) := by decide +kernel
theorem dL_sell_18 : decode cL_sell 18 = .ok (.iconst 2, 1) := by decide +kernel
theorem dL_sell_19 : decode cL_sell 19 = .ok (.ireturn, 1) := by decide +kernel
theorem dL_sell_20 : decode cL_sell 20 = .ok (.astore 4, 2) := by decide +kernel
theorem dL_sell_22 : decode cL_sell 22 = .ok (.iconst 3, 1) := by decide +kernel
theorem dL_sell_23 : decode cL_sell 23 = .ok (.ireturn, 1) := by decide +kernel
theorem dL_sell_24 : decode cL_sell 24 = .ok (.iconst 0, 1) := by decide +kernel
theorem dL_sell_25 : decode cL_sell 25 = .ok (.ireturn, 1) := by decide +kernel
theorem dL_sellToDraught_0 : decode cL_sellToDraught 0 = .ok (.aload_n 3, 1) := by decide +kernel
theorem dL_sellToDraught_1 : decode cL_sellToDraught 1 = .ok (.iconst 0, 1) := by decide +kernel
theorem dL_sellToDraught_2 : decode cL_sellToDraught 2 = .ok (.aload_n 0, 1) := by decide +kernel
theorem dL_sellToDraught_3 : decode cL_sellToDraught 3 = .ok (.iload_n 1, 1) := by decide +kernel
theorem dL_sellToDraught_4 : decode cL_sellToDraught 4 = .ok (.iload_n 2, 1) := by decide +kernel
theorem dL_sellToDraught_5 : decode cL_sellToDraught 5 = .ok (.invokevirtual 121, 3) := by decide +kernel
theorem dL_sellToDraught_8 : decode cL_sellToDraught 8 = .ok (.i2l, 1) := by decide +kernel
theorem dL_sellToDraught_9 : decode cL_sellToDraught 9 = .ok (.lastore, 1) := by decide +kernel
theorem dL_sellToDraught_10 : decode cL_sellToDraught 10 = .ok (.goto 15, 3) := by decide +kernel
theorem dL_sellToDraught_13 : decode cL_sellToDraught 13 = .ok (.astore 4, 2) := by decide +kernel
theorem dL_sellToDraught_15 : decode cL_sellToDraught 15 = .ok (.iconst 1, 1) := by decide +kernel
theorem dL_sellToDraught_16 : decode cL_sellToDraught 16 = .ok (.ireturn, 1) := by decide +kernel
theorem dL_sellToDraught_17 : decode cL_sellToDraught 17 = .ok (.astore 4, 2) := by decide +kernel
theorem dL_sellToDraught_19 : decode cL_sellToDraught 19 = .ok (.iconst 2, 1) := by decide +kernel
theorem dL_sellToDraught_20 : decode cL_sellToDraught 20 = .ok (.ireturn, 1) := by decide +kernel
theorem dL_sellToDraught_21 : decode cL_sellToDraught 21 = .ok (.astore 4, 2) := by decide +kernel
theorem dL_sellToDraught_23 : decode cL_sellToDraught 23 = .ok (.iconst 3, 1) := by decide +kernel
theorem dL_sellToDraught_24 : decode cL_sellToDraught 24 = .ok (.ireturn, 1) := by decide +kernel
theorem dL_sellToDraught_25 : decode cL_sellToDraught 25 = .ok (.iconst 0, 1) := by decide +kernel
theorem dL_sellToDraught_26 : decode cL_sellToDraught 26 = .ok (.ireturn, 1) := by decide +kernel
theorem dL_greatestLoad_0 : decode cL_greatestLoad 0 = .ok (.aload_n 2, 1) := by decide +kernel
theorem dL_greatestLoad_1 : decode cL_greatestLoad 1 = .ok (.iconst 0, 1) := by decide +kernel
theorem dL_greatestLoad_2 : decode cL_greatestLoad 2 = .ok (.aload_n 0, 1) := by decide +kernel
theorem dL_greatestLoad_3 : decode cL_greatestLoad 3 = .ok (.iload_n 1, 1) := by decide +kernel
theorem dL_greatestLoad_4 : decode cL_greatestLoad 4 = .ok (.invokevirtual 124, 3) := by decide +kernel
theorem dL_greatestLoad_7 : decode cL_greatestLoad 7 = .ok (.i2l, 1) := by decide +kernel
theorem dL_greatestLoad_8 : decode cL_greatestLoad 8 = .ok (.lastore, 1) := by decide +kernel
theorem dL_greatestLoad_9 : decode cL_greatestLoad 9 = .ok (.goto 6, 3) := by decide +kernel
theorem dL_greatestLoad_12 : decode cL_greatestLoad 12 = .ok (.astore_n 3, 1) := by decide +kernel
theorem dL_greatestLoad_13 : decode cL_greatestLoad 13 = .ok (.iconst 1, 1) := by decide +kernel
theorem dL_greatestLoad_14 : decode cL_greatestLoad 14 = .ok (.ireturn, 1) := by decide +kernel
theorem dL_greatestLoad_15 : decode cL_greatestLoad 15 = .ok (.iconst 0, 1) := by decide +kernel
theorem dL_greatestLoad_16 : decode cL_greatestLoad 16 = .ok (.ireturn, 1) := by decide +kernel
theorem dL_worthIn_0 : decode cL_worthIn 0 = .ok (.aload_n 3, 1) := by decide +kernel
theorem dL_worthIn_1 : decode cL_worthIn 1 = .ok (.iconst 0, 1) := by decide +kernel
theorem dL_worthIn_2 : decode cL_worthIn 2 = .ok (.aload_n 0, 1) := by decide +kernel
theorem dL_worthIn_3 : decode cL_worthIn 3 = .ok (.iload_n 1, 1) := by decide +kernel
theorem dL_worthIn_4 : decode cL_worthIn 4 = .ok (.iload_n 2, 1) := by decide +kernel
theorem dL_worthIn_5 : decode cL_worthIn 5 = .ok (.invokevirtual 127, 3) := by decide +kernel
theorem dL_worthIn_8 : decode cL_worthIn 8 = .ok (.i2l, 1) := by decide +kernel
theorem dL_worthIn_9 : decode cL_worthIn 9 = .ok (.lastore, 1) := by decide +kernel
theorem dL_worthIn_10 : decode cL_worthIn 10 = .ok (.goto 7, 3) := by decide +kernel
theorem dL_worthIn_13 : decode cL_worthIn 13 = .ok (.astore 4, 2) := by decide +kernel
theorem dL_worthIn_15 : decode cL_worthIn 15 = .ok (.iconst 1, 1) := by decide +kernel
theorem dL_worthIn_16 : decode cL_worthIn 16 = .ok (.ireturn, 1) := by decide +kernel
theorem dL_worthIn_17 : decode cL_worthIn 17 = .ok (.iconst 0, 1) := by decide +kernel
theorem dL_worthIn_18 : decode cL_worthIn 18 = .ok (.ireturn, 1) := by decide +kernel
theorem dL_bestReach_0 : decode cL_bestReach 0 = .ok (.aload_n 2, 1) := by decide +kernel
theorem dL_bestReach_1 : decode cL_bestReach 1 = .ok (.iconst 0, 1) := by decide +kernel
theorem dL_bestReach_2 : decode cL_bestReach 2 = .ok (.aload_n 0, 1) := by decide +kernel
theorem dL_bestReach_3 : decode cL_bestReach 3 = .ok (.iload_n 1, 1) := by decide +kernel
theorem dL_bestReach_4 : decode cL_bestReach 4 = .ok (.invokevirtual 130, 3) := by decide +kernel
theorem dL_bestReach_7 : decode cL_bestReach 7 = .ok (.i2l, 1) := by decide +kernel
theorem dL_bestReach_8 : decode cL_bestReach 8 = .ok (.lastore, 1) := by decide +kernel
theorem dL_bestReach_9 : decode cL_bestReach 9 = .ok (.goto 6, 3) := by decide +kernel
theorem dL_bestReach_12 : decode cL_bestReach 12 = .ok (.astore_n 3, 1) := by decide +kernel
theorem dL_bestReach_13 : decode cL_bestReach 13 = .ok (.iconst 1, 1) := by decide +kernel
theorem dL_bestReach_14 : decode cL_bestReach 14 = .ok (.ireturn, 1) := by decide +kernel
theorem dL_bestReach_15 : decode cL_bestReach 15 = .ok (.iconst 0, 1) := by decide +kernel
theorem dL_bestReach_16 : decode cL_bestReach 16 = .ok (.ireturn, 1) := by decide +kernel
theorem dL_movementFrom_0 : decode cL_movementFrom 0 = .ok (.aload_n 2, 1) := by decide +kernel
theorem dL_movementFrom_1 : decode cL_movementFrom 1 = .ok (.iconst 0, 1) := by decide +kernel
theorem dL_movementFrom_2 : decode cL_movementFrom 2 = .ok (.aload_n 0, 1) := by decide +kernel
theorem dL_movementFrom_3 : decode cL_movementFrom 3 = .ok (.iload_n 1, 1) := by decide +kernel
theorem dL_movementFrom_4 : decode cL_movementFrom 4 = .ok (.invokevirtual 133, 3) := by decide +kernel
theorem dL_movementFrom_7 : decode cL_movementFrom 7 = .ok (.i2l, 1) := by decide +kernel
theorem dL_movementFrom_8 : decode cL_movementFrom 8 = .ok (.lastore, 1) := by decide +kernel
theorem dL_movementFrom_9 : decode cL_movementFrom 9 = .ok (.goto 6, 3) := by decide +kernel
theorem dL_movementFrom_12 : decode cL_movementFrom 12 = .ok (.astore_n 3, 1) := by decide +kernel
theorem dL_movementFrom_13 : decode cL_movementFrom 13 = .ok (.iconst 1, 1) := by decide +kernel
theorem dL_movementFrom_14 : decode cL_movementFrom 14 = .ok (.ireturn, 1) := by decide +kernel
theorem dL_movementFrom_15 : decode cL_movementFrom 15 = .ok (.iconst 0, 1) := by decide +kernel
theorem dL_movementFrom_16 : decode cL_movementFrom 16 = .ok (.ireturn, 1) := by decide +kernel
theorem dL_movementTo_0 : decode cL_movementTo 0 = .ok (.aload_n 2, 1) := by decide +kernel
theorem dL_movementTo_1 : decode cL_movementTo 1 = .ok (.iconst 0, 1) := by decide +kernel
theorem dL_movementTo_2 : decode cL_movementTo 2 = .ok (.aload_n 0, 1) := by decide +kernel
theorem dL_movementTo_3 : decode cL_movementTo 3 = .ok (.iload_n 1, 1) := by decide +kernel
theorem dL_movementTo_4 : decode cL_movementTo 4 = .ok (.invokevirtual 136, 3) := by decide +kernel
theorem dL_movementTo_7 : decode cL_movementTo 7 = .ok (.i2l, 1) := by decide +kernel
theorem dL_movementTo_8 : decode cL_movementTo 8 = .ok (.lastore, 1) := by decide +kernel
theorem dL_movementTo_9 : decode cL_movementTo 9 = .ok (.goto 6, 3) := by decide +kernel
theorem dL_movementTo_12 : decode cL_movementTo 12 = .ok (.astore_n 3, 1) := by decide +kernel
theorem dL_movementTo_13 : decode cL_movementTo 13 = .ok (.iconst 1, 1) := by decide +kernel
theorem dL_movementTo_14 : decode cL_movementTo 14 = .ok (.ireturn, 1) := by decide +kernel
theorem dL_movementTo_15 : decode cL_movementTo 15 = .ok (.iconst 0, 1) := by decide +kernel
theorem dL_movementTo_16 : decode cL_movementTo 16 = .ok (.ireturn, 1) := by decide +kernel
theorem dL_movementVolume_0 : decode cL_movementVolume 0 = .ok (.aload_n 2, 1) := by decide +kernel
theorem dL_movementVolume_1 : decode cL_movementVolume 1 = .ok (.iconst 0, 1) := by decide +kernel
theorem dL_movementVolume_2 : decode cL_movementVolume 2 = .ok (.aload_n 0, 1) := by decide +kernel
theorem dL_movementVolume_3 : decode cL_movementVolume 3 = .ok (.iload_n 1, 1) := by decide +kernel
theorem dL_movementVolume_4 : decode cL_movementVolume 4 = .ok (.invokevirtual 139, 3) := by decide +kernel
theorem dL_movementVolume_7 : decode cL_movementVolume 7 = .ok (.i2l, 1) := by decide +kernel
theorem dL_movementVolume_8 : decode cL_movementVolume 8 = .ok (.lastore, 1) := by decide +kernel
theorem dL_movementVolume_9 : decode cL_movementVolume 9 = .ok (.goto 6, 3) := by decide +kernel
theorem dL_movementVolume_12 : decode cL_movementVolume 12 = .ok (.astore_n 3, 1) := by decide +kernel
theorem dL_movementVolume_13 : decode cL_movementVolume 13 = .ok (.iconst 1, 1) := by decide +kernel
theorem dL_movementVolume_14 : decode cL_movementVolume 14 = .ok (.ireturn, 1) := by decide +kernel
theorem dL_movementVolume_15 : decode cL_movementVolume 15 = .ok (.iconst 0, 1) := by decide +kernel
theorem dL_movementVolume_16 : decode cL_movementVolume 16 = .ok (.ireturn, 1) := by decide +kernel
theorem dL_writeReach_0 : decode cL_writeReach 0 = .ok (.aload_n 2, 1) := by decide +kernel
theorem dL_writeReach_1 : decode cL_writeReach 1 = .ok (.iconst 0, 1) := by decide +kernel
theorem dL_writeReach_2 : decode cL_writeReach 2 = .ok (.aload_n 0, 1) := by decide +kernel
theorem dL_writeReach_3 : decode cL_writeReach 3 = .ok (.iload_n 1, 1) := by decide +kernel
theorem dL_writeReach_4 : decode cL_writeReach 4 = .ok (.invokevirtual 142, 3) := by decide +kernel
theorem dL_writeReach_7 : decode cL_writeReach 7 = .ok (.i2l, 1) := by decide +kernel
theorem dL_writeReach_8 : decode cL_writeReach 8 = .ok (.lastore, 1) := by decide +kernel
theorem dL_writeReach_9 : decode cL_writeReach 9 = .ok (.goto 6, 3) := by decide +kernel
theorem dL_writeReach_12 : decode cL_writeReach 12 = .ok (.astore_n 3, 1) := by decide +kernel
theorem dL_writeReach_13 : decode cL_writeReach 13 = .ok (.iconst 1, 1) := by decide +kernel
theorem dL_writeReach_14 : decode cL_writeReach 14 = .ok (.ireturn, 1) := by decide +kernel
theorem dL_writeReach_15 : decode cL_writeReach 15 = .ok (.iconst 0, 1) := by decide +kernel
theorem dL_writeReach_16 : decode cL_writeReach 16 = .ok (.ireturn, 1) := by decide +kernel
theorem dL_lineAt_0 : decode cL_lineAt 0 = .ok (.aload_n 2, 1) := by decide +kernel
theorem dL_lineAt_1 : decode cL_lineAt 1 = .ok (.iconst 0, 1) := by decide +kernel
theorem dL_lineAt_2 : decode cL_lineAt 2 = .ok (.aload_n 0, 1) := by decide +kernel
theorem dL_lineAt_3 : decode cL_lineAt 3 = .ok (.iload_n 1, 1) := by decide +kernel
theorem dL_lineAt_4 : decode cL_lineAt 4 = .ok (.invokevirtual 145, 3) := by decide +kernel
theorem dL_lineAt_7 : decode cL_lineAt 7 = .ok (.i2l, 1) := by decide +kernel
theorem dL_lineAt_8 : decode cL_lineAt 8 = .ok (.lastore, 1) := by decide +kernel
theorem dL_lineAt_9 : decode cL_lineAt 9 = .ok (.goto 6, 3) := by decide +kernel
theorem dL_lineAt_12 : decode cL_lineAt 12 = .ok (.astore_n 3, 1) := by decide +kernel
theorem dL_lineAt_13 : decode cL_lineAt 13 = .ok (.iconst 1, 1) := by decide +kernel
theorem dL_lineAt_14 : decode cL_lineAt 14 = .ok (.ireturn, 1) := by decide +kernel
theorem dL_lineAt_15 : decode cL_lineAt 15 = .ok (.iconst 0, 1) := by decide +kernel
theorem dL_lineAt_16 : decode cL_lineAt 16 = .ok (.ireturn, 1) := by decide +kernel
