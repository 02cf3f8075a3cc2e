theorem wk_L_20 : Cond.classLink RL 20 "java/lang/IllegalArgumentException" ∈ lw_tbl := az_t (i := 243) (by decide +kernel)
theorem wk_L_22 : Cond.classLink RL 22 "java/lang/IllegalStateException" ∈ lw_tbl := az_t (i := 244) (by decide +kernel)
theorem wk_L_28 : Cond.classLink RL 28 "java/lang/IndexOutOfBoundsException" ∈ lw_tbl := az_t (i := 340) (by decide +kernel)
theorem wk_L_55 : Cond.classLink RL 55 "java/lang/UnsupportedOperationException" ∈ lw_tbl := az_t (i := 391) (by decide +kernel)
theorem wk_L_92 : Cond.classLink RL 92 "java/util/NoSuchElementException" ∈ lw_tbl := az_t (i := 538) (by decide +kernel)
theorem wc_L_addReach : Cond.codeWith yL_addReach cL_addReach 7 (some FieldType.int) [(0, 11, 12, 20), (0, 11, 18, 22)] ∈ lw_tbl := az_t (i := 242) (by decide +kernel)
theorem Y_L_addReach : az_YH yL_addReach cL_addReach 7 (some FieldType.int) [(0, 11, 12, 20), (0, 11, 18, 22)] 6 := ⟨wc_L_addReach, wini_L, by decide +kernel, by decide +kernel⟩
theorem wc_L_areaOf : Cond.codeWith yL_areaOf cL_areaOf 3 (some FieldType.int) [(0, 5, 6, 28)] ∈ lw_tbl := az_t (i := 585) (by decide +kernel)
theorem Y_L_areaOf : az_YH yL_areaOf cL_areaOf 3 (some FieldType.int) [(0, 5, 6, 28)] 2 := ⟨wc_L_areaOf, wini_L, by decide +kernel, by decide +kernel⟩
theorem wc_L_volumeOf : Cond.codeWith yL_volumeOf cL_volumeOf 3 (some FieldType.int) [(0, 5, 6, 28)] ∈ lw_tbl := az_t (i := 339) (by decide +kernel)
theorem Y_L_volumeOf : az_YH yL_volumeOf cL_volumeOf 3 (some FieldType.int) [(0, 5, 6, 28)] 2 := ⟨wc_L_volumeOf, wini_L, by decide +kernel, by decide +kernel⟩
theorem wc_L_volumeBySteps : Cond.codeWith yL_volumeBySteps cL_volumeBySteps 3 (some FieldType.int) [(0, 5, 6, 28)] ∈ lw_tbl := az_t (i := 592) (by decide +kernel)
theorem Y_L_volumeBySteps : az_YH yL_volumeBySteps cL_volumeBySteps 3 (some FieldType.int) [(0, 5, 6, 28)] 2 := ⟨wc_L_volumeBySteps, wini_L, by decide +kernel, by decide +kernel⟩
theorem wc_L_levelOf : Cond.codeWith yL_levelOf cL_levelOf 3 (some FieldType.int) [(0, 5, 6, 28)] ∈ lw_tbl := az_t (i := 603) (by decide +kernel)
theorem Y_L_levelOf : az_YH yL_levelOf cL_levelOf 3 (some FieldType.int) [(0, 5, 6, 28)] 2 := ⟨wc_L_levelOf, wini_L, by decide +kernel, by decide +kernel⟩
theorem wc_L_lockfulOf : Cond.codeWith yL_lockfulOf cL_lockfulOf 3 (some FieldType.int) [(0, 5, 6, 28)] ∈ lw_tbl := az_t (i := 367) (by decide +kernel)
theorem Y_L_lockfulOf : az_YH yL_lockfulOf cL_lockfulOf 3 (some FieldType.int) [(0, 5, 6, 28)] 2 := ⟨wc_L_lockfulOf, wini_L, by decide +kernel, by decide +kernel⟩
theorem wc_L_isFull : Cond.codeWith yL_isFull cL_isFull 3 (some FieldType.int) [(0, 13, 14, 28)] ∈ lw_tbl := az_t (i := 379) (by decide +kernel)
theorem Y_L_isFull : az_YH yL_isFull cL_isFull 3 (some FieldType.int) [(0, 13, 14, 28)] 2 := ⟨wc_L_isFull, wini_L, by decide +kernel, by decide +kernel⟩
theorem wc_L_turn : Cond.codeWith yL_turn cL_turn 3 (some FieldType.int) [(0, 13, 14, 28), (0, 13, 19, 55)] ∈ lw_tbl := az_t (i := 390) (by decide +kernel)
theorem Y_L_turn : az_YH yL_turn cL_turn 3 (some FieldType.int) [(0, 13, 14, 28), (0, 13, 19, 55)] 2 := ⟨wc_L_turn, wini_L, by decide +kernel, by decide +kernel⟩
theorem wc_L_waterThrough : Cond.codeWith yL_waterThrough cL_waterThrough 3 (some FieldType.int) [(0, 5, 6, 28)] ∈ lw_tbl := az_t (i := 712) (by decide +kernel)
theorem Y_L_waterThrough : az_YH yL_waterThrough cL_waterThrough 3 (some FieldType.int) [(0, 5, 6, 28)] 2 := ⟨wc_L_waterThrough, wini_L, by decide +kernel, by decide +kernel⟩
theorem wc_L_rain : Cond.codeWith yL_rain cL_rain 4 (some FieldType.int) [(0, 6, 7, 28), (0, 6, 12, 20)] ∈ lw_tbl := az_t (i := 427) (by decide +kernel)
theorem Y_L_rain : az_YH yL_rain cL_rain 4 (some FieldType.int) [(0, 6, 7, 28), (0, 6, 12, 20)] 3 := ⟨wc_L_rain, wini_L, by decide +kernel, by decide +kernel⟩
theorem wc_L_addBarge : Cond.codeWith yL_addBarge cL_addBarge 6 (some FieldType.int) [(0, 9, 10, 28), (0, 9, 16, 20), (0, 9, 22, 22), (0, 9, 28, 55)] ∈ lw_tbl := az_t (i := 435) (by decide +kernel)
theorem Y_L_addBarge : az_YH yL_addBarge cL_addBarge 6 (some FieldType.int) [(0, 9, 10, 28), (0, 9, 16, 20), (0, 9, 22, 22), (0, 9, 28, 55)] 5 := ⟨wc_L_addBarge, wini_L, by decide +kernel, by decide +kernel⟩
theorem wc_L_reachOf : Cond.codeWith yL_reachOf cL_reachOf 3 (some FieldType.int) [(0, 5, 6, 28)] ∈ lw_tbl := az_t (i := 673) (by decide +kernel)
theorem Y_L_reachOf : az_YH yL_reachOf cL_reachOf 3 (some FieldType.int) [(0, 5, 6, 28)] 2 := ⟨wc_L_reachOf, wini_L, by decide +kernel, by decide +kernel⟩
theorem wc_L_cargoOf : Cond.codeWith yL_cargoOf cL_cargoOf 3 (some FieldType.int) [(0, 5, 6, 28)] ∈ lw_tbl := az_t (i := 692) (by decide +kernel)
theorem Y_L_cargoOf : az_YH yL_cargoOf cL_cargoOf 3 (some FieldType.int) [(0, 5, 6, 28)] 2 := ⟨wc_L_cargoOf, wini_L, by decide +kernel, by decide +kernel⟩
theorem wc_L_draughtOf : Cond.codeWith yL_draughtOf cL_draughtOf 3 (some FieldType.int) [(0, 5, 6, 28)] ∈ lw_tbl := az_t (i := 481) (by decide +kernel)
theorem Y_L_draughtOf : az_YH yL_draughtOf cL_draughtOf 3 (some FieldType.int) [(0, 5, 6, 28)] 2 := ⟨wc_L_draughtOf, wini_L, by decide +kernel, by decide +kernel⟩
theorem wc_L_isAfloat : Cond.codeWith yL_isAfloat cL_isAfloat 3 (some FieldType.int) [(0, 13, 14, 28)] ∈ lw_tbl := az_t (i := 680) (by decide +kernel)
theorem Y_L_isAfloat : az_YH yL_isAfloat cL_isAfloat 3 (some FieldType.int) [(0, 13, 14, 28)] 2 := ⟨wc_L_isAfloat, wini_L, by decide +kernel, by decide +kernel⟩
theorem wc_L_couple : Cond.codeWith yL_couple cL_couple 4 (some FieldType.int) [(0, 6, 7, 28), (0, 6, 12, 20), (0, 6, 17, 22)] ∈ lw_tbl := az_t (i := 501) (by decide +kernel)
theorem Y_L_couple : az_YH yL_couple cL_couple 4 (some FieldType.int) [(0, 6, 7, 28), (0, 6, 12, 20), (0, 6, 17, 22)] 3 := ⟨wc_L_couple, wini_L, by decide +kernel, by decide +kernel⟩
theorem wc_L_uncouple : Cond.codeWith yL_uncouple cL_uncouple 3 (some FieldType.int) [(0, 5, 6, 28), (0, 5, 11, 22)] ∈ lw_tbl := az_t (i := 522) (by decide +kernel)
theorem Y_L_uncouple : az_YH yL_uncouple cL_uncouple 3 (some FieldType.int) [(0, 5, 6, 28), (0, 5, 11, 22)] 2 := ⟨wc_L_uncouple, wini_L, by decide +kernel, by decide +kernel⟩
theorem wc_L_convoySize : Cond.codeWith yL_convoySize cL_convoySize 3 (some FieldType.int) [(0, 5, 6, 28)] ∈ lw_tbl := az_t (i := 530) (by decide +kernel)
theorem Y_L_convoySize : az_YH yL_convoySize cL_convoySize 3 (some FieldType.int) [(0, 5, 6, 28)] 2 := ⟨wc_L_convoySize, wini_L, by decide +kernel, by decide +kernel⟩
theorem wc_L_convoyAt : Cond.codeWith yL_convoyAt cL_convoyAt 4 (some FieldType.int) [(0, 6, 7, 28), (0, 6, 12, 92)] ∈ lw_tbl := az_t (i := 537) (by decide +kernel)
theorem Y_L_convoyAt : az_YH yL_convoyAt cL_convoyAt 4 (some FieldType.int) [(0, 6, 7, 28), (0, 6, 12, 92)] 3 := ⟨wc_L_convoyAt, wini_L, by decide +kernel, by decide +kernel⟩
theorem wc_L_partsFor : Cond.codeWith yL_partsFor cL_partsFor 4 (some FieldType.int) [(0, 6, 7, 28), (0, 6, 12, 55)] ∈ lw_tbl := az_t (i := 795) (by decide +kernel)
theorem Y_L_partsFor : az_YH yL_partsFor cL_partsFor 4 (some FieldType.int) [(0, 6, 7, 28), (0, 6, 12, 55)] 3 := ⟨wc_L_partsFor, wini_L, by decide +kernel, by decide +kernel⟩
theorem wc_L_pass : Cond.codeWith yL_pass cL_pass 4 (some FieldType.int) [(0, 6, 7, 28), (0, 6, 12, 92), (0, 6, 17, 55)] ∈ lw_tbl := az_t (i := 843) (by decide +kernel)
theorem Y_L_pass : az_YH yL_pass cL_pass 4 (some FieldType.int) [(0, 6, 7, 28), (0, 6, 12, 92), (0, 6, 17, 55)] 3 := ⟨wc_L_pass, wini_L, by decide +kernel, by decide +kernel⟩
theorem wc_L_voyage : Cond.codeWith yL_voyage cL_voyage 4 (some FieldType.int) [(0, 6, 7, 28), (0, 6, 12, 22), (0, 6, 17, 55)] ∈ lw_tbl := az_t (i := 808) (by decide +kernel)
theorem Y_L_voyage : az_YH yL_voyage cL_voyage 4 (some FieldType.int) [(0, 6, 7, 28), (0, 6, 12, 22), (0, 6, 17, 55)] 3 := ⟨wc_L_voyage, wini_L, by decide +kernel, by decide +kernel⟩
theorem wc_L_isPossible : Cond.codeWith yL_isPossible cL_isPossible 4 (some FieldType.int) [(0, 14, 15, 28)] ∈ lw_tbl := az_t (i := 765) (by decide +kernel)
theorem Y_L_isPossible : az_YH yL_isPossible cL_isPossible 4 (some FieldType.int) [(0, 14, 15, 28)] 3 := ⟨wc_L_isPossible, wini_L, by decide +kernel, by decide +kernel⟩
theorem wc_L_waterFor : Cond.codeWith yL_waterFor cL_waterFor 4 (some FieldType.int) [(0, 6, 7, 28), (0, 6, 12, 55)] ∈ lw_tbl := az_t (i := 719) (by decide +kernel)
theorem Y_L_waterFor : az_YH yL_waterFor cL_waterFor 4 (some FieldType.int) [(0, 6, 7, 28), (0, 6, 12, 55)] 3 := ⟨wc_L_waterFor, wini_L, by decide +kernel, by decide +kernel⟩
theorem wc_L_refusalReason : Cond.codeWith yL_refusalReason cL_refusalReason 2 (some FieldType.int) [(0, 4, 5, 92)] ∈ lw_tbl := az_t (i := 821) (by decide +kernel)
theorem Y_L_refusalReason : az_YH yL_refusalReason cL_refusalReason 2 (some FieldType.int) [(0, 4, 5, 92)] 1 := ⟨wc_L_refusalReason, wini_L, by decide +kernel, by decide +kernel⟩
theorem wc_L_refusalLock : Cond.codeWith yL_refusalLock cL_refusalLock 2 (some FieldType.int) [(0, 4, 5, 92)] ∈ lw_tbl := az_t (i := 833) (by decide +kernel)
theorem Y_L_refusalLock : az_YH yL_refusalLock cL_refusalLock 2 (some FieldType.int) [(0, 4, 5, 92)] 1 := ⟨wc_L_refusalLock, wini_L, by decide +kernel, by decide +kernel⟩
theorem wc_L_priceIn : Cond.codeWith yL_priceIn cL_priceIn 3 (some FieldType.int) [(0, 5, 6, 28)] ∈ lw_tbl := az_t (i := 854) (by decide +kernel)
theorem Y_L_priceIn : az_YH yL_priceIn cL_priceIn 3 (some FieldType.int) [(0, 5, 6, 28)] 2 := ⟨wc_L_priceIn, wini_L, by decide +kernel, by decide +kernel⟩
theorem wc_L_buy : Cond.codeWith yL_buy cL_buy 4 (some FieldType.long) [(0, 6, 7, 28), (0, 6, 12, 20), (0, 6, 17, 55), (0, 6, 22, 22)] ∈ lw_tbl := az_t (i := 865) (by decide +kernel)
theorem Y_L_buy : az_YH yL_buy cL_buy 4 (some FieldType.long) [(0, 6, 7, 28), (0, 6, 12, 20), (0, 6, 17, 55), (0, 6, 22, 22)] 3 := ⟨wc_L_buy, wini_L, by decide +kernel, by decide +kernel⟩
theorem wc_L_sell : Cond.codeWith yL_sell cL_sell 4 (some FieldType.long) [(0, 6, 7, 28), (0, 6, 12, 20), (0, 6, 17, 22)] ∈ lw_tbl := az_t (i := 881) (by decide +kernel)
theorem Y_L_sell : az_YH yL_sell cL_sell 4 (some FieldType.long) [(0, 6, 7, 28), (0, 6, 12, 20), (0, 6, 17, 22)] 3 := ⟨wc_L_sell, wini_L, by decide +kernel, by decide +kernel⟩
theorem wc_L_sellToDraught : Cond.codeWith yL_sellToDraught cL_sellToDraught 4 (some FieldType.int) [(0, 6, 7, 28), (0, 6, 12, 20), (0, 6, 17, 22)] ∈ lw_tbl := az_t (i := 561) (by decide +kernel)
theorem Y_L_sellToDraught : az_YH yL_sellToDraught cL_sellToDraught 4 (some FieldType.int) [(0, 6, 7, 28), (0, 6, 12, 20), (0, 6, 17, 22)] 3 := ⟨wc_L_sellToDraught, wini_L, by decide +kernel, by decide +kernel⟩
theorem wc_L_greatestLoad : Cond.codeWith yL_greatestLoad cL_greatestLoad 3 (some FieldType.int) [(0, 5, 6, 28)] ∈ lw_tbl := az_t (i := 699) (by decide +kernel)
theorem Y_L_greatestLoad : az_YH yL_greatestLoad cL_greatestLoad 3 (some FieldType.int) [(0, 5, 6, 28)] 2 := ⟨wc_L_greatestLoad, wini_L, by decide +kernel, by decide +kernel⟩
theorem wc_L_worthIn : Cond.codeWith yL_worthIn cL_worthIn 4 (some FieldType.int) [(0, 6, 7, 28)] ∈ lw_tbl := az_t (i := 786) (by decide +kernel)
theorem Y_L_worthIn : az_YH yL_worthIn cL_worthIn 4 (some FieldType.int) [(0, 6, 7, 28)] 3 := ⟨wc_L_worthIn, wini_L, by decide +kernel, by decide +kernel⟩
theorem wc_L_bestReach : Cond.codeWith yL_bestReach cL_bestReach 3 (some FieldType.int) [(0, 5, 6, 28)] ∈ lw_tbl := az_t (i := 776) (by decide +kernel)
theorem Y_L_bestReach : az_YH yL_bestReach cL_bestReach 3 (some FieldType.int) [(0, 5, 6, 28)] 2 := ⟨wc_L_bestReach, wini_L, by decide +kernel, by decide +kernel⟩
theorem wc_L_movementFrom : Cond.codeWith yL_movementFrom cL_movementFrom 3 (some FieldType.int) [(0, 5, 6, 28)] ∈ lw_tbl := az_t (i := 626) (by decide +kernel)
theorem Y_L_movementFrom : az_YH yL_movementFrom cL_movementFrom 3 (some FieldType.int) [(0, 5, 6, 28)] 2 := ⟨wc_L_movementFrom, wini_L, by decide +kernel, by decide +kernel⟩
theorem wc_L_movementTo : Cond.codeWith yL_movementTo cL_movementTo 3 (some FieldType.int) [(0, 5, 6, 28)] ∈ lw_tbl := az_t (i := 633) (by decide +kernel)
theorem Y_L_movementTo : az_YH yL_movementTo cL_movementTo 3 (some FieldType.int) [(0, 5, 6, 28)] 2 := ⟨wc_L_movementTo, wini_L, by decide +kernel, by decide +kernel⟩
theorem wc_L_movementVolume : Cond.codeWith yL_movementVolume cL_movementVolume 3 (some FieldType.int) [(0, 5, 6, 28)] ∈ lw_tbl := az_t (i := 614) (by decide +kernel)
theorem Y_L_movementVolume : az_YH yL_movementVolume cL_movementVolume 3 (some FieldType.int) [(0, 5, 6, 28)] 2 := ⟨wc_L_movementVolume, wini_L, by decide +kernel, by decide +kernel⟩
