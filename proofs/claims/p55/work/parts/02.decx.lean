theorem dX0_init_0 : decode cX0_init 0 = .ok (.aload_n 0, 1) := by decide +kernel
theorem dX0_init_1 : decode cX0_init 1 = .ok (.invokespecial 1, 3) := by decide +kernel
theorem dX0_init_4 : decode cX0_init 4 = .ok (.aload_n 0, 1) := by decide +kernel
theorem dX0_init_5 : decode cX0_init 5 = .ok (.iload_n 1, 1) := by decide +kernel
theorem dX0_init_6 : decode cX0_init 6 = .ok (.putfield 7, 3) := by decide +kernel
theorem dX0_init_9 : decode cX0_init 9 = .ok (.aload_n 0, 1) := by decide +kernel
theorem dX0_init_10 : decode cX0_init 10 = .ok (.iload_n 2, 1) := by decide +kernel
theorem dX0_init_11 : decode cX0_init 11 = .ok (.putfield 13, 3) := by decide +kernel
theorem dX0_init_14 : decode cX0_init 14 = .ok (.aload_n 0, 1) := by decide +kernel
theorem dX0_init_15 : decode cX0_init 15 = .ok (.iload_n 3, 1) := by decide +kernel
theorem dX0_init_16 : decode cX0_init 16 = .ok (.putfield 16, 3) := by decide +kernel
theorem dX0_init_19 : decode cX0_init 19 = .ok (.aload_n 0, 1) := by decide +kernel
theorem dX0_init_20 : decode cX0_init 20 = .ok (.iload 4, 2) := by decide +kernel
theorem dX0_init_22 : decode cX0_init 22 = .ok (.putfield 19, 3) := by decide +kernel
theorem dX0_init_25 : decode cX0_init 25 = .ok (.aload_n 0, 1) := by decide +kernel
theorem dX0_init_26 : decode cX0_init 26 = .ok (.iload 5, 2) := by decide +kernel
theorem dX0_init_28 : decode cX0_init 28 = .ok (.putfield 22, 3) := by decide +kernel
theorem dX0_init_31 : decode cX0_init 31 = .ok (.return_, 1) := by decide +kernel
theorem dX0_draught_0 : decode cX0_draught 0 = .ok (.aload_n 0, 1) := by decide +kernel
theorem dX0_draught_1 : decode cX0_draught 1 = .ok (.aload_n 0, 1) := by decide +kernel
theorem dX0_draught_2 : decode cX0_draught 2 = .ok (.getfield 25, 3) := by decide +kernel
theorem dX0_draught_5 : decode cX0_draught 5 = .ok (.invokevirtual 28, 3) := by decide +kernel
theorem dX0_draught_8 : decode cX0_draught 8 = .ok (.ireturn, 1) := by decide +kernel
theorem dX0_draughtWith_0 : decode cX0_draughtWith 0 = .ok (.aload_n 0, 1) := by decide +kernel
theorem dX0_draughtWith_1 : decode cX0_draughtWith 1 = .ok (.getfield 22, 3) := by decide +kernel
theorem dX0_draughtWith_4 : decode cX0_draughtWith 4 = .ok (.iconst 1, 1) := by decide +kernel
theorem dX0_draughtWith_5 : decode cX0_draughtWith 5 = .ok (.if_icmp .ge 8, 3) := by decide +kernel
theorem dX0_draughtWith_8 : decode cX0_draughtWith 8 = .ok (.aload_n 0, 1) := by decide +kernel
theorem dX0_draughtWith_9 : decode cX0_draughtWith 9 = .ok (.getfield 19, 3) := by decide +kernel
theorem dX0_draughtWith_12 : decode cX0_draughtWith 12 = .ok (.ireturn, 1) := by decide +kernel
theorem dX0_draughtWith_13 : decode cX0_draughtWith 13 = .ok (.aload_n 0, 1) := by decide +kernel
theorem dX0_draughtWith_14 : decode cX0_draughtWith 14 = .ok (.getfield 19, 3) := by decide +kernel
theorem dX0_draughtWith_17 : decode cX0_draughtWith 17 = .ok (.iload_n 1, 1) := by decide +kernel
theorem dX0_draughtWith_18 : decode cX0_draughtWith 18 = .ok (.aload_n 0, 1) := by decide +kernel
theorem dX0_draughtWith_19 : decode cX0_draughtWith 19 = .ok (.getfield 22, 3) := by decide +kernel
theorem dX0_draughtWith_22 : decode cX0_draughtWith 22 = .ok (.iadd, 1) := by decide +kernel
theorem dX0_draughtWith_23 : decode cX0_draughtWith 23 = .ok (.iconst 1, 1) := by decide +kernel
theorem dX0_draughtWith_24 : decode cX0_draughtWith 24 = .ok (.isub, 1) := by decide +kernel
theorem dX0_draughtWith_25 : decode cX0_draughtWith 25 = .ok (.aload_n 0, 1) := by decide +kernel
theorem dX0_draughtWith_26 : decode cX0_draughtWith 26 = .ok (.getfield 22, 3) := by decide +kernel
theorem dX0_draughtWith_29 : decode cX0_draughtWith 29 = .ok (.idiv, 1) := by decide +kernel
theorem dX0_draughtWith_30 : decode cX0_draughtWith 30 = .ok (.iadd, 1) := by decide +kernel
theorem dX0_draughtWith_31 : decode cX0_draughtWith 31 = .ok (.ireturn, 1) := by decide +kernel
theorem dX0_greatestCargo_0 : decode cX0_greatestCargo 0 = .ok (.iload_n 1, 1) := by decide +kernel
theorem dX0_greatestCargo_1 : decode cX0_greatestCargo 1 = .ok (.aload_n 0, 1) := by decide +kernel
theorem dX0_greatestCargo_2 : decode cX0_greatestCargo 2 = .ok (.getfield 19, 3) := by decide +kernel
theorem dX0_greatestCargo_5 : decode cX0_greatestCargo 5 = .ok (.isub, 1) := by decide +kernel
theorem dX0_greatestCargo_6 : decode cX0_greatestCargo 6 = .ok (.aload_n 0, 1) := by decide +kernel
theorem dX0_greatestCargo_7 : decode cX0_greatestCargo 7 = .ok (.getfield 22, 3) := by decide +kernel
theorem dX0_greatestCargo_10 : decode cX0_greatestCargo 10 = .ok (.imul, 1) := by decide +kernel
theorem dX0_greatestCargo_11 : decode cX0_greatestCargo 11 = .ok (.ireturn, 1) := by decide +kernel
theorem dX0_first_0 : decode cX0_first 0 = .ok (.aload_n 0, 1) := by decide +kernel
theorem dX0_first_1 : decode cX0_first 1 = .ok (.astore_n 1, 1) := by decide +kernel
theorem dX0_first_2 : decode cX0_first 2 = .ok (.aload_n 1, 1) := by decide +kernel
theorem dX0_first_3 : decode cX0_first 3 = .ok (.getfield 32, 3) := by decide +kernel
theorem dX0_first_6 : decode cX0_first 6 = .ok (.ifnull 11, 3) := by decide +kernel
theorem dX0_first_9 : decode cX0_first 9 = .ok (.aload_n 1, 1) := by decide +kernel
theorem dX0_first_10 : decode cX0_first 10 = .ok (.getfield 32, 3) := by decide +kernel
theorem dX0_first_13 : decode cX0_first 13 = .ok (.astore_n 1, 1) := by decide +kernel
theorem dX0_first_14 : decode cX0_first 14 = .ok (.goto (-12), 3) := by decide +kernel
theorem dX0_first_17 : decode cX0_first 17 = .ok (.aload_n 1, 1) := by decide +kernel
theorem dX0_first_18 : decode cX0_first 18 = .ok (.areturn, 1) := by decide +kernel
theorem dX0_last_0 : decode cX0_last 0 = .ok (.aload_n 0, 1) := by decide +kernel
theorem dX0_last_1 : decode cX0_last 1 = .ok (.astore_n 1, 1) := by decide +kernel
theorem dX0_last_2 : decode cX0_last 2 = .ok (.aload_n 1, 1) := by decide +kernel
theorem dX0_last_3 : decode cX0_last 3 = .ok (.getfield 36, 3) := by decide +kernel
theorem dX0_last_6 : decode cX0_last 6 = .ok (.ifnull 11, 3) := by decide +kernel
theorem dX0_last_9 : decode cX0_last 9 = .ok (.aload_n 1, 1) := by decide +kernel
theorem dX0_last_10 : decode cX0_last 10 = .ok (.getfield 36, 3) := by decide +kernel
theorem dX0_last_13 : decode cX0_last 13 = .ok (.astore_n 1, 1) := by decide +kernel
theorem dX0_last_14 : decode cX0_last 14 = .ok (.goto (-12), 3) := by decide +kernel
theorem dX0_last_17 : decode cX0_last 17 = .ok (.aload_n 1, 1) := by decide +kernel
theorem dX0_last_18 : decode cX0_last 18 = .ok (.areturn, 1) := by decide +kernel
theorem dX0_chainSize_0 : decode cX0_chainSize 0 = .ok (.iconst 0, 1) := by decide +kernel
theorem dX0_chainSize_1 : decode cX0_chainSize 1 = .ok (.istore_n 1, 1) := by decide +kernel
theorem dX0_chainSize_2 : decode cX0_chainSize 2 = .ok (.aload_n 0, 1) := by decide +kernel
theorem dX0_chainSize_3 : decode cX0_chainSize 3 = .ok (.astore_n 2, 1) := by decide +kernel
theorem dX0_chainSize_4 : decode cX0_chainSize 4 = .ok (.aload_n 2, 1) := by decide +kernel
theorem dX0_chainSize_5 : decode cX0_chainSize 5 = .ok (.ifnull 14, 3) := by decide +kernel
theorem dX0_chainSize_8 : decode cX0_chainSize 8 = .ok (.iinc 1 1, 3) := by decide +kernel
theorem dX0_chainSize_11 : decode cX0_chainSize 11 = .ok (.aload_n 2, 1) := by decide +kernel
theorem dX0_chainSize_12 : decode cX0_chainSize 12 = .ok (.getfield 36, 3) := by decide +kernel
theorem dX0_chainSize_15 : decode cX0_chainSize 15 = .ok (.astore_n 2, 1) := by decide +kernel
theorem dX0_chainSize_16 : decode cX0_chainSize 16 = .ok (.goto (-12), 3) := by decide +kernel
theorem dX0_chainSize_19 : decode cX0_chainSize 19 = .ok (.iload_n 1, 1) := by decide +kernel
theorem dX0_chainSize_20 : decode cX0_chainSize 20 = .ok (.ireturn, 1) := by decide +kernel
theorem dX0_greatestLength_0 : decode cX0_greatestLength 0 = .ok (.iconst 0, 1) := by decide +kernel
theorem dX0_greatestLength_1 : decode cX0_greatestLength 1 = .ok (.istore_n 1, 1) := by decide +kernel
theorem dX0_greatestLength_2 : decode cX0_greatestLength 2 = .ok (.aload_n 0, 1) := by decide +kernel
theorem dX0_greatestLength_3 : decode cX0_greatestLength 3 = .ok (.astore_n 2, 1) := by decide +kernel
theorem dX0_greatestLength_4 : decode cX0_greatestLength 4 = .ok (.aload_n 2, 1) := by decide +kernel
theorem dX0_greatestLength_5 : decode cX0_greatestLength 5 = .ok (.ifnull 20, 3) := by decide +kernel
theorem dX0_greatestLength_8 : decode cX0_greatestLength 8 = .ok (.iload_n 1, 1) := by decide +kernel
theorem dX0_greatestLength_9 : decode cX0_greatestLength 9 = .ok (.aload_n 2, 1) := by decide +kernel
theorem dX0_greatestLength_10 : decode cX0_greatestLength 10 = .ok (.getfield 16, 3) := by decide +kernel
theorem dX0_greatestLength_13 : decode cX0_greatestLength 13 = .ok (.invokestatic 39, 3) := by decide +kernel
theorem dX0_greatestLength_16 : decode cX0_greatestLength 16 = .ok (.istore_n 1, 1) := by decide +kernel
theorem dX0_greatestLength_17 : decode cX0_greatestLength 17 = .ok (.aload_n 2, 1) := by decide +kernel
theorem dX0_greatestLength_18 : decode cX0_greatestLength 18 = .ok (.getfield 36, 3) := by decide +kernel
theorem dX0_greatestLength_21 : decode cX0_greatestLength 21 = .ok (.astore_n 2, 1) := by decide +kernel
theorem dX0_greatestLength_22 : decode cX0_greatestLength 22 = .ok (.goto (-18), 3) := by decide +kernel
theorem dX0_greatestLength_25 : decode cX0_greatestLength 25 = .ok (.iload_n 1, 1) := by decide +kernel
theorem dX0_greatestLength_26 : decode cX0_greatestLength 26 = .ok (.ireturn, 1) := by decide +kernel
theorem dX0_greatestDraught_0 : decode cX0_greatestDraught 0 = .ok (.iconst 0, 1) := by decide +kernel
theorem dX0_greatestDraught_1 : decode cX0_greatestDraught 1 = .ok (.istore_n 2, 1) := by decide +kernel
theorem dX0_greatestDraught_2 : decode cX0_greatestDraught 2 = .ok (.aload_n 0, 1) := by decide +kernel
theorem dX0_greatestDraught_3 : decode cX0_greatestDraught 3 = .ok (.astore_n 3, 1) := by decide +kernel
theorem dX0_greatestDraught_4 : decode cX0_greatestDraught 4 = .ok (.aload_n 3, 1) := by decide +kernel
theorem dX0_greatestDraught_5 : decode cX0_greatestDraught 5 = .ok (.ifnull 25, 3) := by decide +kernel
theorem dX0_greatestDraught_8 : decode cX0_greatestDraught 8 = .ok (.aload_n 3, 1) := by decide +kernel
theorem dX0_greatestDraught_9 : decode cX0_greatestDraught 9 = .ok (.aload_n 1, 1) := by decide +kernel
theorem dX0_greatestDraught_10 : decode cX0_greatestDraught 10 = .ok (.if_acmp .eq 20, 3) := by decide +kernel
theorem dX0_greatestDraught_13 : decode cX0_greatestDraught 13 = .ok (.iload_n 2, 1) := by decide +kernel
theorem dX0_greatestDraught_14 : decode cX0_greatestDraught 14 = .ok (.aload_n 3, 1) := by decide +kernel
theorem dX0_greatestDraught_15 : decode cX0_greatestDraught 15 = .ok (.invokevirtual 45, 3) := by decide +kernel
theorem dX0_greatestDraught_18 : decode cX0_greatestDraught 18 = .ok (.invokestatic 39, 3) := by decide +kernel
theorem dX0_greatestDraught_21 : decode cX0_greatestDraught 21 = .ok (.istore_n 2, 1) := by decide +kernel
theorem dX0_greatestDraught_22 : decode cX0_greatestDraught 22 = .ok (.aload_n 3, 1) := by decide +kernel
theorem dX0_greatestDraught_23 : decode cX0_greatestDraught 23 = .ok (.getfield 36, 3) := by decide +kernel
theorem dX0_greatestDraught_26 : decode cX0_greatestDraught 26 = .ok (.astore_n 3, 1) := by decide +kernel
theorem dX0_greatestDraught_27 : decode cX0_greatestDraught 27 = .ok (.goto (-23), 3) := by decide +kernel
theorem dX0_greatestDraught_30 : decode cX0_greatestDraught 30 = .ok (.iload_n 2, 1) := by decide +kernel
theorem dX0_greatestDraught_31 : decode cX0_greatestDraught 31 = .ok (.ireturn, 1) := by decide +kernel
theorem dX0_nextPart_0 : decode cX0_nextPart 0 = .ok (.aload_n 0, 1) := by decide +kernel
theorem dX0_nextPart_1 : decode cX0_nextPart 1 = .ok (.getfield 16, 3) := by decide +kernel
theorem dX0_nextPart_4 : decode cX0_nextPart 4 = .ok (.istore_n 2, 1) := by decide +kernel
theorem dX0_nextPart_5 : decode cX0_nextPart 5 = .ok (.aload_n 0, 1) := by decide +kernel
theorem dX0_nextPart_6 : decode cX0_nextPart 6 = .ok (.getfield 36, 3) := by decide +kernel
theorem dX0_nextPart_9 : decode cX0_nextPart 9 = .ok (.astore_n 3, 1) := by decide +kernel
theorem dX0_nextPart_10 : decode cX0_nextPart 10 = .ok (.aload_n 3, 1) := by decide +kernel
theorem dX0_nextPart_11 : decode cX0_nextPart 11 = .ok (.ifnull 28, 3) := by decide +kernel
theorem dX0_nextPart_14 : decode cX0_nextPart 14 = .ok (.iload_n 2, 1) := by decide +kernel
theorem dX0_nextPart_15 : decode cX0_nextPart 15 = .ok (.aload_n 3, 1) := by decide +kernel
theorem dX0_nextPart_16 : decode cX0_nextPart 16 = .ok (.getfield 16, 3) := by decide +kernel
theorem dX0_nextPart_19 : decode cX0_nextPart 19 = .ok (.iadd, 1) := by decide +kernel
theorem dX0_nextPart_20 : decode cX0_nextPart 20 = .ok (.iload_n 1, 1) := by decide +kernel
theorem dX0_nextPart_21 : decode cX0_nextPart 21 = .ok (.if_icmp .gt 18, 3) := by decide +kernel
theorem dX0_nextPart_24 : decode cX0_nextPart 24 = .ok (.iload_n 2, 1) := by decide +kernel
theorem dX0_nextPart_25 : decode cX0_nextPart 25 = .ok (.aload_n 3, 1) := by decide +kernel
theorem dX0_nextPart_26 : decode cX0_nextPart 26 = .ok (.getfield 16, 3) := by decide +kernel
theorem dX0_nextPart_29 : decode cX0_nextPart 29 = .ok (.iadd, 1) := by decide +kernel
theorem dX0_nextPart_30 : decode cX0_nextPart 30 = .ok (.istore_n 2, 1) := by decide +kernel
theorem dX0_nextPart_31 : decode cX0_nextPart 31 = .ok (.aload_n 3, 1) := by decide +kernel
theorem dX0_nextPart_32 : decode cX0_nextPart 32 = .ok (.getfield 36, 3) := by decide +kernel
theorem dX0_nextPart_35 : decode cX0_nextPart 35 = .ok (.astore_n 3, 1) := by decide +kernel
theorem dX0_nextPart_36 : decode cX0_nextPart 36 = .ok (.goto (-26), 3) := by decide +kernel
theorem dX0_nextPart_39 : decode cX0_nextPart 39 = .ok (.aload_n 3, 1) := by decide +kernel
theorem dX0_nextPart_40 : decode cX0_nextPart 40 = .ok (.areturn, 1) := by decide +kernel
theorem dX0_parts_0 : decode cX0_parts 0 = .ok (.iconst 0, 1) := by decide +kernel
theorem dX0_parts_1 : decode cX0_parts 1 = .ok (.istore_n 2, 1) := by decide +kernel
theorem dX0_parts_2 : decode cX0_parts 2 = .ok (.aload_n 0, 1) := by decide +kernel
theorem dX0_parts_3 : decode cX0_parts 3 = .ok (.astore_n 3, 1) := by decide +kernel
theorem dX0_parts_4 : decode cX0_parts 4 = .ok (.aload_n 3, 1) := by decide +kernel
theorem dX0_parts_5 : decode cX0_parts 5 = .ok (.ifnull 15, 3) := by decide +kernel
theorem dX0_parts_8 : decode cX0_parts 8 = .ok (.iinc 2 1, 3) := by decide +kernel
theorem dX0_parts_11 : decode cX0_parts 11 = .ok (.aload_n 3, 1) := by decide +kernel
theorem dX0_parts_12 : decode cX0_parts 12 = .ok (.iload_n 1, 1) := by decide +kernel
theorem dX0_parts_13 : decode cX0_parts 13 = .ok (.invokevirtual 49, 3) := by decide +kernel
theorem dX0_parts_16 : decode cX0_parts 16 = .ok (.astore_n 3, 1) := by decide +kernel
theorem dX0_parts_17 : decode cX0_parts 17 = .ok (.goto (-13), 3) := by decide +kernel
theorem dX0_parts_20 : decode cX0_parts 20 = .ok (.iload_n 2, 1) := by decide +kernel
theorem dX0_parts_21 : decode cX0_parts 21 = .ok (.ireturn, 1) := by decide +kernel
theorem dX1_init_0 : decode cX1_init 0 = .ok (.aload_n 0, 1) := by decide +kernel
theorem dX1_init_1 : decode cX1_init 1 = .ok (.invokespecial 1, 3) := by decide +kernel
theorem dX1_init_4 : decode cX1_init 4 = .ok (.aload_n 0, 1) := by decide +kernel
theorem dX1_init_5 : decode cX1_init 5 = .ok (.sipush 256, 3) := by decide +kernel
theorem dX1_init_8 : decode cX1_init 8 = .ok (.newarray .int, 2) := by decide +kernel
theorem dX1_init_10 : decode cX1_init 10 = .ok (.putfield 9, 3) := by decide +kernel
theorem dX1_init_13 : decode cX1_init 13 = .ok (.aload_n 0, 1) := by decide +kernel
theorem dX1_init_14 : decode cX1_init 14 = .ok (.sipush 256, 3) := by decide +kernel
theorem dX1_init_17 : decode cX1_init 17 = .ok (.newarray .int, 2) := by decide +kernel
theorem dX1_init_19 : decode cX1_init 19 = .ok (.putfield 13, 3) := by decide +kernel
theorem dX1_init_22 : decode cX1_init 22 = .ok (.aload_n 0, 1) := by decide +kernel
theorem dX1_init_23 : decode cX1_init 23 = .ok (.sipush 256, 3) := by decide +kernel
theorem dX1_init_26 : decode cX1_init 26 = .ok (.newarray .int, 2) := by decide +kernel
theorem dX1_init_28 : decode cX1_init 28 = .ok (.putfield 16, 3) := by decide +kernel
theorem dX1_init_31 : decode cX1_init 31 = .ok (.return_, 1) := by decide +kernel
theorem dX1_add_0 : decode cX1_add 0 = .ok (.aload_n 0, 1) := by decide +kernel
theorem dX1_add_1 : decode cX1_add 1 = .ok (.getfield 19, 3) := by decide +kernel
theorem dX1_add_4 : decode cX1_add 4 = .ok (.ldc 23, 2) := by decide +kernel
theorem dX1_add_6 : decode cX1_add 6 = .ok (.if_icmp .lt 4, 3) := by decide +kernel
theorem dX1_add_9 : decode cX1_add 9 = .ok (.return_, 1) := by decide +kernel
theorem dX1_add_10 : decode cX1_add 10 = .ok (.aload_n 0, 1) := by decide +kernel
theorem dX1_add_11 : decode cX1_add 11 = .ok (.getfield 19, 3) := by decide +kernel
theorem dX1_add_14 : decode cX1_add 14 = .ok (.aload_n 0, 1) := by decide +kernel
theorem dX1_add_15 : decode cX1_add 15 = .ok (.getfield 9, 3) := by decide +kernel
theorem dX1_add_18 : decode cX1_add 18 = .ok (.arraylength, 1) := by decide +kernel
theorem dX1_add_19 : decode cX1_add 19 = .ok (.if_icmp .lt 51, 3) := by decide +kernel
theorem dX1_add_22 : decode cX1_add 22 = .ok (.iconst 2, 1) := by decide +kernel
theorem dX1_add_23 : decode cX1_add 23 = .ok (.aload_n 0, 1) := by decide +kernel
theorem dX1_add_24 : decode cX1_add 24 = .ok (.getfield 9, 3) := by decide +kernel
theorem dX1_add_27 : decode cX1_add 27 = .ok (.arraylength, 1) := by decide +kernel
theorem dX1_add_28 : decode cX1_add 28 = .ok (.imul, 1) := by decide +kernel
theorem dX1_add_29 : decode cX1_add 29 = .ok (.istore 4, 2) := by decide +kernel
theorem dX1_add_31 : decode cX1_add 31 = .ok (.aload_n 0, 1) := by decide +kernel
theorem dX1_add_32 : decode cX1_add 32 = .ok (.aload_n 0, 1) := by decide +kernel
theorem dX1_add_33 : decode cX1_add 33 = .ok (.getfield 9, 3) := by decide +kernel
theorem dX1_add_36 : decode cX1_add 36 = .ok (.iload 4, 2) := by decide +kernel
theorem dX1_add_38 : decode cX1_add 38 = .ok (.invokestatic 24, 3) := by decide +kernel
theorem dX1_add_41 : decode cX1_add 41 = .ok (.putfield 9, 3) := by decide +kernel
theorem dX1_add_44 : decode cX1_add 44 = .ok (.aload_n 0, 1) := by decide +kernel
theorem dX1_add_45 : decode cX1_add 45 = .ok (.aload_n 0, 1) := by decide +kernel
theorem dX1_add_46 : decode cX1_add 46 = .ok (.getfield 13, 3) := by decide +kernel
theorem dX1_add_49 : decode cX1_add 49 = .ok (.iload 4, 2) := by decide +kernel
theorem dX1_add_51 : decode cX1_add 51 = .ok (.invokestatic 24, 3) := by decide +kernel
theorem dX1_add_54 : decode cX1_add 54 = .ok (.putfield 13, 3) := by decide +kernel
theorem dX1_add_57 : decode cX1_add 57 = .ok (.aload_n 0, 1) := by decide +kernel
theorem dX1_add_58 : decode cX1_add 58 = .ok (.aload_n 0, 1) := by decide +kernel
theorem dX1_add_59 : decode cX1_add 59 = .ok (.getfield 16, 3) := by decide +kernel
theorem dX1_add_62 : decode cX1_add 62 = .ok (.iload 4, 2) := by decide +kernel
theorem dX1_add_64 : decode cX1_add 64 = .ok (.invokestatic 24, 3) := by decide +kernel
theorem dX1_add_67 : decode cX1_add 67 = .ok (.putfield 16, 3) := by decide +kernel
theorem dX1_add_70 : decode cX1_add 70 = .ok (.aload_n 0, 1) := by decide +kernel
theorem dX1_add_71 : decode cX1_add 71 = .ok (.getfield 9, 3) := by decide +kernel
theorem dX1_add_74 : decode cX1_add 74 = .ok (.aload_n 0, 1) := by decide +kernel
theorem dX1_add_75 : decode cX1_add 75 = .ok (.getfield 19, 3) := by decide +kernel
theorem dX1_add_78 : decode cX1_add 78 = .ok (.iload_n 1, 1) := by decide +kernel
theorem dX1_add_79 : decode cX1_add 79 = .ok (.iastore, 1) := by decide +kernel
theorem dX1_add_80 : decode cX1_add 80 = .ok (.aload_n 0, 1) := by decide +kernel
theorem dX1_add_81 : decode cX1_add 81 = .ok (.getfield 13, 3) := by decide +kernel
theorem dX1_add_84 : decode cX1_add 84 = .ok (.aload_n 0, 1) := by decide +kernel
theorem dX1_add_85 : decode cX1_add 85 = .ok (.getfield 19, 3) := by decide +kernel
theorem dX1_add_88 : decode cX1_add 88 = .ok (.iload_n 2, 1) := by decide +kernel
theorem dX1_add_89 : decode cX1_add 89 = .ok (.iastore, 1) := by decide +kernel
theorem dX1_add_90 : decode cX1_add 90 = .ok (.aload_n 0, 1) := by decide +kernel
theorem dX1_add_91 : decode cX1_add 91 = .ok (.getfield 16, 3) := by decide +kernel
theorem dX1_add_94 : decode cX1_add 94 = .ok (.aload_n 0, 1) := by decide +kernel
theorem dX1_add_95 : decode cX1_add 95 = .ok (.getfield 19, 3) := by decide +kernel
theorem dX1_add_98 : decode cX1_add 98 = .ok (.iload_n 3, 1) := by decide +kernel
theorem dX1_add_99 : decode cX1_add 99 = .ok (.iastore, 1) := by decide +kernel
theorem dX1_add_100 : decode cX1_add 100 = .ok (.aload_n 0, 1) := by decide +kernel
theorem dX1_add_101 : decode cX1_add 101 = .ok (.dup, 1) := by decide +kernel
theorem dX1_add_102 : decode cX1_add 102 = .ok (.getfield 19, 3) := by decide +kernel
theorem dX1_add_105 : decode cX1_add 105 = .ok (.iconst 1, 1) := by decide +kernel
theorem dX1_add_106 : decode cX1_add 106 = .ok (.iadd, 1) := by decide +kernel
theorem dX1_add_107 : decode cX1_add 107 = .ok (.putfield 19, 3) := by decide +kernel
theorem dX1_add_110 : decode cX1_add 110 = .ok (.return_, 1) := by decide +kernel
theorem dX1_balanceOf_0 : decode cX1_balanceOf 0 = .ok (.iconst 0, 1) := by decide +kernel
theorem dX1_balanceOf_1 : decode cX1_balanceOf 1 = .ok (.istore_n 2, 1) := by decide +kernel
theorem dX1_balanceOf_2 : decode cX1_balanceOf 2 = .ok (.iconst 0, 1) := by decide +kernel
theorem dX1_balanceOf_3 : decode cX1_balanceOf 3 = .ok (.istore_n 3, 1) := by decide +kernel
theorem dX1_balanceOf_4 : decode cX1_balanceOf 4 = .ok (.iload_n 3, 1) := by decide +kernel
theorem dX1_balanceOf_5 : decode cX1_balanceOf 5 = .ok (.aload_n 0, 1) := by decide +kernel
theorem dX1_balanceOf_6 : decode cX1_balanceOf 6 = .ok (.getfield 19, 3) := by decide +kernel
theorem dX1_balanceOf_9 : decode cX1_balanceOf 9 = .ok (.if_icmp .ge 47, 3) := by decide +kernel
theorem dX1_balanceOf_12 : decode cX1_balanceOf 12 = .ok (.aload_n 0, 1) := by decide +kernel
theorem dX1_balanceOf_13 : decode cX1_balanceOf 13 = .ok (.getfield 13, 3) := by decide +kernel
theorem dX1_balanceOf_16 : decode cX1_balanceOf 16 = .ok (.iload_n 3, 1) := by decide +kernel
theorem dX1_balanceOf_17 : decode cX1_balanceOf 17 = .ok (.iaload, 1) := by decide +kernel
theorem dX1_balanceOf_18 : decode cX1_balanceOf 18 = .ok (.iload_n 1, 1) := by decide +kernel
theorem dX1_balanceOf_19 : decode cX1_balanceOf 19 = .ok (.if_icmp .ne 12, 3) := by decide +kernel
theorem dX1_balanceOf_22 : decode cX1_balanceOf 22 = .ok (.iload_n 2, 1) := by decide +kernel
theorem dX1_balanceOf_23 : decode cX1_balanceOf 23 = .ok (.aload_n 0, 1) := by decide +kernel
theorem dX1_balanceOf_24 : decode cX1_balanceOf 24 = .ok (.getfield 16, 3) := by decide +kernel
theorem dX1_balanceOf_27 : decode cX1_balanceOf 27 = .ok (.iload_n 3, 1) := by decide +kernel
theorem dX1_balanceOf_28 : decode cX1_balanceOf 28 = .ok (.iaload, 1) := by decide +kernel
theorem dX1_balanceOf_29 : decode cX1_balanceOf 29 = .ok (.iadd, 1) := by decide +kernel
theorem dX1_balanceOf_30 : decode cX1_balanceOf 30 = .ok (.istore_n 2, 1) := by decide +kernel
theorem dX1_balanceOf_31 : decode cX1_balanceOf 31 = .ok (.aload_n 0, 1) := by decide +kernel
theorem dX1_balanceOf_32 : decode cX1_balanceOf 32 = .ok (.getfield 9, 3) := by decide +kernel
theorem dX1_balanceOf_35 : decode cX1_balanceOf 35 = .ok (.iload_n 3, 1) := by decide +kernel
theorem dX1_balanceOf_36 : decode cX1_balanceOf 36 = .ok (.iaload, 1) := by decide +kernel
theorem dX1_balanceOf_37 : decode cX1_balanceOf 37 = .ok (.iload_n 1, 1) := by decide +kernel
theorem dX1_balanceOf_38 : decode cX1_balanceOf 38 = .ok (.if_icmp .ne 12, 3) := by decide +kernel
theorem dX1_balanceOf_41 : decode cX1_balanceOf 41 = .ok (.iload_n 2, 1) := by decide +kernel
theorem dX1_balanceOf_42 : decode cX1_balanceOf 42 = .ok (.aload_n 0, 1) := by decide +kernel
theorem dX1_balanceOf_43 : decode cX1_balanceOf 43 = .ok (.getfield 16, 3) := by decide +kernel
theorem dX1_balanceOf_46 : decode cX1_balanceOf 46 = .ok (.iload_n 3, 1) := by decide +kernel
theorem dX1_balanceOf_47 : decode cX1_balanceOf 47 = .ok (.iaload, 1) := by decide +kernel
theorem dX1_balanceOf_48 : decode cX1_balanceOf 48 = .ok (.isub, 1) := by decide +kernel
theorem dX1_balanceOf_49 : decode cX1_balanceOf 49 = .ok (.istore_n 2, 1) := by decide +kernel
theorem dX1_balanceOf_50 : decode cX1_balanceOf 50 = .ok (.iinc 3 1, 3) := by decide +kernel
theorem dX1_balanceOf_53 : decode cX1_balanceOf 53 = .ok (.goto (-49), 3) := by decide +kernel
theorem dX1_balanceOf_56 : decode cX1_balanceOf 56 = .ok (.iload_n 2, 1) := by decide +kernel
theorem dX1_balanceOf_57 : decode cX1_balanceOf 57 = .ok (.ireturn, 1) := by decide +kernel
theorem dX2_init_0 : decode cX2_init 0 = .ok (.aload_n 0, 1) := by decide +kernel
theorem dX2_init_1 : decode cX2_init 1 = .ok (.invokespecial 3, 3) := by decide +kernel
theorem dX2_init_4 : decode cX2_init 4 = .ok (.aload_n 0, 1) := by decide +kernel
theorem dX2_init_5 : decode cX2_init 5 = .ok (.bipush 6, 2) := by decide +kernel
theorem dX2_init_7 : decode cX2_init 7 = .ok (.newarray .int, 2) := by decide +kernel
theorem dX2_init_9 : decode cX2_init 9 = .ok (.putfield 9, 3) := by decide +kernel
theorem dX2_init_12 : decode cX2_init 12 = .ok (.aload_n 0, 1) := by decide +kernel
theorem dX2_init_13 : decode cX2_init 13 = .ok (.iconst 5, 1) := by decide +kernel
theorem dX2_init_14 : decode cX2_init 14 = .ok (.newarray .int, 2) := by decide +kernel
theorem dX2_init_16 : decode cX2_init 16 = .ok (.putfield 15, 3) := by decide +kernel
theorem dX2_init_19 : decode cX2_init 19 = .ok (.aload_n 0, 1) := by decide +kernel
theorem dX2_init_20 : decode cX2_init 20 = .ok (.bipush 18, 2) := by decide +kernel
theorem dX2_init_22 : decode cX2_init 22 = .ok (.newarray .int, 2) := by decide +kernel
theorem dX2_init_24 : decode cX2_init 24 = .ok (.putfield 18, 3) := by decide +kernel
theorem dX2_init_27 : decode cX2_init 27 = .ok (.aload_n 0, 1) := by decide +kernel
theorem dX2_init_28 : decode cX2_init 28 = .ok (.iconst 5, 1) := by decide +kernel
theorem dX2_init_29 : decode cX2_init 29 = .ok (.newarray .int, 2) := by decide +kernel
theorem dX2_init_31 : decode cX2_init 31 = .ok (.putfield 21, 3) := by decide +kernel
theorem dX2_init_34 : decode cX2_init 34 = .ok (.aload_n 0, 1) := by decide +kernel
theorem dX2_init_35 : decode cX2_init 35 = .ok (.bipush 18, 2) := by decide +kernel
theorem dX2_init_37 : decode cX2_init 37 = .ok (.newarray .int, 2) := by decide +kernel
theorem dX2_init_39 : decode cX2_init 39 = .ok (.putfield 24, 3) := by decide +kernel
theorem dX2_init_42 : decode cX2_init 42 = .ok (.aload_n 0, 1) := by decide +kernel
theorem dX2_init_43 : decode cX2_init 43 = .ok (.iconst 5, 1) := by decide +kernel
theorem dX2_init_44 : decode cX2_init 44 = .ok (.newarray .int, 2) := by decide +kernel
theorem dX2_init_46 : decode cX2_init 46 = .ok (.putfield 27, 3) := by decide +kernel
theorem dX2_init_49 : decode cX2_init 49 = .ok (.aload_n 0, 1) := by decide +kernel
theorem dX2_init_50 : decode cX2_init 50 = .ok (.new 30, 3) := by decide +kernel
theorem dX2_init_53 : decode cX2_init 53 = .ok (.dup, 1) := by decide +kernel
theorem dX2_init_54 : decode cX2_init 54 = .ok (.invokespecial 32, 3) := by decide +kernel
theorem dX2_init_57 : decode cX2_init 57 = .ok (.putfield 33, 3) := by decide +kernel
theorem dX2_init_60 : decode cX2_init 60 = .ok (.return_, 1) := by decide +kernel
theorem dX2_addBed_0 : decode cX2_addBed 0 = .ok (.aload_n 0, 1) := by decide +kernel
theorem dX2_addBed_1 : decode cX2_addBed 1 = .ok (.getfield 37, 3) := by decide +kernel
theorem dX2_addBed_4 : decode cX2_addBed 4 = .ok (.istore_n 2, 1) := by decide +kernel
theorem dX2_addBed_5 : decode cX2_addBed 5 = .ok (.aload_n 0, 1) := by decide +kernel
theorem dX2_addBed_6 : decode cX2_addBed 6 = .ok (.getfield 9, 3) := by decide +kernel
theorem dX2_addBed_9 : decode cX2_addBed 9 = .ok (.iload_n 2, 1) := by decide +kernel
theorem dX2_addBed_10 : decode cX2_addBed 10 = .ok (.iload_n 1, 1) := by decide +kernel
theorem dX2_addBed_11 : decode cX2_addBed 11 = .ok (.iastore, 1) := by decide +kernel
theorem dX2_addBed_12 : decode cX2_addBed 12 = .ok (.aload_n 0, 1) := by decide +kernel
theorem dX2_addBed_13 : decode cX2_addBed 13 = .ok (.dup, 1) := by decide +kernel
theorem dX2_addBed_14 : decode cX2_addBed 14 = .ok (.getfield 37, 3) := by decide +kernel
theorem dX2_addBed_17 : decode cX2_addBed 17 = .ok (.iconst 1, 1) := by decide +kernel
theorem dX2_addBed_18 : decode cX2_addBed 18 = .ok (.iadd, 1) := by decide +kernel
theorem dX2_addBed_19 : decode cX2_addBed 19 = .ok (.putfield 37, 3) := by decide +kernel
theorem dX2_addBed_22 : decode cX2_addBed 22 = .ok (.iload_n 2, 1) := by decide +kernel
theorem dX2_addBed_23 : decode cX2_addBed 23 = .ok (.ireturn, 1) := by decide +kernel
theorem dX2_at_0 : decode cX2_at 0 = .ok (.aload_n 0, 1) := by decide +kernel
theorem dX2_at_1 : decode cX2_at 1 = .ok (.getfield 18, 3) := by decide +kernel
theorem dX2_at_4 : decode cX2_at 4 = .ok (.iload_n 1, 1) := by decide +kernel
theorem dX2_at_5 : decode cX2_at 5 = .ok (.bipush (-3), 2) := by decide +kernel
theorem dX2_at_7 : decode cX2_at 7 = .ok (.isub, 1) := by decide +kernel
theorem dX2_at_8 : decode cX2_at 8 = .ok (.iaload, 1) := by decide +kernel
theorem dX2_at_9 : decode cX2_at 9 = .ok (.ireturn, 1) := by decide +kernel
theorem dX2_level_0 : decode cX2_level 0 = .ok (.aload_n 0, 1) := by decide +kernel
theorem dX2_level_1 : decode cX2_level 1 = .ok (.getfield 9, 3) := by decide +kernel
theorem dX2_level_4 : decode cX2_level 4 = .ok (.iload_n 1, 1) := by decide +kernel
theorem dX2_level_5 : decode cX2_level 5 = .ok (.iaload, 1) := by decide +kernel
theorem dX2_level_6 : decode cX2_level 6 = .ok (.istore_n 2, 1) := by decide +kernel
theorem dX2_level_7 : decode cX2_level 7 = .ok (.iload_n 2, 1) := by decide +kernel
theorem dX2_level_8 : decode cX2_level 8 = .ok (.iconst 1, 1) := by decide +kernel
theorem dX2_level_9 : decode cX2_level 9 = .ok (.if_icmp .ge 7, 3) := by decide +kernel
theorem dX2_level_12 : decode cX2_level 12 = .ok (.iconst 0, 1) := by decide +kernel
theorem dX2_level_13 : decode cX2_level 13 = .ok (.goto 10, 3) := by decide +kernel
theorem dX2_level_16 : decode cX2_level 16 = .ok (.aload_n 0, 1) := by decide +kernel
theorem dX2_level_17 : decode cX2_level 17 = .ok (.iload_n 1, 1) := by decide +kernel
theorem dX2_level_18 : decode cX2_level 18 = .ok (.invokevirtual 41, 3) := by decide +kernel
theorem dX2_level_21 : decode cX2_level 21 = .ok (.iload_n 2, 1) := by decide +kernel
theorem dX2_level_22 : decode cX2_level 22 = .ok (.idiv, 1) := by decide +kernel
theorem dX2_level_23 : decode cX2_level 23 = .ok (.ireturn, 1) := by decide +kernel
theorem dX2_hasFullChamber_0 : decode cX2_hasFullChamber 0 = .ok (.aload_n 0, 1) := by decide +kernel
theorem dX2_hasFullChamber_1 : decode cX2_hasFullChamber 1 = .ok (.bipush 10, 2) := by decide +kernel
theorem dX2_hasFullChamber_3 : decode cX2_hasFullChamber 3 = .ok (.iload_n 1, 1) := by decide +kernel
theorem dX2_hasFullChamber_4 : decode cX2_hasFullChamber 4 = .ok (.iadd, 1) := by decide +kernel
theorem dX2_hasFullChamber_5 : decode cX2_hasFullChamber 5 = .ok (.invokevirtual 41, 3) := by decide +kernel
theorem dX2_hasFullChamber_8 : decode cX2_hasFullChamber 8 = .ok (.ifCond .le 7, 3) := by decide +kernel
theorem dX2_hasFullChamber_11 : decode cX2_hasFullChamber 11 = .ok (.iconst 1, 1) := by decide +kernel
theorem dX2_hasFullChamber_12 : decode cX2_hasFullChamber 12 = .ok (.goto 4, 3) := by decide +kernel
theorem dX2_hasFullChamber_15 : decode cX2_hasFullChamber 15 = .ok (.iconst 0, 1) := by decide +kernel
theorem dX2_hasFullChamber_16 : decode cX2_hasFullChamber 16 = .ok (.ireturn, 1) := by decide +kernel
theorem dX2_canFill_0 : decode cX2_canFill 0 = .ok (.aload_n 0, 1) := by decide +kernel
theorem dX2_canFill_1 : decode cX2_canFill 1 = .ok (.iload_n 1, 1) := by decide +kernel
theorem dX2_canFill_2 : decode cX2_canFill 2 = .ok (.invokevirtual 41, 3) := by decide +kernel
theorem dX2_canFill_5 : decode cX2_canFill 5 = .ok (.aload_n 0, 1) := by decide +kernel
theorem dX2_canFill_6 : decode cX2_canFill 6 = .ok (.getfield 15, 3) := by decide +kernel
theorem dX2_canFill_9 : decode cX2_canFill 9 = .ok (.iload_n 1, 1) := by decide +kernel
theorem dX2_canFill_10 : decode cX2_canFill 10 = .ok (.iaload, 1) := by decide +kernel
theorem dX2_canFill_11 : decode cX2_canFill 11 = .ok (.if_icmp .lt 7, 3) := by decide +kernel
theorem dX2_canFill_14 : decode cX2_canFill 14 = .ok (.iconst 1, 1) := by decide +kernel
theorem dX2_canFill_15 : decode cX2_canFill 15 = .ok (.goto 4, 3) := by decide +kernel
theorem dX2_canFill_18 : decode cX2_canFill 18 = .ok (.iconst 0, 1) := by decide +kernel
theorem dX2_canFill_19 : decode cX2_canFill 19 = .ok (.ireturn, 1) := by decide +kernel
theorem dX2_fill_0 : decode cX2_fill 0 = .ok (.aload_n 0, 1) := by decide +kernel
theorem dX2_fill_1 : decode cX2_fill 1 = .ok (.iload_n 1, 1) := by decide +kernel
theorem dX2_fill_2 : decode cX2_fill 2 = .ok (.bipush 10, 2) := by decide +kernel
theorem dX2_fill_4 : decode cX2_fill 4 = .ok (.iload_n 1, 1) := by decide +kernel
theorem dX2_fill_5 : decode cX2_fill 5 = .ok (.iadd, 1) := by decide +kernel
theorem dX2_fill_6 : decode cX2_fill 6 = .ok (.aload_n 0, 1) := by decide +kernel
theorem dX2_fill_7 : decode cX2_fill 7 = .ok (.getfield 15, 3) := by decide +kernel
theorem dX2_fill_10 : decode cX2_fill 10 = .ok (.iload_n 1, 1) := by decide +kernel
theorem dX2_fill_11 : decode cX2_fill 11 = .ok (.iaload, 1) := by decide +kernel
theorem dX2_fill_12 : decode cX2_fill 12 = .ok (.invokevirtual 45, 3) := by decide +kernel
theorem dX2_fill_15 : decode cX2_fill 15 = .ok (.return_, 1) := by decide +kernel
theorem dX2_empty_0 : decode cX2_empty 0 = .ok (.aload_n 0, 1) := by decide +kernel
theorem dX2_empty_1 : decode cX2_empty 1 = .ok (.getfield 21, 3) := by decide +kernel
theorem dX2_empty_4 : decode cX2_empty 4 = .ok (.iload_n 1, 1) := by decide +kernel
theorem dX2_empty_5 : decode cX2_empty 5 = .ok (.dup2, 1) := by decide +kernel
theorem dX2_empty_6 : decode cX2_empty 6 = .ok (.iaload, 1) := by decide +kernel
theorem dX2_empty_7 : decode cX2_empty 7 = .ok (.aload_n 0, 1) := by decide +kernel
theorem dX2_empty_8 : decode cX2_empty 8 = .ok (.getfield 15, 3) := by decide +kernel
theorem dX2_empty_11 : decode cX2_empty 11 = .ok (.iload_n 1, 1) := by decide +kernel
theorem dX2_empty_12 : decode cX2_empty 12 = .ok (.iaload, 1) := by decide +kernel
theorem dX2_empty_13 : decode cX2_empty 13 = .ok (.iadd, 1) := by decide +kernel
theorem dX2_empty_14 : decode cX2_empty 14 = .ok (.iastore, 1) := by decide +kernel
theorem dX2_empty_15 : decode cX2_empty 15 = .ok (.aload_n 0, 1) := by decide +kernel
theorem dX2_empty_16 : decode cX2_empty 16 = .ok (.bipush 10, 2) := by decide +kernel
theorem dX2_empty_18 : decode cX2_empty 18 = .ok (.iload_n 1, 1) := by decide +kernel
theorem dX2_empty_19 : decode cX2_empty 19 = .ok (.iadd, 1) := by decide +kernel
theorem dX2_empty_20 : decode cX2_empty 20 = .ok (.iload_n 1, 1) := by decide +kernel
theorem dX2_empty_21 : decode cX2_empty 21 = .ok (.iconst 1, 1) := by decide +kernel
theorem dX2_empty_22 : decode cX2_empty 22 = .ok (.iadd, 1) := by decide +kernel
theorem dX2_empty_23 : decode cX2_empty 23 = .ok (.aload_n 0, 1) := by decide +kernel
theorem dX2_empty_24 : decode cX2_empty 24 = .ok (.getfield 15, 3) := by decide +kernel
theorem dX2_empty_27 : decode cX2_empty 27 = .ok (.iload_n 1, 1) := by decide +kernel
theorem dX2_empty_28 : decode cX2_empty 28 = .ok (.iaload, 1) := by decide +kernel
theorem dX2_empty_29 : decode cX2_empty 29 = .ok (.invokevirtual 45, 3) := by decide +kernel
theorem dX2_empty_32 : decode cX2_empty 32 = .ok (.return_, 1) := by decide +kernel
theorem dX2_send_0 : decode cX2_send 0 = .ok (.iload_n 1, 1) := by decide +kernel
theorem dX2_send_1 : decode cX2_send 1 = .ok (.istore 4, 2) := by decide +kernel
theorem dX2_send_3 : decode cX2_send 3 = .ok (.iload_n 2, 1) := by decide +kernel
theorem dX2_send_4 : decode cX2_send 4 = .ok (.istore 5, 2) := by decide +kernel
theorem dX2_send_6 : decode cX2_send 6 = .ok (.iload_n 3, 1) := by decide +kernel
theorem dX2_send_7 : decode cX2_send 7 = .ok (.istore 6, 2) := by decide +kernel
theorem dX2_send_9 : decode cX2_send 9 = .ok (.iconst 0, 1) := by decide +kernel
theorem dX2_send_10 : decode cX2_send 10 = .ok (.istore 7, 2) := by decide +kernel
theorem dX2_send_12 : decode cX2_send 12 = .ok (.iload 7, 2) := by decide +kernel
theorem dX2_send_14 : decode cX2_send 14 = .ok (.bipush 6, 2) := by decide +kernel
theorem dX2_send_16 : decode cX2_send 16 = .ok (.if_icmp .gt 91, 3) := by decide +kernel
theorem dX2_send_19 : decode cX2_send 19 = .ok (.iload 6, 2) := by decide +kernel
theorem dX2_send_21 : decode cX2_send 21 = .ok (.ifCond .le 86, 3) := by decide +kernel
theorem dX2_send_24 : decode cX2_send 24 = .ok (.aload_n 0, 1) := by decide +kernel
theorem dX2_send_25 : decode cX2_send 25 = .ok (.getfield 18, 3) := by decide +kernel
theorem dX2_send_28 : decode cX2_send 28 = .ok (.iload 4, 2) := by decide +kernel
theorem dX2_send_30 : decode cX2_send 30 = .ok (.bipush (-3), 2) := by decide +kernel
theorem dX2_send_32 : decode cX2_send 32 = .ok (.isub, 1) := by decide +kernel
theorem dX2_send_33 : decode cX2_send 33 = .ok (.dup2, 1) := by decide +kernel
theorem dX2_send_34 : decode cX2_send 34 = .ok (.iaload, 1) := by decide +kernel
theorem dX2_send_35 : decode cX2_send 35 = .ok (.iload 6, 2) := by decide +kernel
theorem dX2_send_37 : decode cX2_send 37 = .ok (.isub, 1) := by decide +kernel
theorem dX2_send_38 : decode cX2_send 38 = .ok (.iastore, 1) := by decide +kernel
theorem dX2_send_39 : decode cX2_send 39 = .ok (.aload_n 0, 1) := by decide +kernel
theorem dX2_send_40 : decode cX2_send 40 = .ok (.getfield 18, 3) := by decide +kernel
theorem dX2_send_43 : decode cX2_send 43 = .ok (.iload 5, 2) := by decide +kernel
theorem dX2_send_45 : decode cX2_send 45 = .ok (.bipush (-3), 2) := by decide +kernel
theorem dX2_send_47 : decode cX2_send 47 = .ok (.isub, 1) := by decide +kernel
theorem dX2_send_48 : decode cX2_send 48 = .ok (.dup2, 1) := by decide +kernel
theorem dX2_send_49 : decode cX2_send 49 = .ok (.iaload, 1) := by decide +kernel
theorem dX2_send_50 : decode cX2_send 50 = .ok (.iload 6, 2) := by decide +kernel
theorem dX2_send_52 : decode cX2_send 52 = .ok (.iadd, 1) := by decide +kernel
theorem dX2_send_53 : decode cX2_send 53 = .ok (.iastore, 1) := by decide +kernel
theorem dX2_send_54 : decode cX2_send 54 = .ok (.aload_n 0, 1) := by decide +kernel
theorem dX2_send_55 : decode cX2_send 55 = .ok (.getfield 33, 3) := by decide +kernel
theorem dX2_send_58 : decode cX2_send 58 = .ok (.iload 4, 2) := by decide +kernel
theorem dX2_send_60 : decode cX2_send 60 = .ok (.iload 5, 2) := by decide +kernel
theorem dX2_send_62 : decode cX2_send 62 = .ok (.iload 6, 2) := by decide +kernel
theorem dX2_send_64 : decode cX2_send 64 = .ok (.invokevirtual 49, 3) := by decide +kernel
theorem dX2_send_67 : decode cX2_send 67 = .ok (.aload_n 0, 1) := by decide +kernel
theorem dX2_send_68 : decode cX2_send 68 = .ok (.iload 5, 2) := by decide +kernel
theorem dX2_send_70 : decode cX2_send 70 = .ok (.invokevirtual 52, 3) := by decide +kernel
theorem dX2_send_73 : decode cX2_send 73 = .ok (.istore 6, 2) := by decide +kernel
theorem dX2_send_75 : decode cX2_send 75 = .ok (.iload 5, 2) := by decide +kernel
theorem dX2_send_77 : decode cX2_send 77 = .ok (.istore 4, 2) := by decide +kernel
theorem dX2_send_79 : decode cX2_send 79 = .ok (.iload 5, 2) := by decide +kernel
theorem dX2_send_81 : decode cX2_send 81 = .ok (.iconst 1, 1) := by decide +kernel
theorem dX2_send_82 : decode cX2_send 82 = .ok (.iadd, 1) := by decide +kernel
theorem dX2_send_83 : decode cX2_send 83 = .ok (.aload_n 0, 1) := by decide +kernel
theorem dX2_send_84 : decode cX2_send 84 = .ok (.getfield 37, 3) := by decide +kernel
theorem dX2_send_87 : decode cX2_send 87 = .ok (.if_icmp .ge 10, 3) := by decide +kernel
theorem dX2_send_90 : decode cX2_send 90 = .ok (.iload 5, 2) := by decide +kernel
theorem dX2_send_92 : decode cX2_send 92 = .ok (.iconst 1, 1) := by decide +kernel
theorem dX2_send_93 : decode cX2_send 93 = .ok (.iadd, 1) := by decide +kernel
theorem dX2_send_94 : decode cX2_send 94 = .ok (.goto 5, 3) := by decide +kernel
theorem dX2_send_97 : decode cX2_send 97 = .ok (.bipush (-2), 2) := by decide +kernel
theorem dX2_send_99 : decode cX2_send 99 = .ok (.istore 5, 2) := by decide +kernel
theorem dX2_send_101 : decode cX2_send 101 = .ok (.iinc 7 1, 3) := by decide +kernel
theorem dX2_send_104 : decode cX2_send 104 = .ok (.goto (-92), 3) := by decide +kernel
theorem dX2_send_107 : decode cX2_send 107 = .ok (.return_, 1) := by decide +kernel
theorem dX2_excess_0 : decode cX2_excess 0 = .ok (.iload_n 1, 1) := by decide +kernel
theorem dX2_excess_1 : decode cX2_excess 1 = .ok (.ifCond .lt 11, 3) := by decide +kernel
theorem dX2_excess_4 : decode cX2_excess 4 = .ok (.iload_n 1, 1) := by decide +kernel
theorem dX2_excess_5 : decode cX2_excess 5 = .ok (.aload_n 0, 1) := by decide +kernel
theorem dX2_excess_6 : decode cX2_excess 6 = .ok (.getfield 37, 3) := by decide +kernel
theorem dX2_excess_9 : decode cX2_excess 9 = .ok (.if_icmp .lt 5, 3) := by decide +kernel
theorem dX2_excess_12 : decode cX2_excess 12 = .ok (.iconst 0, 1) := by decide +kernel
theorem dX2_excess_13 : decode cX2_excess 13 = .ok (.ireturn, 1) := by decide +kernel
theorem dX2_excess_14 : decode cX2_excess 14 = .ok (.aload_n 0, 1) := by decide +kernel
theorem dX2_excess_15 : decode cX2_excess 15 = .ok (.getfield 18, 3) := by decide +kernel
theorem dX2_excess_18 : decode cX2_excess 18 = .ok (.iload_n 1, 1) := by decide +kernel
theorem dX2_excess_19 : decode cX2_excess 19 = .ok (.bipush (-3), 2) := by decide +kernel
theorem dX2_excess_21 : decode cX2_excess 21 = .ok (.isub, 1) := by decide +kernel
theorem dX2_excess_22 : decode cX2_excess 22 = .ok (.iaload, 1) := by decide +kernel
theorem dX2_excess_23 : decode cX2_excess 23 = .ok (.bipush 60, 2) := by decide +kernel
theorem dX2_excess_25 : decode cX2_excess 25 = .ok (.aload_n 0, 1) := by decide +kernel
theorem dX2_excess_26 : decode cX2_excess 26 = .ok (.getfield 9, 3) := by decide +kernel
theorem dX2_excess_29 : decode cX2_excess 29 = .ok (.iload_n 1, 1) := by decide +kernel
theorem dX2_excess_30 : decode cX2_excess 30 = .ok (.iaload, 1) := by decide +kernel
theorem dX2_excess_31 : decode cX2_excess 31 = .ok (.imul, 1) := by decide +kernel
theorem dX2_excess_32 : decode cX2_excess 32 = .ok (.isub, 1) := by decide +kernel
theorem dX2_excess_33 : decode cX2_excess 33 = .ok (.ireturn, 1) := by decide +kernel
theorem dX2_throughTotal_0 : decode cX2_throughTotal 0 = .ok (.iconst 0, 1) := by decide +kernel
theorem dX2_throughTotal_1 : decode cX2_throughTotal 1 = .ok (.istore_n 1, 1) := by decide +kernel
theorem dX2_throughTotal_2 : decode cX2_throughTotal 2 = .ok (.iconst 0, 1) := by decide +kernel
theorem dX2_throughTotal_3 : decode cX2_throughTotal 3 = .ok (.istore_n 2, 1) := by decide +kernel
theorem dX2_throughTotal_4 : decode cX2_throughTotal 4 = .ok (.iload_n 2, 1) := by decide +kernel
theorem dX2_throughTotal_5 : decode cX2_throughTotal 5 = .ok (.iconst 5, 1) := by decide +kernel
theorem dX2_throughTotal_6 : decode cX2_throughTotal 6 = .ok (.if_icmp .ge 18, 3) := by decide +kernel
theorem dX2_throughTotal_9 : decode cX2_throughTotal 9 = .ok (.iload_n 1, 1) := by decide +kernel
theorem dX2_throughTotal_10 : decode cX2_throughTotal 10 = .ok (.aload_n 0, 1) := by decide +kernel
theorem dX2_throughTotal_11 : decode cX2_throughTotal 11 = .ok (.getfield 21, 3) := by decide +kernel
theorem dX2_throughTotal_14 : decode cX2_throughTotal 14 = .ok (.iload_n 2, 1) := by decide +kernel
theorem dX2_throughTotal_15 : decode cX2_throughTotal 15 = .ok (.iaload, 1) := by decide +kernel
theorem dX2_throughTotal_16 : decode cX2_throughTotal 16 = .ok (.iadd, 1) := by decide +kernel
theorem dX2_throughTotal_17 : decode cX2_throughTotal 17 = .ok (.istore_n 1, 1) := by decide +kernel
theorem dX2_throughTotal_18 : decode cX2_throughTotal 18 = .ok (.iinc 2 1, 3) := by decide +kernel
theorem dX2_throughTotal_21 : decode cX2_throughTotal 21 = .ok (.goto (-17), 3) := by decide +kernel
theorem dX2_throughTotal_24 : decode cX2_throughTotal 24 = .ok (.iload_n 1, 1) := by decide +kernel
theorem dX2_throughTotal_25 : decode cX2_throughTotal 25 = .ok (.ireturn, 1) := by decide +kernel
theorem dX2_save_0 : decode cX2_save 0 = .ok (.aload_n 0, 1) := by decide +kernel
theorem dX2_save_1 : decode cX2_save 1 = .ok (.getfield 18, 3) := by decide +kernel
theorem dX2_save_4 : decode cX2_save 4 = .ok (.iconst 0, 1) := by decide +kernel
theorem dX2_save_5 : decode cX2_save 5 = .ok (.aload_n 0, 1) := by decide +kernel
theorem dX2_save_6 : decode cX2_save 6 = .ok (.getfield 24, 3) := by decide +kernel
theorem dX2_save_9 : decode cX2_save 9 = .ok (.iconst 0, 1) := by decide +kernel
theorem dX2_save_10 : decode cX2_save 10 = .ok (.bipush 18, 2) := by decide +kernel
theorem dX2_save_12 : decode cX2_save 12 = .ok (.invokestatic 55, 3) := by decide +kernel
theorem dX2_save_15 : decode cX2_save 15 = .ok (.aload_n 0, 1) := by decide +kernel
theorem dX2_save_16 : decode cX2_save 16 = .ok (.getfield 21, 3) := by decide +kernel
theorem dX2_save_19 : decode cX2_save 19 = .ok (.iconst 0, 1) := by decide +kernel
theorem dX2_save_20 : decode cX2_save 20 = .ok (.aload_n 0, 1) := by decide +kernel
theorem dX2_save_21 : decode cX2_save 21 = .ok (.getfield 27, 3) := by decide +kernel
theorem dX2_save_24 : decode cX2_save 24 = .ok (.iconst 0, 1) := by decide +kernel
theorem dX2_save_25 : decode cX2_save 25 = .ok (.iconst 5, 1) := by decide +kernel
theorem dX2_save_26 : decode cX2_save 26 = .ok (.invokestatic 55, 3) := by decide +kernel
theorem dX2_save_29 : decode cX2_save 29 = .ok (.aload_n 0, 1) := by decide +kernel
theorem dX2_save_30 : decode cX2_save 30 = .ok (.aload_n 0, 1) := by decide +kernel
theorem dX2_save_31 : decode cX2_save 31 = .ok (.getfield 33, 3) := by decide +kernel
theorem dX2_save_34 : decode cX2_save 34 = .ok (.getfield 61, 3) := by decide +kernel
theorem dX2_save_37 : decode cX2_save 37 = .ok (.putfield 64, 3) := by decide +kernel
theorem dX2_save_40 : decode cX2_save 40 = .ok (.return_, 1) := by decide +kernel
theorem dX2_restore_0 : decode cX2_restore 0 = .ok (.aload_n 0, 1) := by decide +kernel
theorem dX2_restore_1 : decode cX2_restore 1 = .ok (.getfield 24, 3) := by decide +kernel
theorem dX2_restore_4 : decode cX2_restore 4 = .ok (.iconst 0, 1) := by decide +kernel
theorem dX2_restore_5 : decode cX2_restore 5 = .ok (.aload_n 0, 1) := by decide +kernel
theorem dX2_restore_6 : decode cX2_restore 6 = .ok (.getfield 18, 3) := by decide +kernel
theorem dX2_restore_9 : decode cX2_restore 9 = .ok (.iconst 0, 1) := by decide +kernel
theorem dX2_restore_10 : decode cX2_restore 10 = .ok (.bipush 18, 2) := by decide +kernel
theorem dX2_restore_12 : decode cX2_restore 12 = .ok (.invokestatic 55, 3) := by decide +kernel
theorem dX2_restore_15 : decode cX2_restore 15 = .ok (.aload_n 0, 1) := by decide +kernel
theorem dX2_restore_16 : decode cX2_restore 16 = .ok (.getfield 27, 3) := by decide +kernel
theorem dX2_restore_19 : decode cX2_restore 19 = .ok (.iconst 0, 1) := by decide +kernel
theorem dX2_restore_20 : decode cX2_restore 20 = .ok (.aload_n 0, 1) := by decide +kernel
theorem dX2_restore_21 : decode cX2_restore 21 = .ok (.getfield 21, 3) := by decide +kernel
theorem dX2_restore_24 : decode cX2_restore 24 = .ok (.iconst 0, 1) := by decide +kernel
theorem dX2_restore_25 : decode cX2_restore 25 = .ok (.iconst 5, 1) := by decide +kernel
theorem dX2_restore_26 : decode cX2_restore 26 = .ok (.invokestatic 55, 3) := by decide +kernel
theorem dX2_restore_29 : decode cX2_restore 29 = .ok (.aload_n 0, 1) := by decide +kernel
theorem dX2_restore_30 : decode cX2_restore 30 = .ok (.getfield 33, 3) := by decide +kernel
theorem dX2_restore_33 : decode cX2_restore 33 = .ok (.aload_n 0, 1) := by decide +kernel
theorem dX2_restore_34 : decode cX2_restore 34 = .ok (.getfield 64, 3) := by decide +kernel
theorem dX2_restore_37 : decode cX2_restore 37 = .ok (.putfield 61, 3) := by decide +kernel
theorem dX2_restore_40 : decode cX2_restore 40 = .ok (.return_, 1) := by decide +kernel
theorem dX3_init_0 : decode cX3_init 0 = .ok (.aload_n 0, 1) := by decide +kernel
theorem dX3_init_1 : decode cX3_init 1 = .ok (.invokespecial 3, 3) := by decide +kernel
theorem dX3_init_4 : decode cX3_init 4 = .ok (.aload_n 0, 1) := by decide +kernel
theorem dX3_init_5 : decode cX3_init 5 = .ok (.new 9, 3) := by decide +kernel
theorem dX3_init_8 : decode cX3_init 8 = .ok (.dup, 1) := by decide +kernel
theorem dX3_init_9 : decode cX3_init 9 = .ok (.invokespecial 11, 3) := by decide +kernel
theorem dX3_init_12 : decode cX3_init 12 = .ok (.putfield 12, 3) := by decide +kernel
theorem dX3_init_15 : decode cX3_init 15 = .ok (.aload_n 0, 1) := by decide +kernel
theorem dX3_init_16 : decode cX3_init 16 = .ok (.iconst 5, 1) := by decide +kernel
theorem dX3_init_17 : decode cX3_init 17 = .ok (.newarray .int, 2) := by decide +kernel
theorem dX3_init_19 : decode cX3_init 19 = .ok (.putfield 16, 3) := by decide +kernel
theorem dX3_init_22 : decode cX3_init 22 = .ok (.aload_n 0, 1) := by decide +kernel
theorem dX3_init_23 : decode cX3_init 23 = .ok (.iconst 5, 1) := by decide +kernel
theorem dX3_init_24 : decode cX3_init 24 = .ok (.newarray .int, 2) := by decide +kernel
theorem dX3_init_26 : decode cX3_init 26 = .ok (.putfield 20, 3) := by decide +kernel
theorem dX3_init_29 : decode cX3_init 29 = .ok (.aload_n 0, 1) := by decide +kernel
theorem dX3_init_30 : decode cX3_init 30 = .ok (.bipush 6, 2) := by decide +kernel
theorem dX3_init_32 : decode cX3_init 32 = .ok (.newarray .int, 2) := by decide +kernel
theorem dX3_init_34 : decode cX3_init 34 = .ok (.putfield 23, 3) := by decide +kernel
theorem dX3_init_37 : decode cX3_init 37 = .ok (.aload_n 0, 1) := by decide +kernel
theorem dX3_init_38 : decode cX3_init 38 = .ok (.bipush 6, 2) := by decide +kernel
theorem dX3_init_40 : decode cX3_init 40 = .ok (.newarray .int, 2) := by decide +kernel
theorem dX3_init_42 : decode cX3_init 42 = .ok (.putfield 26, 3) := by decide +kernel
theorem dX3_init_45 : decode cX3_init 45 = .ok (.aload_n 0, 1) := by decide +kernel
theorem dX3_init_46 : decode cX3_init 46 = .ok (.bipush 8, 2) := by decide +kernel
theorem dX3_init_48 : decode cX3_init 48 = .ok (.anewarray 29, 3) := by decide +kernel
theorem dX3_init_51 : decode cX3_init 51 = .ok (.putfield 31, 3) := by decide +kernel
theorem dX3_init_54 : decode cX3_init 54 = .ok (.aload_n 0, 1) := by decide +kernel
theorem dX3_init_55 : decode cX3_init 55 = .ok (.new 35, 3) := by decide +kernel
theorem dX3_init_58 : decode cX3_init 58 = .ok (.dup, 1) := by decide +kernel
theorem dX3_init_59 : decode cX3_init 59 = .ok (.invokespecial 37, 3) := by decide +kernel
theorem dX3_init_62 : decode cX3_init 62 = .ok (.putfield 38, 3) := by decide +kernel
theorem dX3_init_65 : decode cX3_init 65 = .ok (.aload_n 0, 1) := by decide +kernel
theorem dX3_init_66 : decode cX3_init 66 = .ok (.ldc2_w 42, 3) := by decide +kernel
theorem dX3_init_69 : decode cX3_init 69 = .ok (.putfield 44, 3) := by decide +kernel
theorem dX3_init_72 : decode cX3_init 72 = .ok (.aload_n 0, 1) := by decide +kernel
theorem dX3_init_73 : decode cX3_init 73 = .ok (.iconst 0, 1) := by decide +kernel
theorem dX3_init_74 : decode cX3_init 74 = .ok (.putfield 48, 3) := by decide +kernel
theorem dX3_init_77 : decode cX3_init 77 = .ok (.aload_n 0, 1) := by decide +kernel
theorem dX3_init_78 : decode cX3_init 78 = .ok (.bipush 20, 2) := by decide +kernel
theorem dX3_init_80 : decode cX3_init 80 = .ok (.bipush 30, 2) := by decide +kernel
theorem dX3_init_82 : decode cX3_init 82 = .ok (.invokevirtual 52, 3) := by decide +kernel
theorem dX3_init_85 : decode cX3_init 85 = .ok (.pop, 1) := by decide +kernel
theorem dX3_init_86 : decode cX3_init 86 = .ok (.return_, 1) := by decide +kernel
theorem dX3_addReach_0 : decode cX3_addReach 0 = .ok (.iload_n 1, 1) := by decide +kernel
theorem dX3_addReach_1 : decode cX3_addReach 1 = .ok (.iconst 1, 1) := by decide +kernel
theorem dX3_addReach_2 : decode cX3_addReach 2 = .ok (.bipush 50, 2) := by decide +kernel
theorem dX3_addReach_4 : decode cX3_addReach 4 = .ok (.invokestatic 56, 3) := by decide +kernel
theorem dX3_addReach_7 : decode cX3_addReach 7 = .ok (.ifCond .eq 48, 3) := by decide +kernel
theorem dX3_addReach_10 : decode cX3_addReach 10 = .ok (.iload_n 2, 1) := by decide +kernel
theorem dX3_addReach_11 : decode cX3_addReach 11 = .ok (.iconst 0, 1) := by decide +kernel
theorem dX3_addReach_12 : decode cX3_addReach 12 = .ok (.bipush 60, 2) := by decide +kernel
theorem dX3_addReach_14 : decode cX3_addReach 14 = .ok (.invokestatic 56, 3) := by decide +kernel
theorem dX3_addReach_17 : decode cX3_addReach 17 = .ok (.ifCond .eq 38, 3) := by decide +kernel
theorem dX3_addReach_20 : decode cX3_addReach 20 = .ok (.iload_n 3, 1) := by decide +kernel
theorem dX3_addReach_21 : decode cX3_addReach 21 = .ok (.iconst 1, 1) := by decide +kernel
theorem dX3_addReach_22 : decode cX3_addReach 22 = .ok (.sipush 200, 3) := by decide +kernel
theorem dX3_addReach_25 : decode cX3_addReach 25 = .ok (.invokestatic 56, 3) := by decide +kernel
theorem dX3_addReach_28 : decode cX3_addReach 28 = .ok (.ifCond .eq 27, 3) := by decide +kernel
theorem dX3_addReach_31 : decode cX3_addReach 31 = .ok (.iload 4, 2) := by decide +kernel
theorem dX3_addReach_33 : decode cX3_addReach 33 = .ok (.bipush 10, 2) := by decide +kernel
theorem dX3_addReach_35 : decode cX3_addReach 35 = .ok (.sipush 200, 3) := by decide +kernel
theorem dX3_addReach_38 : decode cX3_addReach 38 = .ok (.invokestatic 56, 3) := by decide +kernel
theorem dX3_addReach_41 : decode cX3_addReach 41 = .ok (.ifCond .eq 14, 3) := by decide +kernel
theorem dX3_addReach_44 : decode cX3_addReach 44 = .ok (.iload 5, 2) := by decide +kernel
theorem dX3_addReach_46 : decode cX3_addReach 46 = .ok (.iconst 5, 1) := by decide +kernel
theorem dX3_addReach_47 : decode cX3_addReach 47 = .ok (.bipush 60, 2) := by decide +kernel
theorem dX3_addReach_49 : decode cX3_addReach 49 = .ok (.invokestatic 56, 3) := by decide +kernel
theorem dX3_addReach_52 : decode cX3_addReach 52 = .ok (.ifCond .ne 13, 3) := by decide +kernel
theorem dX3_addReach_55 : decode cX3_addReach 55 = .ok (.new 60, 3) := by decide +kernel
theorem dX3_addReach_58 : decode cX3_addReach 58 = .ok (.dup, 1) := by decide +kernel
theorem dX3_addReach_59 : decode cX3_addReach 59 = .ok (.ldc 62, 2) := by decide +kernel
theorem dX3_addReach_61 : decode cX3_addReach 61 = .ok (.invokespecial 64, 3) := by decide +kernel
theorem dX3_addReach_64 : decode cX3_addReach 64 = .ok (.athrow, 1) := by decide +kernel
theorem dX3_addReach_65 : decode cX3_addReach 65 = .ok (.aload_n 0, 1) := by decide +kernel
theorem dX3_addReach_66 : decode cX3_addReach 66 = .ok (.getfield 12, 3) := by decide +kernel
theorem dX3_addReach_69 : decode cX3_addReach 69 = .ok (.getfield 67, 3) := by decide +kernel
theorem dX3_addReach_72 : decode cX3_addReach 72 = .ok (.bipush 6, 2) := by decide +kernel
theorem dX3_addReach_74 : decode cX3_addReach 74 = .ok (.if_icmp .lt 13, 3) := by decide +kernel
theorem dX3_addReach_77 : decode cX3_addReach 77 = .ok (.new 70, 3) := by decide +kernel
theorem dX3_addReach_80 : decode cX3_addReach 80 = .ok (.dup, 1) := by decide +kernel
theorem dX3_addReach_81 : decode cX3_addReach 81 = .ok (.ldc 72, 2) := by decide +kernel
theorem dX3_addReach_83 : decode cX3_addReach 83 = .ok (.invokespecial 74, 3) := by decide +kernel
theorem dX3_addReach_86 : decode cX3_addReach 86 = .ok (.athrow, 1) := by decide +kernel
theorem dX3_addReach_87 : decode cX3_addReach 87 = .ok (.aload_n 0, 1) := by decide +kernel
theorem dX3_addReach_88 : decode cX3_addReach 88 = .ok (.getfield 12, 3) := by decide +kernel
theorem dX3_addReach_91 : decode cX3_addReach 91 = .ok (.getfield 67, 3) := by decide +kernel
theorem dX3_addReach_94 : decode cX3_addReach 94 = .ok (.iconst 1, 1) := by decide +kernel
theorem dX3_addReach_95 : decode cX3_addReach 95 = .ok (.isub, 1) := by decide +kernel
theorem dX3_addReach_96 : decode cX3_addReach 96 = .ok (.istore 6, 2) := by decide +kernel
theorem dX3_addReach_98 : decode cX3_addReach 98 = .ok (.aload_n 0, 1) := by decide +kernel
theorem dX3_addReach_99 : decode cX3_addReach 99 = .ok (.getfield 12, 3) := by decide +kernel
theorem dX3_addReach_102 : decode cX3_addReach 102 = .ok (.getfield 75, 3) := by decide +kernel
theorem dX3_addReach_105 : decode cX3_addReach 105 = .ok (.iload 6, 2) := by decide +kernel
theorem dX3_addReach_107 : decode cX3_addReach 107 = .ok (.iload_n 3, 1) := by decide +kernel
theorem dX3_addReach_108 : decode cX3_addReach 108 = .ok (.iastore, 1) := by decide +kernel
theorem dX3_addReach_109 : decode cX3_addReach 109 = .ok (.aload_n 0, 1) := by decide +kernel
theorem dX3_addReach_110 : decode cX3_addReach 110 = .ok (.getfield 16, 3) := by decide +kernel
theorem dX3_addReach_113 : decode cX3_addReach 113 = .ok (.iload 6, 2) := by decide +kernel
theorem dX3_addReach_115 : decode cX3_addReach 115 = .ok (.iload 4, 2) := by decide +kernel
theorem dX3_addReach_117 : decode cX3_addReach 117 = .ok (.iastore, 1) := by decide +kernel
theorem dX3_addReach_118 : decode cX3_addReach 118 = .ok (.aload_n 0, 1) := by decide +kernel
theorem dX3_addReach_119 : decode cX3_addReach 119 = .ok (.getfield 20, 3) := by decide +kernel
theorem dX3_addReach_122 : decode cX3_addReach 122 = .ok (.iload 6, 2) := by decide +kernel
theorem dX3_addReach_124 : decode cX3_addReach 124 = .ok (.iload 5, 2) := by decide +kernel
theorem dX3_addReach_126 : decode cX3_addReach 126 = .ok (.iastore, 1) := by decide +kernel
theorem dX3_addReach_127 : decode cX3_addReach 127 = .ok (.aload_n 0, 1) := by decide +kernel
theorem dX3_addReach_128 : decode cX3_addReach 128 = .ok (.iload_n 1, 1) := by decide +kernel
theorem dX3_addReach_129 : decode cX3_addReach 129 = .ok (.iload_n 2, 1) := by decide +kernel
theorem dX3_addReach_130 : decode cX3_addReach 130 = .ok (.invokevirtual 52, 3) := by decide +kernel
theorem dX3_addReach_133 : decode cX3_addReach 133 = .ok (.ireturn, 1) := by decide +kernel
theorem dX3_reachCount_0 : decode cX3_reachCount 0 = .ok (.aload_n 0, 1) := by decide +kernel
theorem dX3_reachCount_1 : decode cX3_reachCount 1 = .ok (.getfield 12, 3) := by decide +kernel
theorem dX3_reachCount_4 : decode cX3_reachCount 4 = .ok (.getfield 67, 3) := by decide +kernel
theorem dX3_reachCount_7 : decode cX3_reachCount 7 = .ok (.ireturn, 1) := by decide +kernel
theorem dX3_areaOf_0 : decode cX3_areaOf 0 = .ok (.aload_n 0, 1) := by decide +kernel
theorem dX3_areaOf_1 : decode cX3_areaOf 1 = .ok (.iload_n 1, 1) := by decide +kernel
theorem dX3_areaOf_2 : decode cX3_areaOf 2 = .ok (.invokevirtual 78, 3) := by decide +kernel
theorem dX3_areaOf_5 : decode cX3_areaOf 5 = .ok (.aload_n 0, 1) := by decide +kernel
theorem dX3_areaOf_6 : decode cX3_areaOf 6 = .ok (.getfield 12, 3) := by decide +kernel
theorem dX3_areaOf_9 : decode cX3_areaOf 9 = .ok (.getfield 82, 3) := by decide +kernel
theorem dX3_areaOf_12 : decode cX3_areaOf 12 = .ok (.iload_n 1, 1) := by decide +kernel
theorem dX3_areaOf_13 : decode cX3_areaOf 13 = .ok (.iaload, 1) := by decide +kernel
theorem dX3_areaOf_14 : decode cX3_areaOf 14 = .ok (.ireturn, 1) := by decide +kernel
theorem dX3_volumeOf_0 : decode cX3_volumeOf 0 = .ok (.aload_n 0, 1) := by decide +kernel
theorem dX3_volumeOf_1 : decode cX3_volumeOf 1 = .ok (.iload_n 1, 1) := by decide +kernel
theorem dX3_volumeOf_2 : decode cX3_volumeOf 2 = .ok (.invokevirtual 78, 3) := by decide +kernel
theorem dX3_volumeOf_5 : decode cX3_volumeOf 5 = .ok (.aload_n 0, 1) := by decide +kernel
theorem dX3_volumeOf_6 : decode cX3_volumeOf 6 = .ok (.getfield 12, 3) := by decide +kernel
theorem dX3_volumeOf_9 : decode cX3_volumeOf 9 = .ok (.iload_n 1, 1) := by decide +kernel
theorem dX3_volumeOf_10 : decode cX3_volumeOf 10 = .ok (.invokevirtual 85, 3) := by decide +kernel
theorem dX3_volumeOf_13 : decode cX3_volumeOf 13 = .ok (.ireturn, 1) := by decide +kernel
theorem dX3_volumeBySteps_0 : decode cX3_volumeBySteps 0 = .ok (.aload_n 0, 1) := by decide +kernel
theorem dX3_volumeBySteps_1 : decode cX3_volumeBySteps 1 = .ok (.iload_n 1, 1) := by decide +kernel
theorem dX3_volumeBySteps_2 : decode cX3_volumeBySteps 2 = .ok (.invokevirtual 78, 3) := by decide +kernel
theorem dX3_volumeBySteps_5 : decode cX3_volumeBySteps 5 = .ok (.aload_n 0, 1) := by decide +kernel
theorem dX3_volumeBySteps_6 : decode cX3_volumeBySteps 6 = .ok (.getfield 12, 3) := by decide +kernel
theorem dX3_volumeBySteps_9 : decode cX3_volumeBySteps 9 = .ok (.getfield 89, 3) := by decide +kernel
theorem dX3_volumeBySteps_12 : decode cX3_volumeBySteps 12 = .ok (.iload_n 1, 1) := by decide +kernel
theorem dX3_volumeBySteps_13 : decode cX3_volumeBySteps 13 = .ok (.invokevirtual 93, 3) := by decide +kernel
theorem dX3_volumeBySteps_16 : decode cX3_volumeBySteps 16 = .ok (.ireturn, 1) := by decide +kernel
theorem dX3_levelOf_0 : decode cX3_levelOf 0 = .ok (.aload_n 0, 1) := by decide +kernel
theorem dX3_levelOf_1 : decode cX3_levelOf 1 = .ok (.iload_n 1, 1) := by decide +kernel
theorem dX3_levelOf_2 : decode cX3_levelOf 2 = .ok (.invokevirtual 78, 3) := by decide +kernel
theorem dX3_levelOf_5 : decode cX3_levelOf 5 = .ok (.aload_n 0, 1) := by decide +kernel
theorem dX3_levelOf_6 : decode cX3_levelOf 6 = .ok (.getfield 12, 3) := by decide +kernel
theorem dX3_levelOf_9 : decode cX3_levelOf 9 = .ok (.iload_n 1, 1) := by decide +kernel
theorem dX3_levelOf_10 : decode cX3_levelOf 10 = .ok (.invokevirtual 98, 3) := by decide +kernel
theorem dX3_levelOf_13 : decode cX3_levelOf 13 = .ok (.ireturn, 1) := by decide +kernel
theorem dX3_lockfulOf_0 : decode cX3_lockfulOf 0 = .ok (.aload_n 0, 1) := by decide +kernel
theorem dX3_lockfulOf_1 : decode cX3_lockfulOf 1 = .ok (.iload_n 1, 1) := by decide +kernel
theorem dX3_lockfulOf_2 : decode cX3_lockfulOf 2 = .ok (.invokevirtual 101, 3) := by decide +kernel
theorem dX3_lockfulOf_5 : decode cX3_lockfulOf 5 = .ok (.aload_n 0, 1) := by decide +kernel
theorem dX3_lockfulOf_6 : decode cX3_lockfulOf 6 = .ok (.getfield 12, 3) := by decide +kernel
theorem dX3_lockfulOf_9 : decode cX3_lockfulOf 9 = .ok (.getfield 75, 3) := by decide +kernel
theorem dX3_lockfulOf_12 : decode cX3_lockfulOf 12 = .ok (.iload_n 1, 1) := by decide +kernel
theorem dX3_lockfulOf_13 : decode cX3_lockfulOf 13 = .ok (.iaload, 1) := by decide +kernel
theorem dX3_lockfulOf_14 : decode cX3_lockfulOf 14 = .ok (.ireturn, 1) := by decide +kernel
theorem dX3_isFull_0 : decode cX3_isFull 0 = .ok (.aload_n 0, 1) := by decide +kernel
theorem dX3_isFull_1 : decode cX3_isFull 1 = .ok (.iload_n 1, 1) := by decide +kernel
theorem dX3_isFull_2 : decode cX3_isFull 2 = .ok (.invokevirtual 101, 3) := by decide +kernel
theorem dX3_isFull_5 : decode cX3_isFull 5 = .ok (.aload_n 0, 1) := by decide +kernel
theorem dX3_isFull_6 : decode cX3_isFull 6 = .ok (.getfield 12, 3) := by decide +kernel
theorem dX3_isFull_9 : decode cX3_isFull 9 = .ok (.iload_n 1, 1) := by decide +kernel
theorem dX3_isFull_10 : decode cX3_isFull 10 = .ok (.invokevirtual 104, 3) := by decide +kernel
theorem dX3_isFull_13 : decode cX3_isFull 13 = .ok (.ireturn, 1) := by decide +kernel
theorem dX3_turn_0 : decode cX3_turn 0 = .ok (.aload_n 0, 1) := by decide +kernel
theorem dX3_turn_1 : decode cX3_turn 1 = .ok (.iload_n 1, 1) := by decide +kernel
theorem dX3_turn_2 : decode cX3_turn 2 = .ok (.invokevirtual 101, 3) := by decide +kernel
theorem dX3_turn_5 : decode cX3_turn 5 = .ok (.aload_n 0, 1) := by decide +kernel
theorem dX3_turn_6 : decode cX3_turn 6 = .ok (.getfield 12, 3) := by decide +kernel
theorem dX3_turn_9 : decode cX3_turn 9 = .ok (.iload_n 1, 1) := by decide +kernel
theorem dX3_turn_10 : decode cX3_turn 10 = .ok (.invokevirtual 104, 3) := by decide +kernel
theorem dX3_turn_13 : decode cX3_turn 13 = .ok (.ifCond .eq 13, 3) := by decide +kernel
theorem dX3_turn_16 : decode cX3_turn 16 = .ok (.aload_n 0, 1) := by decide +kernel
theorem dX3_turn_17 : decode cX3_turn 17 = .ok (.getfield 12, 3) := by decide +kernel
theorem dX3_turn_20 : decode cX3_turn 20 = .ok (.iload_n 1, 1) := by decide +kernel
theorem dX3_turn_21 : decode cX3_turn 21 = .ok (.invokevirtual 108, 3) := by decide +kernel
theorem dX3_turn_24 : decode cX3_turn 24 = .ok (.iconst 0, 1) := by decide +kernel
theorem dX3_turn_25 : decode cX3_turn 25 = .ok (.ireturn, 1) := by decide +kernel
theorem dX3_turn_26 : decode cX3_turn 26 = .ok (.aload_n 0, 1) := by decide +kernel
theorem dX3_turn_27 : decode cX3_turn 27 = .ok (.getfield 12, 3) := by decide +kernel
theorem dX3_turn_30 : decode cX3_turn 30 = .ok (.iload_n 1, 1) := by decide +kernel
theorem dX3_turn_31 : decode cX3_turn 31 = .ok (.invokevirtual 111, 3) := by decide +kernel
theorem dX3_turn_34 : decode cX3_turn 34 = .ok (.ifCond .ne 13, 3) := by decide +kernel
theorem dX3_turn_37 : decode cX3_turn 37 = .ok (.new 114, 3) := by decide +kernel
theorem dX3_turn_40 : decode cX3_turn 40 = .ok (.dup, 1) := by decide +kernel
theorem dX3_turn_41 : decode cX3_turn 41 = .ok (.ldc 116, 2) := by decide +kernel
theorem dX3_turn_43 : decode cX3_turn 43 = .ok (.invokespecial 118, 3) := by decide +kernel
theorem dX3_turn_46 : decode cX3_turn 46 = .ok (.athrow, 1) := by decide +kernel
theorem dX3_turn_47 : decode cX3_turn 47 = .ok (.aload_n 0, 1) := by decide +kernel
theorem dX3_turn_48 : decode cX3_turn 48 = .ok (.getfield 12, 3) := by decide +kernel
theorem dX3_turn_51 : decode cX3_turn 51 = .ok (.iload_n 1, 1) := by decide +kernel
theorem dX3_turn_52 : decode cX3_turn 52 = .ok (.invokevirtual 119, 3) := by decide +kernel
theorem dX3_turn_55 : decode cX3_turn 55 = .ok (.iconst 1, 1) := by decide +kernel
theorem dX3_turn_56 : decode cX3_turn 56 = .ok (.ireturn, 1) := by decide +kernel
theorem dX3_waterThrough_0 : decode cX3_waterThrough 0 = .ok (.aload_n 0, 1) := by decide +kernel
theorem dX3_waterThrough_1 : decode cX3_waterThrough 1 = .ok (.iload_n 1, 1) := by decide +kernel
theorem dX3_waterThrough_2 : decode cX3_waterThrough 2 = .ok (.invokevirtual 101, 3) := by decide +kernel
theorem dX3_waterThrough_5 : decode cX3_waterThrough 5 = .ok (.aload_n 0, 1) := by decide +kernel
theorem dX3_waterThrough_6 : decode cX3_waterThrough 6 = .ok (.getfield 12, 3) := by decide +kernel
theorem dX3_waterThrough_9 : decode cX3_waterThrough 9 = .ok (.getfield 122, 3) := by decide +kernel
theorem dX3_waterThrough_12 : decode cX3_waterThrough 12 = .ok (.iload_n 1, 1) := by decide +kernel
theorem dX3_waterThrough_13 : decode cX3_waterThrough 13 = .ok (.iaload, 1) := by decide +kernel
theorem dX3_waterThrough_14 : decode cX3_waterThrough 14 = .ok (.ireturn, 1) := by decide +kernel
theorem dX3_rain_0 : decode cX3_rain 0 = .ok (.aload_n 0, 1) := by decide +kernel
theorem dX3_rain_1 : decode cX3_rain 1 = .ok (.iload_n 1, 1) := by decide +kernel
theorem dX3_rain_2 : decode cX3_rain 2 = .ok (.invokevirtual 78, 3) := by decide +kernel
theorem dX3_rain_5 : decode cX3_rain 5 = .ok (.iload_n 2, 1) := by decide +kernel
theorem dX3_rain_6 : decode cX3_rain 6 = .ok (.iconst 1, 1) := by decide +kernel
theorem dX3_rain_7 : decode cX3_rain 7 = .ok (.sipush 5000, 3) := by decide +kernel
theorem dX3_rain_10 : decode cX3_rain 10 = .ok (.invokestatic 56, 3) := by decide +kernel
theorem dX3_rain_13 : decode cX3_rain 13 = .ok (.ifCond .ne 13, 3) := by decide +kernel
theorem dX3_rain_16 : decode cX3_rain 16 = .ok (.new 60, 3) := by decide +kernel
theorem dX3_rain_19 : decode cX3_rain 19 = .ok (.dup, 1) := by decide +kernel
theorem dX3_rain_20 : decode cX3_rain 20 = .ok (.ldc 125, 2) := by decide +kernel
theorem dX3_rain_22 : decode cX3_rain 22 = .ok (.invokespecial 64, 3) := by decide +kernel
theorem dX3_rain_25 : decode cX3_rain 25 = .ok (.athrow, 1) := by decide +kernel
theorem dX3_rain_26 : decode cX3_rain 26 = .ok (.aload_n 0, 1) := by decide +kernel
theorem dX3_rain_27 : decode cX3_rain 27 = .ok (.getfield 12, 3) := by decide +kernel
theorem dX3_rain_30 : decode cX3_rain 30 = .ok (.bipush (-2), 2) := by decide +kernel
theorem dX3_rain_32 : decode cX3_rain 32 = .ok (.invokevirtual 85, 3) := by decide +kernel
theorem dX3_rain_35 : decode cX3_rain 35 = .ok (.istore_n 3, 1) := by decide +kernel
theorem dX3_rain_36 : decode cX3_rain 36 = .ok (.aload_n 0, 1) := by decide +kernel
theorem dX3_rain_37 : decode cX3_rain 37 = .ok (.getfield 12, 3) := by decide +kernel
theorem dX3_rain_40 : decode cX3_rain 40 = .ok (.iconst (-1), 1) := by decide +kernel
theorem dX3_rain_41 : decode cX3_rain 41 = .ok (.iload_n 1, 1) := by decide +kernel
theorem dX3_rain_42 : decode cX3_rain 42 = .ok (.iload_n 2, 1) := by decide +kernel
theorem dX3_rain_43 : decode cX3_rain 43 = .ok (.invokevirtual 127, 3) := by decide +kernel
theorem dX3_rain_46 : decode cX3_rain 46 = .ok (.aload_n 0, 1) := by decide +kernel
theorem dX3_rain_47 : decode cX3_rain 47 = .ok (.getfield 12, 3) := by decide +kernel
theorem dX3_rain_50 : decode cX3_rain 50 = .ok (.bipush (-2), 2) := by decide +kernel
theorem dX3_rain_52 : decode cX3_rain 52 = .ok (.invokevirtual 85, 3) := by decide +kernel
theorem dX3_rain_55 : decode cX3_rain 55 = .ok (.iload_n 3, 1) := by decide +kernel
theorem dX3_rain_56 : decode cX3_rain 56 = .ok (.isub, 1) := by decide +kernel
theorem dX3_rain_57 : decode cX3_rain 57 = .ok (.ireturn, 1) := by decide +kernel
theorem dX3_endWeek_0 : decode cX3_endWeek 0 = .ok (.iconst 0, 1) := by decide +kernel
theorem dX3_endWeek_1 : decode cX3_endWeek 1 = .ok (.istore_n 1, 1) := by decide +kernel
theorem dX3_endWeek_2 : decode cX3_endWeek 2 = .ok (.iload_n 1, 1) := by decide +kernel
theorem dX3_endWeek_3 : decode cX3_endWeek 3 = .ok (.aload_n 0, 1) := by decide +kernel
theorem dX3_endWeek_4 : decode cX3_endWeek 4 = .ok (.getfield 12, 3) := by decide +kernel
theorem dX3_endWeek_7 : decode cX3_endWeek 7 = .ok (.getfield 67, 3) := by decide +kernel
theorem dX3_endWeek_10 : decode cX3_endWeek 10 = .ok (.if_icmp .ge 39, 3) := by decide +kernel
theorem dX3_endWeek_13 : decode cX3_endWeek 13 = .ok (.aload_n 0, 1) := by decide +kernel
theorem dX3_endWeek_14 : decode cX3_endWeek 14 = .ok (.getfield 12, 3) := by decide +kernel
theorem dX3_endWeek_17 : decode cX3_endWeek 17 = .ok (.iload_n 1, 1) := by decide +kernel
theorem dX3_endWeek_18 : decode cX3_endWeek 18 = .ok (.bipush (-3), 2) := by decide +kernel
theorem dX3_endWeek_20 : decode cX3_endWeek 20 = .ok (.aload_n 0, 1) := by decide +kernel
theorem dX3_endWeek_21 : decode cX3_endWeek 21 = .ok (.getfield 12, 3) := by decide +kernel
theorem dX3_endWeek_24 : decode cX3_endWeek 24 = .ok (.getfield 82, 3) := by decide +kernel
theorem dX3_endWeek_27 : decode cX3_endWeek 27 = .ok (.iload_n 1, 1) := by decide +kernel
theorem dX3_endWeek_28 : decode cX3_endWeek 28 = .ok (.iaload, 1) := by decide +kernel
theorem dX3_endWeek_29 : decode cX3_endWeek 29 = .ok (.aload_n 0, 1) := by decide +kernel
theorem dX3_endWeek_30 : decode cX3_endWeek 30 = .ok (.getfield 12, 3) := by decide +kernel
theorem dX3_endWeek_33 : decode cX3_endWeek 33 = .ok (.iload_n 1, 1) := by decide +kernel
theorem dX3_endWeek_34 : decode cX3_endWeek 34 = .ok (.invokevirtual 85, 3) := by decide +kernel
theorem dX3_endWeek_37 : decode cX3_endWeek 37 = .ok (.invokestatic 131, 3) := by decide +kernel
theorem dX3_endWeek_40 : decode cX3_endWeek 40 = .ok (.invokevirtual 127, 3) := by decide +kernel
theorem dX3_endWeek_43 : decode cX3_endWeek 43 = .ok (.iinc 1 1, 3) := by decide +kernel
theorem dX3_endWeek_46 : decode cX3_endWeek 46 = .ok (.goto (-44), 3) := by decide +kernel
theorem dX3_endWeek_49 : decode cX3_endWeek 49 = .ok (.iconst 0, 1) := by decide +kernel
theorem dX3_endWeek_50 : decode cX3_endWeek 50 = .ok (.istore_n 1, 1) := by decide +kernel
theorem dX3_endWeek_51 : decode cX3_endWeek 51 = .ok (.iconst 0, 1) := by decide +kernel
theorem dX3_endWeek_52 : decode cX3_endWeek 52 = .ok (.istore_n 2, 1) := by decide +kernel
theorem dX3_endWeek_53 : decode cX3_endWeek 53 = .ok (.iload_n 2, 1) := by decide +kernel
theorem dX3_endWeek_54 : decode cX3_endWeek 54 = .ok (.aload_n 0, 1) := by decide +kernel
theorem dX3_endWeek_55 : decode cX3_endWeek 55 = .ok (.getfield 12, 3) := by decide +kernel
theorem dX3_endWeek_58 : decode cX3_endWeek 58 = .ok (.getfield 67, 3) := by decide +kernel
theorem dX3_endWeek_61 : decode cX3_endWeek 61 = .ok (.if_icmp .ge 65, 3) := by decide +kernel
theorem dX3_endWeek_64 : decode cX3_endWeek 64 = .ok (.aload_n 0, 1) := by decide +kernel
theorem dX3_endWeek_65 : decode cX3_endWeek 65 = .ok (.getfield 23, 3) := by decide +kernel
theorem dX3_endWeek_68 : decode cX3_endWeek 68 = .ok (.iload_n 2, 1) := by decide +kernel
theorem dX3_endWeek_69 : decode cX3_endWeek 69 = .ok (.iaload, 1) := by decide +kernel
theorem dX3_endWeek_70 : decode cX3_endWeek 70 = .ok (.istore_n 3, 1) := by decide +kernel
theorem dX3_endWeek_71 : decode cX3_endWeek 71 = .ok (.aload_n 0, 1) := by decide +kernel
theorem dX3_endWeek_72 : decode cX3_endWeek 72 = .ok (.getfield 12, 3) := by decide +kernel
theorem dX3_endWeek_75 : decode cX3_endWeek 75 = .ok (.iload_n 2, 1) := by decide +kernel
theorem dX3_endWeek_76 : decode cX3_endWeek 76 = .ok (.invokevirtual 98, 3) := by decide +kernel
theorem dX3_endWeek_79 : decode cX3_endWeek 79 = .ok (.istore 4, 2) := by decide +kernel
theorem dX3_endWeek_81 : decode cX3_endWeek 81 = .ok (.aload_n 0, 1) := by decide +kernel
theorem dX3_endWeek_82 : decode cX3_endWeek 82 = .ok (.getfield 23, 3) := by decide +kernel
theorem dX3_endWeek_85 : decode cX3_endWeek 85 = .ok (.iload_n 2, 1) := by decide +kernel
theorem dX3_endWeek_86 : decode cX3_endWeek 86 = .ok (.iload_n 3, 1) := by decide +kernel
theorem dX3_endWeek_87 : decode cX3_endWeek 87 = .ok (.aload_n 0, 1) := by decide +kernel
theorem dX3_endWeek_88 : decode cX3_endWeek 88 = .ok (.getfield 26, 3) := by decide +kernel
theorem dX3_endWeek_91 : decode cX3_endWeek 91 = .ok (.iload_n 2, 1) := by decide +kernel
theorem dX3_endWeek_92 : decode cX3_endWeek 92 = .ok (.iaload, 1) := by decide +kernel
theorem dX3_endWeek_93 : decode cX3_endWeek 93 = .ok (.iload 4, 2) := by decide +kernel
theorem dX3_endWeek_95 : decode cX3_endWeek 95 = .ok (.invokestatic 136, 3) := by decide +kernel
theorem dX3_endWeek_98 : decode cX3_endWeek 98 = .ok (.iastore, 1) := by decide +kernel
theorem dX3_endWeek_99 : decode cX3_endWeek 99 = .ok (.aload_n 0, 1) := by decide +kernel
theorem dX3_endWeek_100 : decode cX3_endWeek 100 = .ok (.getfield 26, 3) := by decide +kernel
theorem dX3_endWeek_103 : decode cX3_endWeek 103 = .ok (.iload_n 2, 1) := by decide +kernel
theorem dX3_endWeek_104 : decode cX3_endWeek 104 = .ok (.iload 4, 2) := by decide +kernel
theorem dX3_endWeek_106 : decode cX3_endWeek 106 = .ok (.iastore, 1) := by decide +kernel
theorem dX3_endWeek_107 : decode cX3_endWeek 107 = .ok (.aload_n 0, 1) := by decide +kernel
theorem dX3_endWeek_108 : decode cX3_endWeek 108 = .ok (.getfield 23, 3) := by decide +kernel
theorem dX3_endWeek_111 : decode cX3_endWeek 111 = .ok (.iload_n 2, 1) := by decide +kernel
theorem dX3_endWeek_112 : decode cX3_endWeek 112 = .ok (.iaload, 1) := by decide +kernel
theorem dX3_endWeek_113 : decode cX3_endWeek 113 = .ok (.iload_n 3, 1) := by decide +kernel
theorem dX3_endWeek_114 : decode cX3_endWeek 114 = .ok (.if_icmp .le 6, 3) := by decide +kernel
theorem dX3_endWeek_117 : decode cX3_endWeek 117 = .ok (.iinc 1 1, 3) := by decide +kernel
theorem dX3_endWeek_120 : decode cX3_endWeek 120 = .ok (.iinc 2 1, 3) := by decide +kernel
theorem dX3_endWeek_123 : decode cX3_endWeek 123 = .ok (.goto (-70), 3) := by decide +kernel
theorem dX3_endWeek_126 : decode cX3_endWeek 126 = .ok (.aload_n 0, 1) := by decide +kernel
theorem dX3_endWeek_127 : decode cX3_endWeek 127 = .ok (.dup, 1) := by decide +kernel
theorem dX3_endWeek_128 : decode cX3_endWeek 128 = .ok (.getfield 140, 3) := by decide +kernel
theorem dX3_endWeek_131 : decode cX3_endWeek 131 = .ok (.iconst 1, 1) := by decide +kernel
theorem dX3_endWeek_132 : decode cX3_endWeek 132 = .ok (.iadd, 1) := by decide +kernel
theorem dX3_endWeek_133 : decode cX3_endWeek 133 = .ok (.putfield 140, 3) := by decide +kernel
theorem dX3_endWeek_136 : decode cX3_endWeek 136 = .ok (.iload_n 1, 1) := by decide +kernel
theorem dX3_endWeek_137 : decode cX3_endWeek 137 = .ok (.ireturn, 1) := by decide +kernel
theorem dX3_weekCount_0 : decode cX3_weekCount 0 = .ok (.aload_n 0, 1) := by decide +kernel
theorem dX3_weekCount_1 : decode cX3_weekCount 1 = .ok (.getfield 140, 3) := by decide +kernel
theorem dX3_weekCount_4 : decode cX3_weekCount 4 = .ok (.ireturn, 1) := by decide +kernel
theorem dX3_addBarge_0 : decode cX3_addBarge 0 = .ok (.aload_n 0, 1) := by decide +kernel
theorem dX3_addBarge_1 : decode cX3_addBarge 1 = .ok (.iload_n 1, 1) := by decide +kernel
theorem dX3_addBarge_2 : decode cX3_addBarge 2 = .ok (.invokevirtual 78, 3) := by decide +kernel
theorem dX3_addBarge_5 : decode cX3_addBarge 5 = .ok (.iload_n 2, 1) := by decide +kernel
theorem dX3_addBarge_6 : decode cX3_addBarge 6 = .ok (.iconst 5, 1) := by decide +kernel
theorem dX3_addBarge_7 : decode cX3_addBarge 7 = .ok (.bipush 80, 2) := by decide +kernel
theorem dX3_addBarge_9 : decode cX3_addBarge 9 = .ok (.invokestatic 56, 3) := by decide +kernel
theorem dX3_addBarge_12 : decode cX3_addBarge 12 = .ok (.ifCond .eq 24, 3) := by decide +kernel
theorem dX3_addBarge_15 : decode cX3_addBarge 15 = .ok (.iload_n 3, 1) := by decide +kernel
theorem dX3_addBarge_16 : decode cX3_addBarge 16 = .ok (.iconst 2, 1) := by decide +kernel
theorem dX3_addBarge_17 : decode cX3_addBarge 17 = .ok (.bipush 20, 2) := by decide +kernel
theorem dX3_addBarge_19 : decode cX3_addBarge 19 = .ok (.invokestatic 56, 3) := by decide +kernel
theorem dX3_addBarge_22 : decode cX3_addBarge 22 = .ok (.ifCond .eq 14, 3) := by decide +kernel
theorem dX3_addBarge_25 : decode cX3_addBarge 25 = .ok (.iload 4, 2) := by decide +kernel
theorem dX3_addBarge_27 : decode cX3_addBarge 27 = .ok (.iconst 1, 1) := by decide +kernel
theorem dX3_addBarge_28 : decode cX3_addBarge 28 = .ok (.bipush 20, 2) := by decide +kernel
theorem dX3_addBarge_30 : decode cX3_addBarge 30 = .ok (.invokestatic 56, 3) := by decide +kernel
theorem dX3_addBarge_33 : decode cX3_addBarge 33 = .ok (.ifCond .ne 13, 3) := by decide +kernel
theorem dX3_addBarge_36 : decode cX3_addBarge 36 = .ok (.new 60, 3) := by decide +kernel
theorem dX3_addBarge_39 : decode cX3_addBarge 39 = .ok (.dup, 1) := by decide +kernel
theorem dX3_addBarge_40 : decode cX3_addBarge 40 = .ok (.ldc 143, 2) := by decide +kernel
theorem dX3_addBarge_42 : decode cX3_addBarge 42 = .ok (.invokespecial 64, 3) := by decide +kernel
theorem dX3_addBarge_45 : decode cX3_addBarge 45 = .ok (.athrow, 1) := by decide +kernel
theorem dX3_addBarge_46 : decode cX3_addBarge 46 = .ok (.aload_n 0, 1) := by decide +kernel
theorem dX3_addBarge_47 : decode cX3_addBarge 47 = .ok (.getfield 145, 3) := by decide +kernel
theorem dX3_addBarge_50 : decode cX3_addBarge 50 = .ok (.bipush 8, 2) := by decide +kernel
theorem dX3_addBarge_52 : decode cX3_addBarge 52 = .ok (.if_icmp .lt 13, 3) := by decide +kernel
theorem dX3_addBarge_55 : decode cX3_addBarge 55 = .ok (.new 70, 3) := by decide +kernel
theorem dX3_addBarge_58 : decode cX3_addBarge 58 = .ok (.dup, 1) := by decide +kernel
theorem dX3_addBarge_59 : decode cX3_addBarge 59 = .ok (.ldc 148, 2) := by decide +kernel
theorem dX3_addBarge_61 : decode cX3_addBarge 61 = .ok (.invokespecial 74, 3) := by decide +kernel
theorem dX3_addBarge_64 : decode cX3_addBarge 64 = .ok (.athrow, 1) := by decide +kernel
theorem dX3_addBarge_65 : decode cX3_addBarge 65 = .ok (.iload_n 3, 1) := by decide +kernel
theorem dX3_addBarge_66 : decode cX3_addBarge 66 = .ok (.aload_n 0, 1) := by decide +kernel
theorem dX3_addBarge_67 : decode cX3_addBarge 67 = .ok (.getfield 12, 3) := by decide +kernel
theorem dX3_addBarge_70 : decode cX3_addBarge 70 = .ok (.iload_n 1, 1) := by decide +kernel
theorem dX3_addBarge_71 : decode cX3_addBarge 71 = .ok (.invokevirtual 98, 3) := by decide +kernel
theorem dX3_addBarge_74 : decode cX3_addBarge 74 = .ok (.if_icmp .lt 13, 3) := by decide +kernel
theorem dX3_addBarge_77 : decode cX3_addBarge 77 = .ok (.new 114, 3) := by decide +kernel
theorem dX3_addBarge_80 : decode cX3_addBarge 80 = .ok (.dup, 1) := by decide +kernel
theorem dX3_addBarge_81 : decode cX3_addBarge 81 = .ok (.ldc 150, 2) := by decide +kernel
theorem dX3_addBarge_83 : decode cX3_addBarge 83 = .ok (.invokespecial 118, 3) := by decide +kernel
theorem dX3_addBarge_86 : decode cX3_addBarge 86 = .ok (.athrow, 1) := by decide +kernel
theorem dX3_addBarge_87 : decode cX3_addBarge 87 = .ok (.aload_n 0, 1) := by decide +kernel
theorem dX3_addBarge_88 : decode cX3_addBarge 88 = .ok (.getfield 145, 3) := by decide +kernel
theorem dX3_addBarge_91 : decode cX3_addBarge 91 = .ok (.istore 5, 2) := by decide +kernel
theorem dX3_addBarge_93 : decode cX3_addBarge 93 = .ok (.aload_n 0, 1) := by decide +kernel
theorem dX3_addBarge_94 : decode cX3_addBarge 94 = .ok (.getfield 31, 3) := by decide +kernel
theorem dX3_addBarge_97 : decode cX3_addBarge 97 = .ok (.iload 5, 2) := by decide +kernel
theorem dX3_addBarge_99 : decode cX3_addBarge 99 = .ok (.new 29, 3) := by decide +kernel
theorem dX3_addBarge_102 : decode cX3_addBarge 102 = .ok (.dup, 1) := by decide +kernel
theorem dX3_addBarge_103 : decode cX3_addBarge 103 = .ok (.iload 5, 2) := by decide +kernel
theorem dX3_addBarge_105 : decode cX3_addBarge 105 = .ok (.iload_n 1, 1) := by decide +kernel
theorem dX3_addBarge_106 : decode cX3_addBarge 106 = .ok (.iload_n 2, 1) := by decide +kernel
theorem dX3_addBarge_107 : decode cX3_addBarge 107 = .ok (.iload_n 3, 1) := by decide +kernel
theorem dX3_addBarge_108 : decode cX3_addBarge 108 = .ok (.iload 4, 2) := by decide +kernel
theorem dX3_addBarge_110 : decode cX3_addBarge 110 = .ok (.invokespecial 152, 3) := by decide +kernel
theorem dX3_addBarge_113 : decode cX3_addBarge 113 = .ok (.aastore, 1) := by decide +kernel
theorem dX3_addBarge_114 : decode cX3_addBarge 114 = .ok (.aload_n 0, 1) := by decide +kernel
theorem dX3_addBarge_115 : decode cX3_addBarge 115 = .ok (.dup, 1) := by decide +kernel
theorem dX3_addBarge_116 : decode cX3_addBarge 116 = .ok (.getfield 145, 3) := by decide +kernel
theorem dX3_addBarge_119 : decode cX3_addBarge 119 = .ok (.iconst 1, 1) := by decide +kernel
theorem dX3_addBarge_120 : decode cX3_addBarge 120 = .ok (.iadd, 1) := by decide +kernel
theorem dX3_addBarge_121 : decode cX3_addBarge 121 = .ok (.putfield 145, 3) := by decide +kernel
theorem dX3_addBarge_124 : decode cX3_addBarge 124 = .ok (.iload 5, 2) := by decide +kernel
theorem dX3_addBarge_126 : decode cX3_addBarge 126 = .ok (.ireturn, 1) := by decide +kernel
theorem dX3_bargeCount_0 : decode cX3_bargeCount 0 = .ok (.aload_n 0, 1) := by decide +kernel
theorem dX3_bargeCount_1 : decode cX3_bargeCount 1 = .ok (.getfield 145, 3) := by decide +kernel
theorem dX3_bargeCount_4 : decode cX3_bargeCount 4 = .ok (.ireturn, 1) := by decide +kernel
theorem dX3_reachOf_0 : decode cX3_reachOf 0 = .ok (.aload_n 0, 1) := by decide +kernel
theorem dX3_reachOf_1 : decode cX3_reachOf 1 = .ok (.iload_n 1, 1) := by decide +kernel
theorem dX3_reachOf_2 : decode cX3_reachOf 2 = .ok (.invokevirtual 155, 3) := by decide +kernel
theorem dX3_reachOf_5 : decode cX3_reachOf 5 = .ok (.getfield 159, 3) := by decide +kernel
theorem dX3_reachOf_8 : decode cX3_reachOf 8 = .ok (.ireturn, 1) := by decide +kernel
theorem dX3_cargoOf_0 : decode cX3_cargoOf 0 = .ok (.aload_n 0, 1) := by decide +kernel
theorem dX3_cargoOf_1 : decode cX3_cargoOf 1 = .ok (.iload_n 1, 1) := by decide +kernel
theorem dX3_cargoOf_2 : decode cX3_cargoOf 2 = .ok (.invokevirtual 155, 3) := by decide +kernel
theorem dX3_cargoOf_5 : decode cX3_cargoOf 5 = .ok (.getfield 162, 3) := by decide +kernel
theorem dX3_cargoOf_8 : decode cX3_cargoOf 8 = .ok (.ireturn, 1) := by decide +kernel
theorem dX3_draughtOf_0 : decode cX3_draughtOf 0 = .ok (.aload_n 0, 1) := by decide +kernel
theorem dX3_draughtOf_1 : decode cX3_draughtOf 1 = .ok (.iload_n 1, 1) := by decide +kernel
theorem dX3_draughtOf_2 : decode cX3_draughtOf 2 = .ok (.invokevirtual 155, 3) := by decide +kernel
theorem dX3_draughtOf_5 : decode cX3_draughtOf 5 = .ok (.invokevirtual 165, 3) := by decide +kernel
theorem dX3_draughtOf_8 : decode cX3_draughtOf 8 = .ok (.ireturn, 1) := by decide +kernel
theorem dX3_isAfloat_0 : decode cX3_isAfloat 0 = .ok (.aload_n 0, 1) := by decide +kernel
theorem dX3_isAfloat_1 : decode cX3_isAfloat 1 = .ok (.aload_n 0, 1) := by decide +kernel
theorem dX3_isAfloat_2 : decode cX3_isAfloat 2 = .ok (.iload_n 1, 1) := by decide +kernel
theorem dX3_isAfloat_3 : decode cX3_isAfloat 3 = .ok (.invokevirtual 155, 3) := by decide +kernel
theorem dX3_isAfloat_6 : decode cX3_isAfloat 6 = .ok (.iconst 0, 1) := by decide +kernel
theorem dX3_isAfloat_7 : decode cX3_isAfloat 7 = .ok (.invokevirtual 169, 3) := by decide +kernel
theorem dX3_isAfloat_10 : decode cX3_isAfloat 10 = .ok (.ireturn, 1) := by decide +kernel
theorem dX3_couple_0 : decode cX3_couple 0 = .ok (.aload_n 0, 1) := by decide +kernel
theorem dX3_couple_1 : decode cX3_couple 1 = .ok (.iload_n 1, 1) := by decide +kernel
theorem dX3_couple_2 : decode cX3_couple 2 = .ok (.invokevirtual 155, 3) := by decide +kernel
theorem dX3_couple_5 : decode cX3_couple 5 = .ok (.invokevirtual 173, 3) := by decide +kernel
theorem dX3_couple_8 : decode cX3_couple 8 = .ok (.astore_n 3, 1) := by decide +kernel
theorem dX3_couple_9 : decode cX3_couple 9 = .ok (.aload_n 0, 1) := by decide +kernel
theorem dX3_couple_10 : decode cX3_couple 10 = .ok (.iload_n 2, 1) := by decide +kernel
theorem dX3_couple_11 : decode cX3_couple 11 = .ok (.invokevirtual 155, 3) := by decide +kernel
theorem dX3_couple_14 : decode cX3_couple 14 = .ok (.invokevirtual 173, 3) := by decide +kernel
theorem dX3_couple_17 : decode cX3_couple 17 = .ok (.astore 4, 2) := by decide +kernel
theorem dX3_couple_19 : decode cX3_couple 19 = .ok (.aload_n 3, 1) := by decide +kernel
theorem dX3_couple_20 : decode cX3_couple 20 = .ok (.aload 4, 2) := by decide +kernel
theorem dX3_couple_22 : decode cX3_couple 22 = .ok (.if_acmp .ne 13, 3) := by decide +kernel
theorem dX3_couple_25 : decode cX3_couple 25 = .ok (.new 60, 3) := by decide +kernel
theorem dX3_couple_28 : decode cX3_couple 28 = .ok (.dup, 1) := by decide +kernel
theorem dX3_couple_29 : decode cX3_couple 29 = .ok (.ldc 177, 2) := by decide +kernel
theorem dX3_couple_31 : decode cX3_couple 31 = .ok (.invokespecial 64, 3) := by decide +kernel
theorem dX3_couple_34 : decode cX3_couple 34 = .ok (.athrow, 1) := by decide +kernel
theorem dX3_couple_35 : decode cX3_couple 35 = .ok (.aload_n 3, 1) := by decide +kernel
theorem dX3_couple_36 : decode cX3_couple 36 = .ok (.invokevirtual 179, 3) := by decide +kernel
theorem dX3_couple_39 : decode cX3_couple 39 = .ok (.aload 4, 2) := by decide +kernel
theorem dX3_couple_41 : decode cX3_couple 41 = .ok (.invokevirtual 179, 3) := by decide +kernel
theorem dX3_couple_44 : decode cX3_couple 44 = .ok (.iadd, 1) := by decide +kernel
theorem dX3_couple_45 : decode cX3_couple 45 = .ok (.istore 5, 2) := by decide +kernel
theorem dX3_couple_47 : decode cX3_couple 47 = .ok (.aload_n 3, 1) := by decide +kernel
theorem dX3_couple_48 : decode cX3_couple 48 = .ok (.getfield 159, 3) := by decide +kernel
theorem dX3_couple_51 : decode cX3_couple 51 = .ok (.aload 4, 2) := by decide +kernel
theorem dX3_couple_53 : decode cX3_couple 53 = .ok (.getfield 159, 3) := by decide +kernel
theorem dX3_couple_56 : decode cX3_couple 56 = .ok (.if_icmp .ne 9, 3) := by decide +kernel
theorem dX3_couple_59 : decode cX3_couple 59 = .ok (.iload 5, 2) := by decide +kernel
theorem dX3_couple_61 : decode cX3_couple 61 = .ok (.iconst 4, 1) := by decide +kernel
theorem dX3_couple_62 : decode cX3_couple 62 = .ok (.if_icmp .le 13, 3) := by decide +kernel
theorem dX3_couple_65 : decode cX3_couple 65 = .ok (.new 70, 3) := by decide +kernel
theorem dX3_couple_68 : decode cX3_couple 68 = .ok (.dup, 1) := by decide +kernel
theorem dX3_couple_69 : decode cX3_couple 69 = .ok (.ldc 182, 2) := by decide +kernel
theorem dX3_couple_71 : decode cX3_couple 71 = .ok (.invokespecial 74, 3) := by decide +kernel
theorem dX3_couple_74 : decode cX3_couple 74 = .ok (.athrow, 1) := by decide +kernel
theorem dX3_couple_75 : decode cX3_couple 75 = .ok (.aload_n 3, 1) := by decide +kernel
theorem dX3_couple_76 : decode cX3_couple 76 = .ok (.invokevirtual 184, 3) := by decide +kernel
theorem dX3_couple_79 : decode cX3_couple 79 = .ok (.astore 6, 2) := by decide +kernel
theorem dX3_couple_81 : decode cX3_couple 81 = .ok (.aload 6, 2) := by decide +kernel
theorem dX3_couple_83 : decode cX3_couple 83 = .ok (.aload 4, 2) := by decide +kernel
theorem dX3_couple_85 : decode cX3_couple 85 = .ok (.putfield 187, 3) := by decide +kernel
theorem dX3_couple_88 : decode cX3_couple 88 = .ok (.aload 4, 2) := by decide +kernel
theorem dX3_couple_90 : decode cX3_couple 90 = .ok (.aload 6, 2) := by decide +kernel
theorem dX3_couple_92 : decode cX3_couple 92 = .ok (.putfield 191, 3) := by decide +kernel
theorem dX3_couple_95 : decode cX3_couple 95 = .ok (.iload 5, 2) := by decide +kernel
theorem dX3_couple_97 : decode cX3_couple 97 = .ok (.ireturn, 1) := by decide +kernel
theorem dX3_uncouple_0 : decode cX3_uncouple 0 = .ok (.aload_n 0, 1) := by decide +kernel
theorem dX3_uncouple_1 : decode cX3_uncouple 1 = .ok (.iload_n 1, 1) := by decide +kernel
theorem dX3_uncouple_2 : decode cX3_uncouple 2 = .ok (.invokevirtual 155, 3) := by decide +kernel
theorem dX3_uncouple_5 : decode cX3_uncouple 5 = .ok (.astore_n 2, 1) := by decide +kernel
theorem dX3_uncouple_6 : decode cX3_uncouple 6 = .ok (.aload_n 2, 1) := by decide +kernel
theorem dX3_uncouple_7 : decode cX3_uncouple 7 = .ok (.getfield 191, 3) := by decide +kernel
theorem dX3_uncouple_10 : decode cX3_uncouple 10 = .ok (.astore_n 3, 1) := by decide +kernel
theorem dX3_uncouple_11 : decode cX3_uncouple 11 = .ok (.aload_n 3, 1) := by decide +kernel
theorem dX3_uncouple_12 : decode cX3_uncouple 12 = .ok (.ifnonnull 13, 3) := by decide +kernel
theorem dX3_uncouple_15 : decode cX3_uncouple 15 = .ok (.new 70, 3) := by decide +kernel
theorem dX3_uncouple_18 : decode cX3_uncouple 18 = .ok (.dup, 1) := by decide +kernel
theorem dX3_uncouple_19 : decode cX3_uncouple 19 = .ok (.ldc 194, 2) := by decide +kernel
theorem dX3_uncouple_21 : decode cX3_uncouple 21 = .ok (.invokespecial 74, 3) := by decide +kernel
theorem dX3_uncouple_24 : decode cX3_uncouple 24 = .ok (.athrow, 1) := by decide +kernel
theorem dX3_uncouple_25 : decode cX3_uncouple 25 = .ok (.aload_n 3, 1) := by decide +kernel
theorem dX3_uncouple_26 : decode cX3_uncouple 26 = .ok (.aconst_null, 1) := by decide +kernel
theorem dX3_uncouple_27 : decode cX3_uncouple 27 = .ok (.putfield 187, 3) := by decide +kernel
theorem dX3_uncouple_30 : decode cX3_uncouple 30 = .ok (.aload_n 2, 1) := by decide +kernel
theorem dX3_uncouple_31 : decode cX3_uncouple 31 = .ok (.aconst_null, 1) := by decide +kernel
theorem dX3_uncouple_32 : decode cX3_uncouple 32 = .ok (.putfield 191, 3) := by decide +kernel
theorem dX3_uncouple_35 : decode cX3_uncouple 35 = .ok (.aload_n 3, 1) := by decide +kernel
theorem dX3_uncouple_36 : decode cX3_uncouple 36 = .ok (.invokevirtual 173, 3) := by decide +kernel
theorem dX3_uncouple_39 : decode cX3_uncouple 39 = .ok (.invokevirtual 179, 3) := by decide +kernel
theorem dX3_uncouple_42 : decode cX3_uncouple 42 = .ok (.ireturn, 1) := by decide +kernel
theorem dX3_convoySize_0 : decode cX3_convoySize 0 = .ok (.aload_n 0, 1) := by decide +kernel
theorem dX3_convoySize_1 : decode cX3_convoySize 1 = .ok (.iload_n 1, 1) := by decide +kernel
theorem dX3_convoySize_2 : decode cX3_convoySize 2 = .ok (.invokevirtual 155, 3) := by decide +kernel
theorem dX3_convoySize_5 : decode cX3_convoySize 5 = .ok (.invokevirtual 173, 3) := by decide +kernel
theorem dX3_convoySize_8 : decode cX3_convoySize 8 = .ok (.invokevirtual 179, 3) := by decide +kernel
theorem dX3_convoySize_11 : decode cX3_convoySize 11 = .ok (.ireturn, 1) := by decide +kernel
theorem dX3_convoyAt_0 : decode cX3_convoyAt 0 = .ok (.iconst 0, 1) := by decide +kernel
theorem dX3_convoyAt_1 : decode cX3_convoyAt 1 = .ok (.istore_n 3, 1) := by decide +kernel
theorem dX3_convoyAt_2 : decode cX3_convoyAt 2 = .ok (.aload_n 0, 1) := by decide +kernel
theorem dX3_convoyAt_3 : decode cX3_convoyAt 3 = .ok (.iload_n 1, 1) := by decide +kernel
theorem dX3_convoyAt_4 : decode cX3_convoyAt 4 = .ok (.invokevirtual 155, 3) := by decide +kernel
theorem dX3_convoyAt_7 : decode cX3_convoyAt 7 = .ok (.invokevirtual 173, 3) := by decide +kernel
theorem dX3_convoyAt_10 : decode cX3_convoyAt 10 = .ok (.astore 4, 2) := by decide +kernel
theorem dX3_convoyAt_12 : decode cX3_convoyAt 12 = .ok (.aload 4, 2) := by decide +kernel
theorem dX3_convoyAt_14 : decode cX3_convoyAt 14 = .ok (.ifnull 27, 3) := by decide +kernel
theorem dX3_convoyAt_17 : decode cX3_convoyAt 17 = .ok (.iload_n 3, 1) := by decide +kernel
theorem dX3_convoyAt_18 : decode cX3_convoyAt 18 = .ok (.iload_n 2, 1) := by decide +kernel
theorem dX3_convoyAt_19 : decode cX3_convoyAt 19 = .ok (.if_icmp .ne 9, 3) := by decide +kernel
theorem dX3_convoyAt_22 : decode cX3_convoyAt 22 = .ok (.aload 4, 2) := by decide +kernel
theorem dX3_convoyAt_24 : decode cX3_convoyAt 24 = .ok (.getfield 196, 3) := by decide +kernel
theorem dX3_convoyAt_27 : decode cX3_convoyAt 27 = .ok (.ireturn, 1) := by decide +kernel
theorem dX3_convoyAt_28 : decode cX3_convoyAt 28 = .ok (.iinc 3 1, 3) := by decide +kernel
theorem dX3_convoyAt_31 : decode cX3_convoyAt 31 = .ok (.aload 4, 2) := by decide +kernel
theorem dX3_convoyAt_33 : decode cX3_convoyAt 33 = .ok (.getfield 187, 3) := by decide +kernel
theorem dX3_convoyAt_36 : decode cX3_convoyAt 36 = .ok (.astore 4, 2) := by decide +kernel
theorem dX3_convoyAt_38 : decode cX3_convoyAt 38 = .ok (.goto (-26), 3) := by decide +kernel
theorem dX3_convoyAt_41 : decode cX3_convoyAt 41 = .ok (.new 199, 3) := by decide +kernel
theorem dX3_convoyAt_44 : decode cX3_convoyAt 44 = .ok (.dup, 1) := by decide +kernel
theorem dX3_convoyAt_45 : decode cX3_convoyAt 45 = .ok (.ldc 201, 2) := by decide +kernel
theorem dX3_convoyAt_47 : decode cX3_convoyAt 47 = .ok (.invokespecial 203, 3) := by decide +kernel
theorem dX3_convoyAt_50 : decode cX3_convoyAt 50 = .ok (.athrow, 1) := by decide +kernel
theorem dX3_partsFor_0 : decode cX3_partsFor 0 = .ok (.aload_n 0, 1) := by decide +kernel
theorem dX3_partsFor_1 : decode cX3_partsFor 1 = .ok (.iload_n 1, 1) := by decide +kernel
theorem dX3_partsFor_2 : decode cX3_partsFor 2 = .ok (.invokevirtual 155, 3) := by decide +kernel
theorem dX3_partsFor_5 : decode cX3_partsFor 5 = .ok (.invokevirtual 173, 3) := by decide +kernel
theorem dX3_partsFor_8 : decode cX3_partsFor 8 = .ok (.astore_n 3, 1) := by decide +kernel
theorem dX3_partsFor_9 : decode cX3_partsFor 9 = .ok (.aload_n 0, 1) := by decide +kernel
theorem dX3_partsFor_10 : decode cX3_partsFor 10 = .ok (.iload_n 2, 1) := by decide +kernel
theorem dX3_partsFor_11 : decode cX3_partsFor 11 = .ok (.invokevirtual 101, 3) := by decide +kernel
theorem dX3_partsFor_14 : decode cX3_partsFor 14 = .ok (.aload_n 3, 1) := by decide +kernel
theorem dX3_partsFor_15 : decode cX3_partsFor 15 = .ok (.invokevirtual 204, 3) := by decide +kernel
theorem dX3_partsFor_18 : decode cX3_partsFor 18 = .ok (.aload_n 0, 1) := by decide +kernel
theorem dX3_partsFor_19 : decode cX3_partsFor 19 = .ok (.getfield 16, 3) := by decide +kernel
theorem dX3_partsFor_22 : decode cX3_partsFor 22 = .ok (.iload_n 2, 1) := by decide +kernel
theorem dX3_partsFor_23 : decode cX3_partsFor 23 = .ok (.iaload, 1) := by decide +kernel
theorem dX3_partsFor_24 : decode cX3_partsFor 24 = .ok (.if_icmp .le 13, 3) := by decide +kernel
theorem dX3_partsFor_27 : decode cX3_partsFor 27 = .ok (.new 114, 3) := by decide +kernel
theorem dX3_partsFor_30 : decode cX3_partsFor 30 = .ok (.dup, 1) := by decide +kernel
theorem dX3_partsFor_31 : decode cX3_partsFor 31 = .ok (.ldc 207, 2) := by decide +kernel
theorem dX3_partsFor_33 : decode cX3_partsFor 33 = .ok (.invokespecial 118, 3) := by decide +kernel
theorem dX3_partsFor_36 : decode cX3_partsFor 36 = .ok (.athrow, 1) := by decide +kernel
theorem dX3_partsFor_37 : decode cX3_partsFor 37 = .ok (.aload_n 3, 1) := by decide +kernel
theorem dX3_partsFor_38 : decode cX3_partsFor 38 = .ok (.aload_n 0, 1) := by decide +kernel
theorem dX3_partsFor_39 : decode cX3_partsFor 39 = .ok (.getfield 16, 3) := by decide +kernel
theorem dX3_partsFor_42 : decode cX3_partsFor 42 = .ok (.iload_n 2, 1) := by decide +kernel
theorem dX3_partsFor_43 : decode cX3_partsFor 43 = .ok (.iaload, 1) := by decide +kernel
theorem dX3_partsFor_44 : decode cX3_partsFor 44 = .ok (.invokevirtual 209, 3) := by decide +kernel
theorem dX3_partsFor_47 : decode cX3_partsFor 47 = .ok (.ireturn, 1) := by decide +kernel
theorem dX3_pass_0 : decode cX3_pass 0 = .ok (.aload_n 0, 1) := by decide +kernel
theorem dX3_pass_1 : decode cX3_pass 1 = .ok (.iload_n 1, 1) := by decide +kernel
theorem dX3_pass_2 : decode cX3_pass 2 = .ok (.invokevirtual 155, 3) := by decide +kernel
theorem dX3_pass_5 : decode cX3_pass 5 = .ok (.invokevirtual 173, 3) := by decide +kernel
theorem dX3_pass_8 : decode cX3_pass 8 = .ok (.astore_n 3, 1) := by decide +kernel
theorem dX3_pass_9 : decode cX3_pass 9 = .ok (.iload_n 2, 1) := by decide +kernel
theorem dX3_pass_10 : decode cX3_pass 10 = .ok (.ifCond .eq 12, 3) := by decide +kernel
theorem dX3_pass_13 : decode cX3_pass 13 = .ok (.aload_n 3, 1) := by decide +kernel
theorem dX3_pass_14 : decode cX3_pass 14 = .ok (.getfield 159, 3) := by decide +kernel
theorem dX3_pass_17 : decode cX3_pass 17 = .ok (.iconst 1, 1) := by decide +kernel
theorem dX3_pass_18 : decode cX3_pass 18 = .ok (.iadd, 1) := by decide +kernel
theorem dX3_pass_19 : decode cX3_pass 19 = .ok (.goto 9, 3) := by decide +kernel
theorem dX3_pass_22 : decode cX3_pass 22 = .ok (.aload_n 3, 1) := by decide +kernel
theorem dX3_pass_23 : decode cX3_pass 23 = .ok (.getfield 159, 3) := by decide +kernel
theorem dX3_pass_26 : decode cX3_pass 26 = .ok (.iconst 1, 1) := by decide +kernel
theorem dX3_pass_27 : decode cX3_pass 27 = .ok (.isub, 1) := by decide +kernel
theorem dX3_pass_28 : decode cX3_pass 28 = .ok (.istore 4, 2) := by decide +kernel
theorem dX3_pass_30 : decode cX3_pass 30 = .ok (.iload 4, 2) := by decide +kernel
theorem dX3_pass_32 : decode cX3_pass 32 = .ok (.ifCond .lt 15, 3) := by decide +kernel
theorem dX3_pass_35 : decode cX3_pass 35 = .ok (.iload 4, 2) := by decide +kernel
theorem dX3_pass_37 : decode cX3_pass 37 = .ok (.aload_n 0, 1) := by decide +kernel
theorem dX3_pass_38 : decode cX3_pass 38 = .ok (.getfield 12, 3) := by decide +kernel
theorem dX3_pass_41 : decode cX3_pass 41 = .ok (.getfield 67, 3) := by decide +kernel
theorem dX3_pass_44 : decode cX3_pass 44 = .ok (.if_icmp .lt 13, 3) := by decide +kernel
theorem dX3_pass_47 : decode cX3_pass 47 = .ok (.new 199, 3) := by decide +kernel
theorem dX3_pass_50 : decode cX3_pass 50 = .ok (.dup, 1) := by decide +kernel
theorem dX3_pass_51 : decode cX3_pass 51 = .ok (.ldc 212, 2) := by decide +kernel
theorem dX3_pass_53 : decode cX3_pass 53 = .ok (.invokespecial 203, 3) := by decide +kernel
theorem dX3_pass_56 : decode cX3_pass 56 = .ok (.athrow, 1) := by decide +kernel
theorem dX3_pass_57 : decode cX3_pass 57 = .ok (.aload_n 0, 1) := by decide +kernel
theorem dX3_pass_58 : decode cX3_pass 58 = .ok (.aload_n 3, 1) := by decide +kernel
theorem dX3_pass_59 : decode cX3_pass 59 = .ok (.iload 4, 2) := by decide +kernel
theorem dX3_pass_61 : decode cX3_pass 61 = .ok (.invokevirtual 214, 3) := by decide +kernel
theorem dX3_pass_64 : decode cX3_pass 64 = .ok (.ireturn, 1) := by decide +kernel
theorem dX3_voyage_0 : decode cX3_voyage 0 = .ok (.aload_n 0, 1) := by decide +kernel
theorem dX3_voyage_1 : decode cX3_voyage 1 = .ok (.iload_n 1, 1) := by decide +kernel
theorem dX3_voyage_2 : decode cX3_voyage 2 = .ok (.invokevirtual 155, 3) := by decide +kernel
theorem dX3_voyage_5 : decode cX3_voyage 5 = .ok (.invokevirtual 173, 3) := by decide +kernel
theorem dX3_voyage_8 : decode cX3_voyage 8 = .ok (.astore_n 3, 1) := by decide +kernel
theorem dX3_voyage_9 : decode cX3_voyage 9 = .ok (.aload_n 0, 1) := by decide +kernel
theorem dX3_voyage_10 : decode cX3_voyage 10 = .ok (.iload_n 2, 1) := by decide +kernel
theorem dX3_voyage_11 : decode cX3_voyage 11 = .ok (.invokevirtual 78, 3) := by decide +kernel
theorem dX3_voyage_14 : decode cX3_voyage 14 = .ok (.aload_n 3, 1) := by decide +kernel
theorem dX3_voyage_15 : decode cX3_voyage 15 = .ok (.getfield 159, 3) := by decide +kernel
theorem dX3_voyage_18 : decode cX3_voyage 18 = .ok (.iload_n 2, 1) := by decide +kernel
theorem dX3_voyage_19 : decode cX3_voyage 19 = .ok (.if_icmp .ne 13, 3) := by decide +kernel
theorem dX3_voyage_22 : decode cX3_voyage 22 = .ok (.new 70, 3) := by decide +kernel
theorem dX3_voyage_25 : decode cX3_voyage 25 = .ok (.dup, 1) := by decide +kernel
theorem dX3_voyage_26 : decode cX3_voyage 26 = .ok (.ldc 218, 2) := by decide +kernel
theorem dX3_voyage_28 : decode cX3_voyage 28 = .ok (.invokespecial 74, 3) := by decide +kernel
theorem dX3_voyage_31 : decode cX3_voyage 31 = .ok (.athrow, 1) := by decide +kernel
theorem dX3_voyage_32 : decode cX3_voyage 32 = .ok (.aload_n 0, 1) := by decide +kernel
theorem dX3_voyage_33 : decode cX3_voyage 33 = .ok (.aload_n 3, 1) := by decide +kernel
theorem dX3_voyage_34 : decode cX3_voyage 34 = .ok (.iload_n 2, 1) := by decide +kernel
theorem dX3_voyage_35 : decode cX3_voyage 35 = .ok (.invokevirtual 214, 3) := by decide +kernel
theorem dX3_voyage_38 : decode cX3_voyage 38 = .ok (.ireturn, 1) := by decide +kernel
theorem dX3_isPossible_0 : decode cX3_isPossible 0 = .ok (.aload_n 0, 1) := by decide +kernel
theorem dX3_isPossible_1 : decode cX3_isPossible 1 = .ok (.iload_n 1, 1) := by decide +kernel
theorem dX3_isPossible_2 : decode cX3_isPossible 2 = .ok (.invokevirtual 155, 3) := by decide +kernel
theorem dX3_isPossible_5 : decode cX3_isPossible 5 = .ok (.invokevirtual 173, 3) := by decide +kernel
theorem dX3_isPossible_8 : decode cX3_isPossible 8 = .ok (.astore_n 3, 1) := by decide +kernel
theorem dX3_isPossible_9 : decode cX3_isPossible 9 = .ok (.aload_n 0, 1) := by decide +kernel
theorem dX3_isPossible_10 : decode cX3_isPossible 10 = .ok (.iload_n 2, 1) := by decide +kernel
theorem dX3_isPossible_11 : decode cX3_isPossible 11 = .ok (.invokevirtual 78, 3) := by decide +kernel
theorem dX3_isPossible_14 : decode cX3_isPossible 14 = .ok (.aload_n 0, 1) := by decide +kernel
theorem dX3_isPossible_15 : decode cX3_isPossible 15 = .ok (.aload_n 3, 1) := by decide +kernel
theorem dX3_isPossible_16 : decode cX3_isPossible 16 = .ok (.iload_n 2, 1) := by decide +kernel
theorem dX3_isPossible_17 : decode cX3_isPossible 17 = .ok (.invokevirtual 220, 3) := by decide +kernel
theorem dX3_isPossible_20 : decode cX3_isPossible 20 = .ok (.ireturn, 1) := by decide +kernel
theorem dX3_waterFor_0 : decode cX3_waterFor 0 = .ok (.aload_n 0, 1) := by decide +kernel
theorem dX3_waterFor_1 : decode cX3_waterFor 1 = .ok (.iload_n 1, 1) := by decide +kernel
theorem dX3_waterFor_2 : decode cX3_waterFor 2 = .ok (.invokevirtual 155, 3) := by decide +kernel
theorem dX3_waterFor_5 : decode cX3_waterFor 5 = .ok (.invokevirtual 173, 3) := by decide +kernel
theorem dX3_waterFor_8 : decode cX3_waterFor 8 = .ok (.astore_n 3, 1) := by decide +kernel
theorem dX3_waterFor_9 : decode cX3_waterFor 9 = .ok (.aload_n 0, 1) := by decide +kernel
theorem dX3_waterFor_10 : decode cX3_waterFor 10 = .ok (.iload_n 2, 1) := by decide +kernel
theorem dX3_waterFor_11 : decode cX3_waterFor 11 = .ok (.invokevirtual 78, 3) := by decide +kernel
theorem dX3_waterFor_14 : decode cX3_waterFor 14 = .ok (.aload_n 0, 1) := by decide +kernel
theorem dX3_waterFor_15 : decode cX3_waterFor 15 = .ok (.getfield 12, 3) := by decide +kernel
theorem dX3_waterFor_18 : decode cX3_waterFor 18 = .ok (.invokevirtual 223, 3) := by decide +kernel
theorem dX3_waterFor_21 : decode cX3_waterFor 21 = .ok (.istore 4, 2) := by decide +kernel
theorem dX3_waterFor_23 : decode cX3_waterFor 23 = .ok (.aload_n 0, 1) := by decide +kernel
theorem dX3_waterFor_24 : decode cX3_waterFor 24 = .ok (.getfield 12, 3) := by decide +kernel
theorem dX3_waterFor_27 : decode cX3_waterFor 27 = .ok (.invokevirtual 226, 3) := by decide +kernel
theorem dX3_waterFor_30 : decode cX3_waterFor 30 = .ok (.aload_n 0, 1) := by decide +kernel
theorem dX3_waterFor_31 : decode cX3_waterFor 31 = .ok (.aload_n 3, 1) := by decide +kernel
theorem dX3_waterFor_32 : decode cX3_waterFor 32 = .ok (.iload_n 2, 1) := by decide +kernel
theorem dX3_waterFor_33 : decode cX3_waterFor 33 = .ok (.invokevirtual 229, 3) := by decide +kernel
theorem dX3_waterFor_36 : decode cX3_waterFor 36 = .ok (.istore 5, 2) := by decide +kernel
theorem dX3_waterFor_38 : decode cX3_waterFor 38 = .ok (.aload_n 0, 1) := by decide +kernel
theorem dX3_waterFor_39 : decode cX3_waterFor 39 = .ok (.getfield 12, 3) := by decide +kernel
theorem dX3_waterFor_42 : decode cX3_waterFor 42 = .ok (.invokevirtual 223, 3) := by decide +kernel
theorem dX3_waterFor_45 : decode cX3_waterFor 45 = .ok (.iload 4, 2) := by decide +kernel
theorem dX3_waterFor_47 : decode cX3_waterFor 47 = .ok (.isub, 1) := by decide +kernel
theorem dX3_waterFor_48 : decode cX3_waterFor 48 = .ok (.istore 6, 2) := by decide +kernel
theorem dX3_waterFor_50 : decode cX3_waterFor 50 = .ok (.aload_n 0, 1) := by decide +kernel
theorem dX3_waterFor_51 : decode cX3_waterFor 51 = .ok (.getfield 12, 3) := by decide +kernel
theorem dX3_waterFor_54 : decode cX3_waterFor 54 = .ok (.invokevirtual 232, 3) := by decide +kernel
theorem dX3_waterFor_57 : decode cX3_waterFor 57 = .ok (.iload 5, 2) := by decide +kernel
theorem dX3_waterFor_59 : decode cX3_waterFor 59 = .ok (.ifCond .ne 13, 3) := by decide +kernel
theorem dX3_waterFor_62 : decode cX3_waterFor 62 = .ok (.new 114, 3) := by decide +kernel
theorem dX3_waterFor_65 : decode cX3_waterFor 65 = .ok (.dup, 1) := by decide +kernel
theorem dX3_waterFor_66 : decode cX3_waterFor 66 = .ok (.ldc 235, 2) := by decide +kernel
theorem dX3_waterFor_68 : decode cX3_waterFor 68 = .ok (.invokespecial 118, 3) := by decide +kernel
theorem dX3_waterFor_71 : decode cX3_waterFor 71 = .ok (.athrow, 1) := by decide +kernel
theorem dX3_waterFor_72 : decode cX3_waterFor 72 = .ok (.iload 6, 2) := by decide +kernel
theorem dX3_waterFor_74 : decode cX3_waterFor 74 = .ok (.ireturn, 1) := by decide +kernel
theorem dX3_refusalReason_0 : decode cX3_refusalReason 0 = .ok (.aload_n 0, 1) := by decide +kernel
theorem dX3_refusalReason_1 : decode cX3_refusalReason 1 = .ok (.invokevirtual 237, 3) := by decide +kernel
theorem dX3_refusalReason_4 : decode cX3_refusalReason 4 = .ok (.aload_n 0, 1) := by decide +kernel
theorem dX3_refusalReason_5 : decode cX3_refusalReason 5 = .ok (.getfield 48, 3) := by decide +kernel
theorem dX3_refusalReason_8 : decode cX3_refusalReason 8 = .ok (.ireturn, 1) := by decide +kernel
theorem dX3_refusalLock_0 : decode cX3_refusalLock 0 = .ok (.aload_n 0, 1) := by decide +kernel
theorem dX3_refusalLock_1 : decode cX3_refusalLock 1 = .ok (.invokevirtual 237, 3) := by decide +kernel
theorem dX3_refusalLock_4 : decode cX3_refusalLock 4 = .ok (.aload_n 0, 1) := by decide +kernel
theorem dX3_refusalLock_5 : decode cX3_refusalLock 5 = .ok (.getfield 240, 3) := by decide +kernel
theorem dX3_refusalLock_8 : decode cX3_refusalLock 8 = .ok (.ireturn, 1) := by decide +kernel
theorem dX3_priceIn_0 : decode cX3_priceIn 0 = .ok (.aload_n 0, 1) := by decide +kernel
theorem dX3_priceIn_1 : decode cX3_priceIn 1 = .ok (.iload_n 1, 1) := by decide +kernel
theorem dX3_priceIn_2 : decode cX3_priceIn 2 = .ok (.invokevirtual 78, 3) := by decide +kernel
theorem dX3_priceIn_5 : decode cX3_priceIn 5 = .ok (.aload_n 0, 1) := by decide +kernel
theorem dX3_priceIn_6 : decode cX3_priceIn 6 = .ok (.getfield 23, 3) := by decide +kernel
theorem dX3_priceIn_9 : decode cX3_priceIn 9 = .ok (.iload_n 1, 1) := by decide +kernel
theorem dX3_priceIn_10 : decode cX3_priceIn 10 = .ok (.iaload, 1) := by decide +kernel
theorem dX3_priceIn_11 : decode cX3_priceIn 11 = .ok (.ireturn, 1) := by decide +kernel
theorem dX3_money_0 : decode cX3_money 0 = .ok (.aload_n 0, 1) := by decide +kernel
theorem dX3_money_1 : decode cX3_money 1 = .ok (.getfield 44, 3) := by decide +kernel
theorem dX3_money_4 : decode cX3_money 4 = .ok (.lreturn, 1) := by decide +kernel
theorem dX3_buy_0 : decode cX3_buy 0 = .ok (.aload_n 0, 1) := by decide +kernel
theorem dX3_buy_1 : decode cX3_buy 1 = .ok (.iload_n 1, 1) := by decide +kernel
theorem dX3_buy_2 : decode cX3_buy 2 = .ok (.invokevirtual 155, 3) := by decide +kernel
theorem dX3_buy_5 : decode cX3_buy 5 = .ok (.astore_n 3, 1) := by decide +kernel
theorem dX3_buy_6 : decode cX3_buy 6 = .ok (.iload_n 2, 1) := by decide +kernel
theorem dX3_buy_7 : decode cX3_buy 7 = .ok (.invokestatic 243, 3) := by decide +kernel
theorem dX3_buy_10 : decode cX3_buy 10 = .ok (.aload_n 0, 1) := by decide +kernel
theorem dX3_buy_11 : decode cX3_buy 11 = .ok (.aload_n 3, 1) := by decide +kernel
theorem dX3_buy_12 : decode cX3_buy 12 = .ok (.iload_n 2, 1) := by decide +kernel
theorem dX3_buy_13 : decode cX3_buy 13 = .ok (.invokevirtual 169, 3) := by decide +kernel
theorem dX3_buy_16 : decode cX3_buy 16 = .ok (.ifCond .ne 13, 3) := by decide +kernel
theorem dX3_buy_19 : decode cX3_buy 19 = .ok (.new 114, 3) := by decide +kernel
theorem dX3_buy_22 : decode cX3_buy 22 = .ok (.dup, 1) := by decide +kernel
theorem dX3_buy_23 : decode cX3_buy 23 = .ok (.ldc 150, 2) := by decide +kernel
theorem dX3_buy_25 : decode cX3_buy 25 = .ok (.invokespecial 118, 3) := by decide +kernel
theorem dX3_buy_28 : decode cX3_buy 28 = .ok (.athrow, 1) := by decide +kernel
theorem dX3_buy_29 : decode cX3_buy 29 = .ok (.iload_n 2, 1) := by decide +kernel
theorem dX3_buy_30 : decode cX3_buy 30 = .ok (.i2l, 1) := by decide +kernel
theorem dX3_buy_31 : decode cX3_buy 31 = .ok (.aload_n 0, 1) := by decide +kernel
theorem dX3_buy_32 : decode cX3_buy 32 = .ok (.getfield 23, 3) := by decide +kernel
theorem dX3_buy_35 : decode cX3_buy 35 = .ok (.aload_n 3, 1) := by decide +kernel
theorem dX3_buy_36 : decode cX3_buy 36 = .ok (.getfield 159, 3) := by decide +kernel
theorem dX3_buy_39 : decode cX3_buy 39 = .ok (.iaload, 1) := by decide +kernel
theorem dX3_buy_40 : decode cX3_buy 40 = .ok (.i2l, 1) := by decide +kernel
theorem dX3_buy_41 : decode cX3_buy 41 = .ok (.lmul, 1) := by decide +kernel
theorem dX3_buy_42 : decode cX3_buy 42 = .ok (.lstore 4, 2) := by decide +kernel
theorem dX3_buy_44 : decode cX3_buy 44 = .ok (.lload 4, 2) := by decide +kernel
theorem dX3_buy_46 : decode cX3_buy 46 = .ok (.aload_n 0, 1) := by decide +kernel
theorem dX3_buy_47 : decode cX3_buy 47 = .ok (.getfield 44, 3) := by decide +kernel
theorem dX3_buy_50 : decode cX3_buy 50 = .ok (.lcmp, 1) := by decide +kernel
theorem dX3_buy_51 : decode cX3_buy 51 = .ok (.ifCond .le 13, 3) := by decide +kernel
theorem dX3_buy_54 : decode cX3_buy 54 = .ok (.new 70, 3) := by decide +kernel
theorem dX3_buy_57 : decode cX3_buy 57 = .ok (.dup, 1) := by decide +kernel
theorem dX3_buy_58 : decode cX3_buy 58 = .ok (.ldc 246, 2) := by decide +kernel
theorem dX3_buy_60 : decode cX3_buy 60 = .ok (.invokespecial 74, 3) := by decide +kernel
theorem dX3_buy_63 : decode cX3_buy 63 = .ok (.athrow, 1) := by decide +kernel
theorem dX3_buy_64 : decode cX3_buy 64 = .ok (.aload_n 3, 1) := by decide +kernel
theorem dX3_buy_65 : decode cX3_buy 65 = .ok (.dup, 1) := by decide +kernel
theorem dX3_buy_66 : decode cX3_buy 66 = .ok (.getfield 162, 3) := by decide +kernel
theorem dX3_buy_69 : decode cX3_buy 69 = .ok (.iload_n 2, 1) := by decide +kernel
theorem dX3_buy_70 : decode cX3_buy 70 = .ok (.iadd, 1) := by decide +kernel
theorem dX3_buy_71 : decode cX3_buy 71 = .ok (.putfield 162, 3) := by decide +kernel
theorem dX3_buy_74 : decode cX3_buy 74 = .ok (.aload_n 0, 1) := by decide +kernel
theorem dX3_buy_75 : decode cX3_buy 75 = .ok (.dup, 1) := by decide +kernel
theorem dX3_buy_76 : decode cX3_buy 76 = .ok (.getfield 44, 3) := by decide +kernel
theorem dX3_buy_79 : decode cX3_buy 79 = .ok (.lload 4, 2) := by decide +kernel
theorem dX3_buy_81 : decode cX3_buy 81 = .ok (.lsub, 1) := by decide +kernel
theorem dX3_buy_82 : decode cX3_buy 82 = .ok (.putfield 44, 3) := by decide +kernel
theorem dX3_buy_85 : decode cX3_buy 85 = .ok (.aload_n 0, 1) := by decide +kernel
theorem dX3_buy_86 : decode cX3_buy 86 = .ok (.getfield 44, 3) := by decide +kernel
theorem dX3_buy_89 : decode cX3_buy 89 = .ok (.lreturn, 1) := by decide +kernel
theorem dX3_sell_0 : decode cX3_sell 0 = .ok (.aload_n 0, 1) := by decide +kernel
theorem dX3_sell_1 : decode cX3_sell 1 = .ok (.iload_n 1, 1) := by decide +kernel
theorem dX3_sell_2 : decode cX3_sell 2 = .ok (.invokevirtual 155, 3) := by decide +kernel
theorem dX3_sell_5 : decode cX3_sell 5 = .ok (.astore_n 3, 1) := by decide +kernel
theorem dX3_sell_6 : decode cX3_sell 6 = .ok (.iload_n 2, 1) := by decide +kernel
theorem dX3_sell_7 : decode cX3_sell 7 = .ok (.invokestatic 243, 3) := by decide +kernel
theorem dX3_sell_10 : decode cX3_sell 10 = .ok (.aload_n 3, 1) := by decide +kernel
theorem dX3_sell_11 : decode cX3_sell 11 = .ok (.getfield 162, 3) := by decide +kernel
theorem dX3_sell_14 : decode cX3_sell 14 = .ok (.iload_n 2, 1) := by decide +kernel
theorem dX3_sell_15 : decode cX3_sell 15 = .ok (.if_icmp .ge 13, 3) := by decide +kernel
theorem dX3_sell_18 : decode cX3_sell 18 = .ok (.new 70, 3) := by decide +kernel
theorem dX3_sell_21 : decode cX3_sell 21 = .ok (.dup, 1) := by decide +kernel
theorem dX3_sell_22 : decode cX3_sell 22 = .ok (.ldc 248, 2) := by decide +kernel
theorem dX3_sell_24 : decode cX3_sell 24 = .ok (.invokespecial 74, 3) := by decide +kernel
theorem dX3_sell_27 : decode cX3_sell 27 = .ok (.athrow, 1) := by decide +kernel
theorem dX3_sell_28 : decode cX3_sell 28 = .ok (.aload_n 0, 1) := by decide +kernel
theorem dX3_sell_29 : decode cX3_sell 29 = .ok (.aload_n 3, 1) := by decide +kernel
theorem dX3_sell_30 : decode cX3_sell 30 = .ok (.iload_n 2, 1) := by decide +kernel
theorem dX3_sell_31 : decode cX3_sell 31 = .ok (.invokevirtual 250, 3) := by decide +kernel
theorem dX3_sell_34 : decode cX3_sell 34 = .ok (.aload_n 0, 1) := by decide +kernel
theorem dX3_sell_35 : decode cX3_sell 35 = .ok (.getfield 44, 3) := by decide +kernel
theorem dX3_sell_38 : decode cX3_sell 38 = .ok (.lreturn, 1) := by decide +kernel
theorem dX3_sellToDraught_0 : decode cX3_sellToDraught 0 = .ok (.aload_n 0, 1) := by decide +kernel
theorem dX3_sellToDraught_1 : decode cX3_sellToDraught 1 = .ok (.iload_n 1, 1) := by decide +kernel
theorem dX3_sellToDraught_2 : decode cX3_sellToDraught 2 = .ok (.invokevirtual 155, 3) := by decide +kernel
theorem dX3_sellToDraught_5 : decode cX3_sellToDraught 5 = .ok (.astore_n 3, 1) := by decide +kernel
theorem dX3_sellToDraught_6 : decode cX3_sellToDraught 6 = .ok (.iload_n 2, 1) := by decide +kernel
theorem dX3_sellToDraught_7 : decode cX3_sellToDraught 7 = .ok (.iconst 1, 1) := by decide +kernel
theorem dX3_sellToDraught_8 : decode cX3_sellToDraught 8 = .ok (.bipush 60, 2) := by decide +kernel
theorem dX3_sellToDraught_10 : decode cX3_sellToDraught 10 = .ok (.invokestatic 56, 3) := by decide +kernel
theorem dX3_sellToDraught_13 : decode cX3_sellToDraught 13 = .ok (.ifCond .ne 13, 3) := by decide +kernel
theorem dX3_sellToDraught_16 : decode cX3_sellToDraught 16 = .ok (.new 60, 3) := by decide +kernel
theorem dX3_sellToDraught_19 : decode cX3_sellToDraught 19 = .ok (.dup, 1) := by decide +kernel
theorem dX3_sellToDraught_20 : decode cX3_sellToDraught 20 = .ok (.ldc 254, 2) := by decide +kernel
theorem dX3_sellToDraught_22 : decode cX3_sellToDraught 22 = .ok (.invokespecial 64, 3) := by decide +kernel
theorem dX3_sellToDraught_25 : decode cX3_sellToDraught 25 = .ok (.athrow, 1) := by decide +kernel
theorem dX3_sellToDraught_26 : decode cX3_sellToDraught 26 = .ok (.aload_n 3, 1) := by decide +kernel
theorem dX3_sellToDraught_27 : decode cX3_sellToDraught 27 = .ok (.getfield 256, 3) := by decide +kernel
theorem dX3_sellToDraught_30 : decode cX3_sellToDraught 30 = .ok (.iload_n 2, 1) := by decide +kernel
theorem dX3_sellToDraught_31 : decode cX3_sellToDraught 31 = .ok (.if_icmp .le 14, 3) := by decide +kernel
theorem dX3_sellToDraught_34 : decode cX3_sellToDraught 34 = .ok (.new 70, 3) := by decide +kernel
theorem dX3_sellToDraught_37 : decode cX3_sellToDraught 37 = .ok (.dup, 1) := by decide +kernel
theorem dX3_sellToDraught_38 : decode cX3_sellToDraught 38 = .ok (.ldc_w 259, 3) := by decide +kernel
theorem dX3_sellToDraught_41 : decode cX3_sellToDraught 41 = .ok (.invokespecial 74, 3) := by decide +kernel
theorem dX3_sellToDraught_44 : decode cX3_sellToDraught 44 = .ok (.athrow, 1) := by decide +kernel
theorem dX3_sellToDraught_45 : decode cX3_sellToDraught 45 = .ok (.iconst 0, 1) := by decide +kernel
theorem dX3_sellToDraught_46 : decode cX3_sellToDraught 46 = .ok (.aload_n 3, 1) := by decide +kernel
theorem dX3_sellToDraught_47 : decode cX3_sellToDraught 47 = .ok (.getfield 162, 3) := by decide +kernel
theorem dX3_sellToDraught_50 : decode cX3_sellToDraught 50 = .ok (.aload_n 3, 1) := by decide +kernel
theorem dX3_sellToDraught_51 : decode cX3_sellToDraught 51 = .ok (.iload_n 2, 1) := by decide +kernel
theorem dX3_sellToDraught_52 : decode cX3_sellToDraught 52 = .ok (.invokevirtual 261, 3) := by decide +kernel
theorem dX3_sellToDraught_55 : decode cX3_sellToDraught 55 = .ok (.isub, 1) := by decide +kernel
theorem dX3_sellToDraught_56 : decode cX3_sellToDraught 56 = .ok (.invokestatic 264, 3) := by decide +kernel
theorem dX3_sellToDraught_59 : decode cX3_sellToDraught 59 = .ok (.istore 4, 2) := by decide +kernel
theorem dX3_sellToDraught_61 : decode cX3_sellToDraught 61 = .ok (.aload_n 0, 1) := by decide +kernel
theorem dX3_sellToDraught_62 : decode cX3_sellToDraught 62 = .ok (.aload_n 3, 1) := by decide +kernel
theorem dX3_sellToDraught_63 : decode cX3_sellToDraught 63 = .ok (.iload 4, 2) := by decide +kernel
theorem dX3_sellToDraught_65 : decode cX3_sellToDraught 65 = .ok (.invokevirtual 250, 3) := by decide +kernel
theorem dX3_sellToDraught_68 : decode cX3_sellToDraught 68 = .ok (.iload 4, 2) := by decide +kernel
theorem dX3_sellToDraught_70 : decode cX3_sellToDraught 70 = .ok (.ireturn, 1) := by decide +kernel
theorem dX3_greatestLoad_0 : decode cX3_greatestLoad 0 = .ok (.aload_n 0, 1) := by decide +kernel
theorem dX3_greatestLoad_1 : decode cX3_greatestLoad 1 = .ok (.iload_n 1, 1) := by decide +kernel
theorem dX3_greatestLoad_2 : decode cX3_greatestLoad 2 = .ok (.invokevirtual 155, 3) := by decide +kernel
theorem dX3_greatestLoad_5 : decode cX3_greatestLoad 5 = .ok (.astore_n 2, 1) := by decide +kernel
theorem dX3_greatestLoad_6 : decode cX3_greatestLoad 6 = .ok (.aload_n 0, 1) := by decide +kernel
theorem dX3_greatestLoad_7 : decode cX3_greatestLoad 7 = .ok (.aload_n 2, 1) := by decide +kernel
theorem dX3_greatestLoad_8 : decode cX3_greatestLoad 8 = .ok (.iconst 0, 1) := by decide +kernel
theorem dX3_greatestLoad_9 : decode cX3_greatestLoad 9 = .ok (.invokevirtual 169, 3) := by decide +kernel
theorem dX3_greatestLoad_12 : decode cX3_greatestLoad 12 = .ok (.ifCond .ne 5, 3) := by decide +kernel
theorem dX3_greatestLoad_15 : decode cX3_greatestLoad 15 = .ok (.iconst 0, 1) := by decide +kernel
theorem dX3_greatestLoad_16 : decode cX3_greatestLoad 16 = .ok (.ireturn, 1) := by decide +kernel
theorem dX3_greatestLoad_17 : decode cX3_greatestLoad 17 = .ok (.aload_n 2, 1) := by decide +kernel
theorem dX3_greatestLoad_18 : decode cX3_greatestLoad 18 = .ok (.aload_n 0, 1) := by decide +kernel
theorem dX3_greatestLoad_19 : decode cX3_greatestLoad 19 = .ok (.getfield 12, 3) := by decide +kernel
theorem dX3_greatestLoad_22 : decode cX3_greatestLoad 22 = .ok (.aload_n 2, 1) := by decide +kernel
theorem dX3_greatestLoad_23 : decode cX3_greatestLoad 23 = .ok (.getfield 159, 3) := by decide +kernel
theorem dX3_greatestLoad_26 : decode cX3_greatestLoad 26 = .ok (.invokevirtual 98, 3) := by decide +kernel
theorem dX3_greatestLoad_29 : decode cX3_greatestLoad 29 = .ok (.iconst 1, 1) := by decide +kernel
theorem dX3_greatestLoad_30 : decode cX3_greatestLoad 30 = .ok (.isub, 1) := by decide +kernel
theorem dX3_greatestLoad_31 : decode cX3_greatestLoad 31 = .ok (.invokevirtual 261, 3) := by decide +kernel
theorem dX3_greatestLoad_34 : decode cX3_greatestLoad 34 = .ok (.aload_n 2, 1) := by decide +kernel
theorem dX3_greatestLoad_35 : decode cX3_greatestLoad 35 = .ok (.getfield 162, 3) := by decide +kernel
theorem dX3_greatestLoad_38 : decode cX3_greatestLoad 38 = .ok (.isub, 1) := by decide +kernel
theorem dX3_greatestLoad_39 : decode cX3_greatestLoad 39 = .ok (.ireturn, 1) := by decide +kernel
theorem dX3_worthIn_0 : decode cX3_worthIn 0 = .ok (.aload_n 0, 1) := by decide +kernel
theorem dX3_worthIn_1 : decode cX3_worthIn 1 = .ok (.iload_n 1, 1) := by decide +kernel
theorem dX3_worthIn_2 : decode cX3_worthIn 2 = .ok (.invokevirtual 155, 3) := by decide +kernel
theorem dX3_worthIn_5 : decode cX3_worthIn 5 = .ok (.astore_n 3, 1) := by decide +kernel
theorem dX3_worthIn_6 : decode cX3_worthIn 6 = .ok (.aload_n 0, 1) := by decide +kernel
theorem dX3_worthIn_7 : decode cX3_worthIn 7 = .ok (.iload_n 2, 1) := by decide +kernel
theorem dX3_worthIn_8 : decode cX3_worthIn 8 = .ok (.invokevirtual 78, 3) := by decide +kernel
theorem dX3_worthIn_11 : decode cX3_worthIn 11 = .ok (.aload_n 3, 1) := by decide +kernel
theorem dX3_worthIn_12 : decode cX3_worthIn 12 = .ok (.getfield 162, 3) := by decide +kernel
theorem dX3_worthIn_15 : decode cX3_worthIn 15 = .ok (.aload_n 0, 1) := by decide +kernel
theorem dX3_worthIn_16 : decode cX3_worthIn 16 = .ok (.getfield 23, 3) := by decide +kernel
theorem dX3_worthIn_19 : decode cX3_worthIn 19 = .ok (.iload_n 2, 1) := by decide +kernel
theorem dX3_worthIn_20 : decode cX3_worthIn 20 = .ok (.iaload, 1) := by decide +kernel
theorem dX3_worthIn_21 : decode cX3_worthIn 21 = .ok (.imul, 1) := by decide +kernel
theorem dX3_worthIn_22 : decode cX3_worthIn 22 = .ok (.ireturn, 1) := by decide +kernel
theorem dX3_bestReach_0 : decode cX3_bestReach 0 = .ok (.aload_n 0, 1) := by decide +kernel
theorem dX3_bestReach_1 : decode cX3_bestReach 1 = .ok (.iload_n 1, 1) := by decide +kernel
theorem dX3_bestReach_2 : decode cX3_bestReach 2 = .ok (.invokevirtual 155, 3) := by decide +kernel
theorem dX3_bestReach_5 : decode cX3_bestReach 5 = .ok (.astore_n 2, 1) := by decide +kernel
theorem dX3_bestReach_6 : decode cX3_bestReach 6 = .ok (.aload_n 2, 1) := by decide +kernel
theorem dX3_bestReach_7 : decode cX3_bestReach 7 = .ok (.invokevirtual 173, 3) := by decide +kernel
theorem dX3_bestReach_10 : decode cX3_bestReach 10 = .ok (.astore_n 3, 1) := by decide +kernel
theorem dX3_bestReach_11 : decode cX3_bestReach 11 = .ok (.aload_n 2, 1) := by decide +kernel
theorem dX3_bestReach_12 : decode cX3_bestReach 12 = .ok (.getfield 159, 3) := by decide +kernel
theorem dX3_bestReach_15 : decode cX3_bestReach 15 = .ok (.istore 4, 2) := by decide +kernel
theorem dX3_bestReach_17 : decode cX3_bestReach 17 = .ok (.iconst (-1), 1) := by decide +kernel
theorem dX3_bestReach_18 : decode cX3_bestReach 18 = .ok (.istore 5, 2) := by decide +kernel
theorem dX3_bestReach_20 : decode cX3_bestReach 20 = .ok (.iconst 0, 1) := by decide +kernel
theorem dX3_bestReach_21 : decode cX3_bestReach 21 = .ok (.istore 6, 2) := by decide +kernel
theorem dX3_bestReach_23 : decode cX3_bestReach 23 = .ok (.iload 6, 2) := by decide +kernel
theorem dX3_bestReach_25 : decode cX3_bestReach 25 = .ok (.aload_n 0, 1) := by decide +kernel
theorem dX3_bestReach_26 : decode cX3_bestReach 26 = .ok (.getfield 12, 3) := by decide +kernel
theorem dX3_bestReach_29 : decode cX3_bestReach 29 = .ok (.getfield 67, 3) := by decide +kernel
theorem dX3_bestReach_32 : decode cX3_bestReach 32 = .ok (.if_icmp .ge 48, 3) := by decide +kernel
theorem dX3_bestReach_35 : decode cX3_bestReach 35 = .ok (.aload_n 2, 1) := by decide +kernel
theorem dX3_bestReach_36 : decode cX3_bestReach 36 = .ok (.getfield 162, 3) := by decide +kernel
theorem dX3_bestReach_39 : decode cX3_bestReach 39 = .ok (.aload_n 0, 1) := by decide +kernel
theorem dX3_bestReach_40 : decode cX3_bestReach 40 = .ok (.getfield 23, 3) := by decide +kernel
theorem dX3_bestReach_43 : decode cX3_bestReach 43 = .ok (.iload 6, 2) := by decide +kernel
theorem dX3_bestReach_45 : decode cX3_bestReach 45 = .ok (.iaload, 1) := by decide +kernel
theorem dX3_bestReach_46 : decode cX3_bestReach 46 = .ok (.imul, 1) := by decide +kernel
theorem dX3_bestReach_47 : decode cX3_bestReach 47 = .ok (.istore 7, 2) := by decide +kernel
theorem dX3_bestReach_49 : decode cX3_bestReach 49 = .ok (.iload 7, 2) := by decide +kernel
theorem dX3_bestReach_51 : decode cX3_bestReach 51 = .ok (.iload 5, 2) := by decide +kernel
theorem dX3_bestReach_53 : decode cX3_bestReach 53 = .ok (.if_icmp .le 21, 3) := by decide +kernel
theorem dX3_bestReach_56 : decode cX3_bestReach 56 = .ok (.aload_n 0, 1) := by decide +kernel
theorem dX3_bestReach_57 : decode cX3_bestReach 57 = .ok (.aload_n 3, 1) := by decide +kernel
theorem dX3_bestReach_58 : decode cX3_bestReach 58 = .ok (.iload 6, 2) := by decide +kernel
theorem dX3_bestReach_60 : decode cX3_bestReach 60 = .ok (.invokevirtual 220, 3) := by decide +kernel
theorem dX3_bestReach_63 : decode cX3_bestReach 63 = .ok (.ifCond .eq 11, 3) := by decide +kernel
theorem dX3_bestReach_66 : decode cX3_bestReach 66 = .ok (.iload 6, 2) := by decide +kernel
theorem dX3_bestReach_68 : decode cX3_bestReach 68 = .ok (.istore 4, 2) := by decide +kernel
theorem dX3_bestReach_70 : decode cX3_bestReach 70 = .ok (.iload 7, 2) := by decide +kernel
theorem dX3_bestReach_72 : decode cX3_bestReach 72 = .ok (.istore 5, 2) := by decide +kernel
theorem dX3_bestReach_74 : decode cX3_bestReach 74 = .ok (.iinc 6 1, 3) := by decide +kernel
theorem dX3_bestReach_77 : decode cX3_bestReach 77 = .ok (.goto (-54), 3) := by decide +kernel
theorem dX3_bestReach_80 : decode cX3_bestReach 80 = .ok (.iload 4, 2) := by decide +kernel
theorem dX3_bestReach_82 : decode cX3_bestReach 82 = .ok (.ireturn, 1) := by decide +kernel
theorem dX3_cameTotal_0 : decode cX3_cameTotal 0 = .ok (.aload_n 0, 1) := by decide +kernel
theorem dX3_cameTotal_1 : decode cX3_cameTotal 1 = .ok (.getfield 12, 3) := by decide +kernel
theorem dX3_cameTotal_4 : decode cX3_cameTotal 4 = .ok (.iconst (-1), 1) := by decide +kernel
theorem dX3_cameTotal_5 : decode cX3_cameTotal 5 = .ok (.invokevirtual 85, 3) := by decide +kernel
theorem dX3_cameTotal_8 : decode cX3_cameTotal 8 = .ok (.ineg, 1) := by decide +kernel
theorem dX3_cameTotal_9 : decode cX3_cameTotal 9 = .ok (.ireturn, 1) := by decide +kernel
theorem dX3_seaTotal_0 : decode cX3_seaTotal 0 = .ok (.aload_n 0, 1) := by decide +kernel
theorem dX3_seaTotal_1 : decode cX3_seaTotal 1 = .ok (.getfield 12, 3) := by decide +kernel
theorem dX3_seaTotal_4 : decode cX3_seaTotal 4 = .ok (.bipush (-2), 2) := by decide +kernel
theorem dX3_seaTotal_6 : decode cX3_seaTotal 6 = .ok (.invokevirtual 85, 3) := by decide +kernel
theorem dX3_seaTotal_9 : decode cX3_seaTotal 9 = .ok (.ireturn, 1) := by decide +kernel
theorem dX3_airTotal_0 : decode cX3_airTotal 0 = .ok (.aload_n 0, 1) := by decide +kernel
theorem dX3_airTotal_1 : decode cX3_airTotal 1 = .ok (.getfield 12, 3) := by decide +kernel
theorem dX3_airTotal_4 : decode cX3_airTotal 4 = .ok (.bipush (-3), 2) := by decide +kernel
theorem dX3_airTotal_6 : decode cX3_airTotal 6 = .ok (.invokevirtual 85, 3) := by decide +kernel
theorem dX3_airTotal_9 : decode cX3_airTotal 9 = .ok (.ireturn, 1) := by decide +kernel
theorem dX3_heldTotal_0 : decode cX3_heldTotal 0 = .ok (.iconst 0, 1) := by decide +kernel
theorem dX3_heldTotal_1 : decode cX3_heldTotal 1 = .ok (.istore_n 1, 1) := by decide +kernel
theorem dX3_heldTotal_2 : decode cX3_heldTotal 2 = .ok (.iconst 0, 1) := by decide +kernel
theorem dX3_heldTotal_3 : decode cX3_heldTotal 3 = .ok (.istore_n 2, 1) := by decide +kernel
theorem dX3_heldTotal_4 : decode cX3_heldTotal 4 = .ok (.iload_n 2, 1) := by decide +kernel
theorem dX3_heldTotal_5 : decode cX3_heldTotal 5 = .ok (.aload_n 0, 1) := by decide +kernel
theorem dX3_heldTotal_6 : decode cX3_heldTotal 6 = .ok (.getfield 12, 3) := by decide +kernel
theorem dX3_heldTotal_9 : decode cX3_heldTotal 9 = .ok (.getfield 67, 3) := by decide +kernel
theorem dX3_heldTotal_12 : decode cX3_heldTotal 12 = .ok (.if_icmp .ge 20, 3) := by decide +kernel
theorem dX3_heldTotal_15 : decode cX3_heldTotal 15 = .ok (.iload_n 1, 1) := by decide +kernel
theorem dX3_heldTotal_16 : decode cX3_heldTotal 16 = .ok (.aload_n 0, 1) := by decide +kernel
theorem dX3_heldTotal_17 : decode cX3_heldTotal 17 = .ok (.getfield 12, 3) := by decide +kernel
theorem dX3_heldTotal_20 : decode cX3_heldTotal 20 = .ok (.iload_n 2, 1) := by decide +kernel
theorem dX3_heldTotal_21 : decode cX3_heldTotal 21 = .ok (.invokevirtual 85, 3) := by decide +kernel
theorem dX3_heldTotal_24 : decode cX3_heldTotal 24 = .ok (.iadd, 1) := by decide +kernel
theorem dX3_heldTotal_25 : decode cX3_heldTotal 25 = .ok (.istore_n 1, 1) := by decide +kernel
theorem dX3_heldTotal_26 : decode cX3_heldTotal 26 = .ok (.iinc 2 1, 3) := by decide +kernel
theorem dX3_heldTotal_29 : decode cX3_heldTotal 29 = .ok (.goto (-25), 3) := by decide +kernel
theorem dX3_heldTotal_32 : decode cX3_heldTotal 32 = .ok (.iconst 0, 1) := by decide +kernel
theorem dX3_heldTotal_33 : decode cX3_heldTotal 33 = .ok (.istore_n 2, 1) := by decide +kernel
theorem dX3_heldTotal_34 : decode cX3_heldTotal 34 = .ok (.iload_n 2, 1) := by decide +kernel
theorem dX3_heldTotal_35 : decode cX3_heldTotal 35 = .ok (.aload_n 0, 1) := by decide +kernel
theorem dX3_heldTotal_36 : decode cX3_heldTotal 36 = .ok (.getfield 12, 3) := by decide +kernel
theorem dX3_heldTotal_39 : decode cX3_heldTotal 39 = .ok (.getfield 67, 3) := by decide +kernel
theorem dX3_heldTotal_42 : decode cX3_heldTotal 42 = .ok (.iconst 1, 1) := by decide +kernel
theorem dX3_heldTotal_43 : decode cX3_heldTotal 43 = .ok (.isub, 1) := by decide +kernel
theorem dX3_heldTotal_44 : decode cX3_heldTotal 44 = .ok (.if_icmp .ge 23, 3) := by decide +kernel
theorem dX3_heldTotal_47 : decode cX3_heldTotal 47 = .ok (.iload_n 1, 1) := by decide +kernel
theorem dX3_heldTotal_48 : decode cX3_heldTotal 48 = .ok (.aload_n 0, 1) := by decide +kernel
theorem dX3_heldTotal_49 : decode cX3_heldTotal 49 = .ok (.getfield 12, 3) := by decide +kernel
theorem dX3_heldTotal_52 : decode cX3_heldTotal 52 = .ok (.bipush 10, 2) := by decide +kernel
theorem dX3_heldTotal_54 : decode cX3_heldTotal 54 = .ok (.iload_n 2, 1) := by decide +kernel
theorem dX3_heldTotal_55 : decode cX3_heldTotal 55 = .ok (.iadd, 1) := by decide +kernel
theorem dX3_heldTotal_56 : decode cX3_heldTotal 56 = .ok (.invokevirtual 85, 3) := by decide +kernel
theorem dX3_heldTotal_59 : decode cX3_heldTotal 59 = .ok (.iadd, 1) := by decide +kernel
theorem dX3_heldTotal_60 : decode cX3_heldTotal 60 = .ok (.istore_n 1, 1) := by decide +kernel
theorem dX3_heldTotal_61 : decode cX3_heldTotal 61 = .ok (.iinc 2 1, 3) := by decide +kernel
theorem dX3_heldTotal_64 : decode cX3_heldTotal 64 = .ok (.goto (-30), 3) := by decide +kernel
theorem dX3_heldTotal_67 : decode cX3_heldTotal 67 = .ok (.iload_n 1, 1) := by decide +kernel
theorem dX3_heldTotal_68 : decode cX3_heldTotal 68 = .ok (.ireturn, 1) := by decide +kernel
theorem dX3_movementCount_0 : decode cX3_movementCount 0 = .ok (.aload_n 0, 1) := by decide +kernel
theorem dX3_movementCount_1 : decode cX3_movementCount 1 = .ok (.getfield 12, 3) := by decide +kernel
theorem dX3_movementCount_4 : decode cX3_movementCount 4 = .ok (.getfield 89, 3) := by decide +kernel
theorem dX3_movementCount_7 : decode cX3_movementCount 7 = .ok (.getfield 267, 3) := by decide +kernel
theorem dX3_movementCount_10 : decode cX3_movementCount 10 = .ok (.ireturn, 1) := by decide +kernel
theorem dX3_movementFrom_0 : decode cX3_movementFrom 0 = .ok (.aload_n 0, 1) := by decide +kernel
theorem dX3_movementFrom_1 : decode cX3_movementFrom 1 = .ok (.iload_n 1, 1) := by decide +kernel
theorem dX3_movementFrom_2 : decode cX3_movementFrom 2 = .ok (.invokevirtual 270, 3) := by decide +kernel
theorem dX3_movementFrom_5 : decode cX3_movementFrom 5 = .ok (.aload_n 0, 1) := by decide +kernel
theorem dX3_movementFrom_6 : decode cX3_movementFrom 6 = .ok (.getfield 12, 3) := by decide +kernel
theorem dX3_movementFrom_9 : decode cX3_movementFrom 9 = .ok (.getfield 89, 3) := by decide +kernel
theorem dX3_movementFrom_12 : decode cX3_movementFrom 12 = .ok (.getfield 273, 3) := by decide +kernel
theorem dX3_movementFrom_15 : decode cX3_movementFrom 15 = .ok (.iload_n 1, 1) := by decide +kernel
theorem dX3_movementFrom_16 : decode cX3_movementFrom 16 = .ok (.iaload, 1) := by decide +kernel
theorem dX3_movementFrom_17 : decode cX3_movementFrom 17 = .ok (.ireturn, 1) := by decide +kernel
theorem dX3_movementTo_0 : decode cX3_movementTo 0 = .ok (.aload_n 0, 1) := by decide +kernel
theorem dX3_movementTo_1 : decode cX3_movementTo 1 = .ok (.iload_n 1, 1) := by decide +kernel
theorem dX3_movementTo_2 : decode cX3_movementTo 2 = .ok (.invokevirtual 270, 3) := by decide +kernel
theorem dX3_movementTo_5 : decode cX3_movementTo 5 = .ok (.aload_n 0, 1) := by decide +kernel
theorem dX3_movementTo_6 : decode cX3_movementTo 6 = .ok (.getfield 12, 3) := by decide +kernel
theorem dX3_movementTo_9 : decode cX3_movementTo 9 = .ok (.getfield 89, 3) := by decide +kernel
theorem dX3_movementTo_12 : decode cX3_movementTo 12 = .ok (.getfield 276, 3) := by decide +kernel
theorem dX3_movementTo_15 : decode cX3_movementTo 15 = .ok (.iload_n 1, 1) := by decide +kernel
theorem dX3_movementTo_16 : decode cX3_movementTo 16 = .ok (.iaload, 1) := by decide +kernel
theorem dX3_movementTo_17 : decode cX3_movementTo 17 = .ok (.ireturn, 1) := by decide +kernel
theorem dX3_movementVolume_0 : decode cX3_movementVolume 0 = .ok (.aload_n 0, 1) := by decide +kernel
theorem dX3_movementVolume_1 : decode cX3_movementVolume 1 = .ok (.iload_n 1, 1) := by decide +kernel
theorem dX3_movementVolume_2 : decode cX3_movementVolume 2 = .ok (.invokevirtual 270, 3) := by decide +kernel
theorem dX3_movementVolume_5 : decode cX3_movementVolume 5 = .ok (.aload_n 0, 1) := by decide +kernel
theorem dX3_movementVolume_6 : decode cX3_movementVolume 6 = .ok (.getfield 12, 3) := by decide +kernel
theorem dX3_movementVolume_9 : decode cX3_movementVolume 9 = .ok (.getfield 89, 3) := by decide +kernel
theorem dX3_movementVolume_12 : decode cX3_movementVolume 12 = .ok (.getfield 279, 3) := by decide +kernel
theorem dX3_movementVolume_15 : decode cX3_movementVolume 15 = .ok (.iload_n 1, 1) := by decide +kernel
theorem dX3_movementVolume_16 : decode cX3_movementVolume 16 = .ok (.iaload, 1) := by decide +kernel
theorem dX3_movementVolume_17 : decode cX3_movementVolume 17 = .ok (.ireturn, 1) := by decide +kernel
theorem dX3_meanLevel_0 : decode cX3_meanLevel 0 = .ok (.iconst 0, 1) := by decide +kernel
theorem dX3_meanLevel_1 : decode cX3_meanLevel 1 = .ok (.istore_n 1, 1) := by decide +kernel
theorem dX3_meanLevel_2 : decode cX3_meanLevel 2 = .ok (.iconst 0, 1) := by decide +kernel
theorem dX3_meanLevel_3 : decode cX3_meanLevel 3 = .ok (.istore_n 2, 1) := by decide +kernel
theorem dX3_meanLevel_4 : decode cX3_meanLevel 4 = .ok (.iload_n 2, 1) := by decide +kernel
theorem dX3_meanLevel_5 : decode cX3_meanLevel 5 = .ok (.aload_n 0, 1) := by decide +kernel
theorem dX3_meanLevel_6 : decode cX3_meanLevel 6 = .ok (.getfield 12, 3) := by decide +kernel
theorem dX3_meanLevel_9 : decode cX3_meanLevel 9 = .ok (.getfield 67, 3) := by decide +kernel
theorem dX3_meanLevel_12 : decode cX3_meanLevel 12 = .ok (.if_icmp .ge 20, 3) := by decide +kernel
theorem dX3_meanLevel_15 : decode cX3_meanLevel 15 = .ok (.iload_n 1, 1) := by decide +kernel
theorem dX3_meanLevel_16 : decode cX3_meanLevel 16 = .ok (.aload_n 0, 1) := by decide +kernel
theorem dX3_meanLevel_17 : decode cX3_meanLevel 17 = .ok (.getfield 12, 3) := by decide +kernel
theorem dX3_meanLevel_20 : decode cX3_meanLevel 20 = .ok (.iload_n 2, 1) := by decide +kernel
theorem dX3_meanLevel_21 : decode cX3_meanLevel 21 = .ok (.invokevirtual 98, 3) := by decide +kernel
theorem dX3_meanLevel_24 : decode cX3_meanLevel 24 = .ok (.iadd, 1) := by decide +kernel
theorem dX3_meanLevel_25 : decode cX3_meanLevel 25 = .ok (.istore_n 1, 1) := by decide +kernel
theorem dX3_meanLevel_26 : decode cX3_meanLevel 26 = .ok (.iinc 2 1, 3) := by decide +kernel
theorem dX3_meanLevel_29 : decode cX3_meanLevel 29 = .ok (.goto (-25), 3) := by decide +kernel
theorem dX3_meanLevel_32 : decode cX3_meanLevel 32 = .ok (.iload_n 1, 1) := by decide +kernel
theorem dX3_meanLevel_33 : decode cX3_meanLevel 33 = .ok (.i2d, 1) := by decide +kernel
theorem dX3_meanLevel_34 : decode cX3_meanLevel 34 = .ok (.aload_n 0, 1) := by decide +kernel
theorem dX3_meanLevel_35 : decode cX3_meanLevel 35 = .ok (.getfield 12, 3) := by decide +kernel
theorem dX3_meanLevel_38 : decode cX3_meanLevel 38 = .ok (.getfield 67, 3) := by decide +kernel
theorem dX3_meanLevel_41 : decode cX3_meanLevel 41 = .ok (.i2d, 1) := by decide +kernel
theorem dX3_meanLevel_42 : decode cX3_meanLevel 42 = .ok (.ddiv, 1) := by decide +kernel
theorem dX3_meanLevel_43 : decode cX3_meanLevel 43 = .ok (.dreturn, 1) := by decide +kernel
theorem dX3_isBalanced_0 : decode cX3_isBalanced 0 = .ok (.aload_n 0, 1) := by decide +kernel
theorem dX3_isBalanced_1 : decode cX3_isBalanced 1 = .ok (.invokevirtual 282, 3) := by decide +kernel
theorem dX3_isBalanced_4 : decode cX3_isBalanced 4 = .ok (.aload_n 0, 1) := by decide +kernel
theorem dX3_isBalanced_5 : decode cX3_isBalanced 5 = .ok (.invokevirtual 285, 3) := by decide +kernel
theorem dX3_isBalanced_8 : decode cX3_isBalanced 8 = .ok (.aload_n 0, 1) := by decide +kernel
theorem dX3_isBalanced_9 : decode cX3_isBalanced 9 = .ok (.invokevirtual 288, 3) := by decide +kernel
theorem dX3_isBalanced_12 : decode cX3_isBalanced 12 = .ok (.iadd, 1) := by decide +kernel
theorem dX3_isBalanced_13 : decode cX3_isBalanced 13 = .ok (.aload_n 0, 1) := by decide +kernel
theorem dX3_isBalanced_14 : decode cX3_isBalanced 14 = .ok (.invokevirtual 291, 3) := by decide +kernel
theorem dX3_isBalanced_17 : decode cX3_isBalanced 17 = .ok (.iadd, 1) := by decide +kernel
theorem dX3_isBalanced_18 : decode cX3_isBalanced 18 = .ok (.if_icmp .eq 5, 3) := by decide +kernel
theorem dX3_isBalanced_21 : decode cX3_isBalanced 21 = .ok (.iconst 0, 1) := by decide +kernel
theorem dX3_isBalanced_22 : decode cX3_isBalanced 22 = .ok (.ireturn, 1) := by decide +kernel
theorem dX3_isBalanced_23 : decode cX3_isBalanced 23 = .ok (.iconst 0, 1) := by decide +kernel
theorem dX3_isBalanced_24 : decode cX3_isBalanced 24 = .ok (.istore_n 1, 1) := by decide +kernel
theorem dX3_isBalanced_25 : decode cX3_isBalanced 25 = .ok (.iload_n 1, 1) := by decide +kernel
theorem dX3_isBalanced_26 : decode cX3_isBalanced 26 = .ok (.aload_n 0, 1) := by decide +kernel
theorem dX3_isBalanced_27 : decode cX3_isBalanced 27 = .ok (.getfield 12, 3) := by decide +kernel
theorem dX3_isBalanced_30 : decode cX3_isBalanced 30 = .ok (.getfield 67, 3) := by decide +kernel
theorem dX3_isBalanced_33 : decode cX3_isBalanced 33 = .ok (.if_icmp .ge 24, 3) := by decide +kernel
theorem dX3_isBalanced_36 : decode cX3_isBalanced 36 = .ok (.aload_n 0, 1) := by decide +kernel
theorem dX3_isBalanced_37 : decode cX3_isBalanced 37 = .ok (.iload_n 1, 1) := by decide +kernel
theorem dX3_isBalanced_38 : decode cX3_isBalanced 38 = .ok (.invokevirtual 294, 3) := by decide +kernel
theorem dX3_isBalanced_41 : decode cX3_isBalanced 41 = .ok (.aload_n 0, 1) := by decide +kernel
theorem dX3_isBalanced_42 : decode cX3_isBalanced 42 = .ok (.iload_n 1, 1) := by decide +kernel
theorem dX3_isBalanced_43 : decode cX3_isBalanced 43 = .ok (.invokevirtual 297, 3) := by decide +kernel
theorem dX3_isBalanced_46 : decode cX3_isBalanced 46 = .ok (.if_icmp .eq 5, 3) := by decide +kernel
theorem dX3_isBalanced_49 : decode cX3_isBalanced 49 = .ok (.iconst 0, 1) := by decide +kernel
theorem dX3_isBalanced_50 : decode cX3_isBalanced 50 = .ok (.ireturn, 1) := by decide +kernel
theorem dX3_isBalanced_51 : decode cX3_isBalanced 51 = .ok (.iinc 1 1, 3) := by decide +kernel
theorem dX3_isBalanced_54 : decode cX3_isBalanced 54 = .ok (.goto (-29), 3) := by decide +kernel
theorem dX3_isBalanced_57 : decode cX3_isBalanced 57 = .ok (.iconst 1, 1) := by decide +kernel
theorem dX3_isBalanced_58 : decode cX3_isBalanced 58 = .ok (.ireturn, 1) := by decide +kernel
theorem dX3_isWithin_0 : decode cX3_isWithin 0 = .ok (.iload_n 0, 1) := by decide +kernel
theorem dX3_isWithin_1 : decode cX3_isWithin 1 = .ok (.iload_n 1, 1) := by decide +kernel
theorem dX3_isWithin_2 : decode cX3_isWithin 2 = .ok (.if_icmp .lt 12, 3) := by decide +kernel
theorem dX3_isWithin_5 : decode cX3_isWithin 5 = .ok (.iload_n 0, 1) := by decide +kernel
theorem dX3_isWithin_6 : decode cX3_isWithin 6 = .ok (.iload_n 2, 1) := by decide +kernel
theorem dX3_isWithin_7 : decode cX3_isWithin 7 = .ok (.if_icmp .gt 7, 3) := by decide +kernel
theorem dX3_isWithin_10 : decode cX3_isWithin 10 = .ok (.iconst 1, 1) := by decide +kernel
theorem dX3_isWithin_11 : decode cX3_isWithin 11 = .ok (.goto 4, 3) := by decide +kernel
theorem dX3_isWithin_14 : decode cX3_isWithin 14 = .ok (.iconst 0, 1) := by decide +kernel
theorem dX3_isWithin_15 : decode cX3_isWithin 15 = .ok (.ireturn, 1) := by decide +kernel
theorem dX3_needReach_0 : decode cX3_needReach 0 = .ok (.iload_n 1, 1) := by decide +kernel
theorem dX3_needReach_1 : decode cX3_needReach 1 = .ok (.ifCond .lt 14, 3) := by decide +kernel
theorem dX3_needReach_4 : decode cX3_needReach 4 = .ok (.iload_n 1, 1) := by decide +kernel
theorem dX3_needReach_5 : decode cX3_needReach 5 = .ok (.aload_n 0, 1) := by decide +kernel
theorem dX3_needReach_6 : decode cX3_needReach 6 = .ok (.getfield 12, 3) := by decide +kernel
theorem dX3_needReach_9 : decode cX3_needReach 9 = .ok (.getfield 67, 3) := by decide +kernel
theorem dX3_needReach_12 : decode cX3_needReach 12 = .ok (.if_icmp .lt 14, 3) := by decide +kernel
theorem dX3_needReach_15 : decode cX3_needReach 15 = .ok (.new 324, 3) := by decide +kernel
theorem dX3_needReach_18 : decode cX3_needReach 18 = .ok (.dup, 1) := by decide +kernel
theorem dX3_needReach_19 : decode cX3_needReach 19 = .ok (.ldc_w 333, 3) := by decide +kernel
theorem dX3_needReach_22 : decode cX3_needReach 22 = .ok (.invokespecial 328, 3) := by decide +kernel
theorem dX3_needReach_25 : decode cX3_needReach 25 = .ok (.athrow, 1) := by decide +kernel
theorem dX3_needReach_26 : decode cX3_needReach 26 = .ok (.return_, 1) := by decide +kernel
theorem dX3_needLock_0 : decode cX3_needLock 0 = .ok (.iload_n 1, 1) := by decide +kernel
theorem dX3_needLock_1 : decode cX3_needLock 1 = .ok (.ifCond .lt 16, 3) := by decide +kernel
theorem dX3_needLock_4 : decode cX3_needLock 4 = .ok (.iload_n 1, 1) := by decide +kernel
theorem dX3_needLock_5 : decode cX3_needLock 5 = .ok (.aload_n 0, 1) := by decide +kernel
theorem dX3_needLock_6 : decode cX3_needLock 6 = .ok (.getfield 12, 3) := by decide +kernel
theorem dX3_needLock_9 : decode cX3_needLock 9 = .ok (.getfield 67, 3) := by decide +kernel
theorem dX3_needLock_12 : decode cX3_needLock 12 = .ok (.iconst 1, 1) := by decide +kernel
theorem dX3_needLock_13 : decode cX3_needLock 13 = .ok (.isub, 1) := by decide +kernel
theorem dX3_needLock_14 : decode cX3_needLock 14 = .ok (.if_icmp .lt 14, 3) := by decide +kernel
theorem dX3_needLock_17 : decode cX3_needLock 17 = .ok (.new 324, 3) := by decide +kernel
theorem dX3_needLock_20 : decode cX3_needLock 20 = .ok (.dup, 1) := by decide +kernel
theorem dX3_needLock_21 : decode cX3_needLock 21 = .ok (.ldc_w 335, 3) := by decide +kernel
theorem dX3_needLock_24 : decode cX3_needLock 24 = .ok (.invokespecial 328, 3) := by decide +kernel
theorem dX3_needLock_27 : decode cX3_needLock 27 = .ok (.athrow, 1) := by decide +kernel
theorem dX3_needLock_28 : decode cX3_needLock 28 = .ok (.return_, 1) := by decide +kernel
theorem dX3_needMovement_0 : decode cX3_needMovement 0 = .ok (.iload_n 1, 1) := by decide +kernel
theorem dX3_needMovement_1 : decode cX3_needMovement 1 = .ok (.ifCond .lt 17, 3) := by decide +kernel
theorem dX3_needMovement_4 : decode cX3_needMovement 4 = .ok (.iload_n 1, 1) := by decide +kernel
theorem dX3_needMovement_5 : decode cX3_needMovement 5 = .ok (.aload_n 0, 1) := by decide +kernel
theorem dX3_needMovement_6 : decode cX3_needMovement 6 = .ok (.getfield 12, 3) := by decide +kernel
theorem dX3_needMovement_9 : decode cX3_needMovement 9 = .ok (.getfield 89, 3) := by decide +kernel
theorem dX3_needMovement_12 : decode cX3_needMovement 12 = .ok (.getfield 267, 3) := by decide +kernel
theorem dX3_needMovement_15 : decode cX3_needMovement 15 = .ok (.if_icmp .lt 14, 3) := by decide +kernel
theorem dX3_needMovement_18 : decode cX3_needMovement 18 = .ok (.new 324, 3) := by decide +kernel
theorem dX3_needMovement_21 : decode cX3_needMovement 21 = .ok (.dup, 1) := by decide +kernel
theorem dX3_needMovement_22 : decode cX3_needMovement 22 = .ok (.ldc_w 337, 3) := by decide +kernel
theorem dX3_needMovement_25 : decode cX3_needMovement 25 = .ok (.invokespecial 328, 3) := by decide +kernel
theorem dX3_needMovement_28 : decode cX3_needMovement 28 = .ok (.athrow, 1) := by decide +kernel
theorem dX3_needMovement_29 : decode cX3_needMovement 29 = .ok (.return_, 1) := by decide +kernel
theorem dX3_needRefusal_0 : decode cX3_needRefusal 0 = .ok (.aload_n 0, 1) := by decide +kernel
theorem dX3_needRefusal_1 : decode cX3_needRefusal 1 = .ok (.getfield 48, 3) := by decide +kernel
theorem dX3_needRefusal_4 : decode cX3_needRefusal 4 = .ok (.ifCond .ne 14, 3) := by decide +kernel
theorem dX3_needRefusal_7 : decode cX3_needRefusal 7 = .ok (.new 199, 3) := by decide +kernel
theorem dX3_needRefusal_10 : decode cX3_needRefusal 10 = .ok (.dup, 1) := by decide +kernel
theorem dX3_needRefusal_11 : decode cX3_needRefusal 11 = .ok (.ldc_w 339, 3) := by decide +kernel
theorem dX3_needRefusal_14 : decode cX3_needRefusal 14 = .ok (.invokespecial 203, 3) := by decide +kernel
theorem dX3_needRefusal_17 : decode cX3_needRefusal 17 = .ok (.athrow, 1) := by decide +kernel
theorem dX3_needRefusal_18 : decode cX3_needRefusal 18 = .ok (.return_, 1) := by decide +kernel
theorem dX3_needTons_0 : decode cX3_needTons 0 = .ok (.iload_n 0, 1) := by decide +kernel
theorem dX3_needTons_1 : decode cX3_needTons 1 = .ok (.iconst 1, 1) := by decide +kernel
theorem dX3_needTons_2 : decode cX3_needTons 2 = .ok (.sipush 999, 3) := by decide +kernel
theorem dX3_needTons_5 : decode cX3_needTons 5 = .ok (.invokestatic 56, 3) := by decide +kernel
theorem dX3_needTons_8 : decode cX3_needTons 8 = .ok (.ifCond .ne 14, 3) := by decide +kernel
theorem dX3_needTons_11 : decode cX3_needTons 11 = .ok (.new 60, 3) := by decide +kernel
theorem dX3_needTons_14 : decode cX3_needTons 14 = .ok (.dup, 1) := by decide +kernel
theorem dX3_needTons_15 : decode cX3_needTons 15 = .ok (.ldc_w 341, 3) := by decide +kernel
theorem dX3_needTons_18 : decode cX3_needTons 18 = .ok (.invokespecial 64, 3) := by decide +kernel
theorem dX3_needTons_21 : decode cX3_needTons 21 = .ok (.athrow, 1) := by decide +kernel
theorem dX3_needTons_22 : decode cX3_needTons 22 = .ok (.return_, 1) := by decide +kernel
theorem dX3_bargeNumbered_0 : decode cX3_bargeNumbered 0 = .ok (.iload_n 1, 1) := by decide +kernel
theorem dX3_bargeNumbered_1 : decode cX3_bargeNumbered 1 = .ok (.ifCond .lt 9, 3) := by decide +kernel
theorem dX3_bargeNumbered_4 : decode cX3_bargeNumbered 4 = .ok (.iload_n 1, 1) := by decide +kernel
theorem dX3_bargeNumbered_5 : decode cX3_bargeNumbered 5 = .ok (.bipush 8, 2) := by decide +kernel
theorem dX3_bargeNumbered_7 : decode cX3_bargeNumbered 7 = .ok (.if_icmp .lt 7, 3) := by decide +kernel
theorem dX3_bargeNumbered_10 : decode cX3_bargeNumbered 10 = .ok (.aconst_null, 1) := by decide +kernel
theorem dX3_bargeNumbered_11 : decode cX3_bargeNumbered 11 = .ok (.goto 9, 3) := by decide +kernel
theorem dX3_bargeNumbered_14 : decode cX3_bargeNumbered 14 = .ok (.aload_n 0, 1) := by decide +kernel
theorem dX3_bargeNumbered_15 : decode cX3_bargeNumbered 15 = .ok (.getfield 31, 3) := by decide +kernel
theorem dX3_bargeNumbered_18 : decode cX3_bargeNumbered 18 = .ok (.iload_n 1, 1) := by decide +kernel
theorem dX3_bargeNumbered_19 : decode cX3_bargeNumbered 19 = .ok (.aaload, 1) := by decide +kernel
theorem dX3_bargeNumbered_20 : decode cX3_bargeNumbered 20 = .ok (.astore_n 2, 1) := by decide +kernel
theorem dX3_bargeNumbered_21 : decode cX3_bargeNumbered 21 = .ok (.aload_n 2, 1) := by decide +kernel
theorem dX3_bargeNumbered_22 : decode cX3_bargeNumbered 22 = .ok (.ifnonnull 14, 3) := by decide +kernel
theorem dX3_bargeNumbered_25 : decode cX3_bargeNumbered 25 = .ok (.new 324, 3) := by decide +kernel
theorem dX3_bargeNumbered_28 : decode cX3_bargeNumbered 28 = .ok (.dup, 1) := by decide +kernel
theorem dX3_bargeNumbered_29 : decode cX3_bargeNumbered 29 = .ok (.ldc_w 343, 3) := by decide +kernel
theorem dX3_bargeNumbered_32 : decode cX3_bargeNumbered 32 = .ok (.invokespecial 328, 3) := by decide +kernel
theorem dX3_bargeNumbered_35 : decode cX3_bargeNumbered 35 = .ok (.athrow, 1) := by decide +kernel
theorem dX3_bargeNumbered_36 : decode cX3_bargeNumbered 36 = .ok (.aload_n 2, 1) := by decide +kernel
theorem dX3_bargeNumbered_37 : decode cX3_bargeNumbered 37 = .ok (.areturn, 1) := by decide +kernel
theorem dX3_openReach_0 : decode cX3_openReach 0 = .ok (.aload_n 0, 1) := by decide +kernel
theorem dX3_openReach_1 : decode cX3_openReach 1 = .ok (.getfield 12, 3) := by decide +kernel
theorem dX3_openReach_4 : decode cX3_openReach 4 = .ok (.iload_n 1, 1) := by decide +kernel
theorem dX3_openReach_5 : decode cX3_openReach 5 = .ok (.invokevirtual 345, 3) := by decide +kernel
theorem dX3_openReach_8 : decode cX3_openReach 8 = .ok (.istore_n 3, 1) := by decide +kernel
theorem dX3_openReach_9 : decode cX3_openReach 9 = .ok (.aload_n 0, 1) := by decide +kernel
theorem dX3_openReach_10 : decode cX3_openReach 10 = .ok (.getfield 12, 3) := by decide +kernel
theorem dX3_openReach_13 : decode cX3_openReach 13 = .ok (.iconst (-1), 1) := by decide +kernel
theorem dX3_openReach_14 : decode cX3_openReach 14 = .ok (.iload_n 3, 1) := by decide +kernel
theorem dX3_openReach_15 : decode cX3_openReach 15 = .ok (.iload_n 1, 1) := by decide +kernel
theorem dX3_openReach_16 : decode cX3_openReach 16 = .ok (.iload_n 2, 1) := by decide +kernel
theorem dX3_openReach_17 : decode cX3_openReach 17 = .ok (.imul, 1) := by decide +kernel
theorem dX3_openReach_18 : decode cX3_openReach 18 = .ok (.invokevirtual 127, 3) := by decide +kernel
theorem dX3_openReach_21 : decode cX3_openReach 21 = .ok (.aload_n 0, 1) := by decide +kernel
theorem dX3_openReach_22 : decode cX3_openReach 22 = .ok (.getfield 23, 3) := by decide +kernel
theorem dX3_openReach_25 : decode cX3_openReach 25 = .ok (.iload_n 3, 1) := by decide +kernel
theorem dX3_openReach_26 : decode cX3_openReach 26 = .ok (.bipush 100, 2) := by decide +kernel
theorem dX3_openReach_28 : decode cX3_openReach 28 = .ok (.iastore, 1) := by decide +kernel
theorem dX3_openReach_29 : decode cX3_openReach 29 = .ok (.aload_n 0, 1) := by decide +kernel
theorem dX3_openReach_30 : decode cX3_openReach 30 = .ok (.getfield 26, 3) := by decide +kernel
theorem dX3_openReach_33 : decode cX3_openReach 33 = .ok (.iload_n 3, 1) := by decide +kernel
theorem dX3_openReach_34 : decode cX3_openReach 34 = .ok (.iload_n 2, 1) := by decide +kernel
theorem dX3_openReach_35 : decode cX3_openReach 35 = .ok (.iastore, 1) := by decide +kernel
theorem dX3_openReach_36 : decode cX3_openReach 36 = .ok (.iload_n 3, 1) := by decide +kernel
theorem dX3_openReach_37 : decode cX3_openReach 37 = .ok (.ireturn, 1) := by decide +kernel
theorem dX3_changedPrice_0 : decode cX3_changedPrice 0 = .ok (.iload_n 0, 1) := by decide +kernel
theorem dX3_changedPrice_1 : decode cX3_changedPrice 1 = .ok (.bipush 9, 2) := by decide +kernel
theorem dX3_changedPrice_3 : decode cX3_changedPrice 3 = .ok (.iadd, 1) := by decide +kernel
theorem dX3_changedPrice_4 : decode cX3_changedPrice 4 = .ok (.bipush 10, 2) := by decide +kernel
theorem dX3_changedPrice_6 : decode cX3_changedPrice 6 = .ok (.idiv, 1) := by decide +kernel
theorem dX3_changedPrice_7 : decode cX3_changedPrice 7 = .ok (.istore_n 3, 1) := by decide +kernel
theorem dX3_changedPrice_8 : decode cX3_changedPrice 8 = .ok (.iload_n 2, 1) := by decide +kernel
theorem dX3_changedPrice_9 : decode cX3_changedPrice 9 = .ok (.iload_n 1, 1) := by decide +kernel
theorem dX3_changedPrice_10 : decode cX3_changedPrice 10 = .ok (.if_icmp .ge 13, 3) := by decide +kernel
theorem dX3_changedPrice_13 : decode cX3_changedPrice 13 = .ok (.iload_n 0, 1) := by decide +kernel
theorem dX3_changedPrice_14 : decode cX3_changedPrice 14 = .ok (.iload_n 3, 1) := by decide +kernel
theorem dX3_changedPrice_15 : decode cX3_changedPrice 15 = .ok (.iadd, 1) := by decide +kernel
theorem dX3_changedPrice_16 : decode cX3_changedPrice 16 = .ok (.sipush 9999, 3) := by decide +kernel
theorem dX3_changedPrice_19 : decode cX3_changedPrice 19 = .ok (.invokestatic 131, 3) := by decide +kernel
theorem dX3_changedPrice_22 : decode cX3_changedPrice 22 = .ok (.ireturn, 1) := by decide +kernel
theorem dX3_changedPrice_23 : decode cX3_changedPrice 23 = .ok (.iload_n 2, 1) := by decide +kernel
theorem dX3_changedPrice_24 : decode cX3_changedPrice 24 = .ok (.iload_n 1, 1) := by decide +kernel
theorem dX3_changedPrice_25 : decode cX3_changedPrice 25 = .ok (.if_icmp .le 11, 3) := by decide +kernel
theorem dX3_changedPrice_28 : decode cX3_changedPrice 28 = .ok (.iload_n 0, 1) := by decide +kernel
theorem dX3_changedPrice_29 : decode cX3_changedPrice 29 = .ok (.iload_n 3, 1) := by decide +kernel
theorem dX3_changedPrice_30 : decode cX3_changedPrice 30 = .ok (.isub, 1) := by decide +kernel
theorem dX3_changedPrice_31 : decode cX3_changedPrice 31 = .ok (.iconst 1, 1) := by decide +kernel
theorem dX3_changedPrice_32 : decode cX3_changedPrice 32 = .ok (.invokestatic 264, 3) := by decide +kernel
theorem dX3_changedPrice_35 : decode cX3_changedPrice 35 = .ok (.ireturn, 1) := by decide +kernel
theorem dX3_changedPrice_36 : decode cX3_changedPrice 36 = .ok (.iload_n 0, 1) := by decide +kernel
theorem dX3_changedPrice_37 : decode cX3_changedPrice 37 = .ok (.ireturn, 1) := by decide +kernel
theorem dX3_floatsWith_0 : decode cX3_floatsWith 0 = .ok (.aload_n 1, 1) := by decide +kernel
theorem dX3_floatsWith_1 : decode cX3_floatsWith 1 = .ok (.aload_n 1, 1) := by decide +kernel
theorem dX3_floatsWith_2 : decode cX3_floatsWith 2 = .ok (.getfield 162, 3) := by decide +kernel
theorem dX3_floatsWith_5 : decode cX3_floatsWith 5 = .ok (.iload_n 2, 1) := by decide +kernel
theorem dX3_floatsWith_6 : decode cX3_floatsWith 6 = .ok (.iadd, 1) := by decide +kernel
theorem dX3_floatsWith_7 : decode cX3_floatsWith 7 = .ok (.invokevirtual 348, 3) := by decide +kernel
theorem dX3_floatsWith_10 : decode cX3_floatsWith 10 = .ok (.aload_n 0, 1) := by decide +kernel
theorem dX3_floatsWith_11 : decode cX3_floatsWith 11 = .ok (.getfield 12, 3) := by decide +kernel
theorem dX3_floatsWith_14 : decode cX3_floatsWith 14 = .ok (.aload_n 1, 1) := by decide +kernel
theorem dX3_floatsWith_15 : decode cX3_floatsWith 15 = .ok (.getfield 159, 3) := by decide +kernel
theorem dX3_floatsWith_18 : decode cX3_floatsWith 18 = .ok (.invokevirtual 98, 3) := by decide +kernel
theorem dX3_floatsWith_21 : decode cX3_floatsWith 21 = .ok (.if_icmp .ge 7, 3) := by decide +kernel
theorem dX3_floatsWith_24 : decode cX3_floatsWith 24 = .ok (.iconst 1, 1) := by decide +kernel
theorem dX3_floatsWith_25 : decode cX3_floatsWith 25 = .ok (.goto 4, 3) := by decide +kernel
theorem dX3_floatsWith_28 : decode cX3_floatsWith 28 = .ok (.iconst 0, 1) := by decide +kernel
theorem dX3_floatsWith_29 : decode cX3_floatsWith 29 = .ok (.ireturn, 1) := by decide +kernel
theorem dX3_unload_0 : decode cX3_unload 0 = .ok (.aload_n 1, 1) := by decide +kernel
theorem dX3_unload_1 : decode cX3_unload 1 = .ok (.dup, 1) := by decide +kernel
theorem dX3_unload_2 : decode cX3_unload 2 = .ok (.getfield 162, 3) := by decide +kernel
theorem dX3_unload_5 : decode cX3_unload 5 = .ok (.iload_n 2, 1) := by decide +kernel
theorem dX3_unload_6 : decode cX3_unload 6 = .ok (.isub, 1) := by decide +kernel
theorem dX3_unload_7 : decode cX3_unload 7 = .ok (.putfield 162, 3) := by decide +kernel
theorem dX3_unload_10 : decode cX3_unload 10 = .ok (.aload_n 0, 1) := by decide +kernel
theorem dX3_unload_11 : decode cX3_unload 11 = .ok (.dup, 1) := by decide +kernel
theorem dX3_unload_12 : decode cX3_unload 12 = .ok (.getfield 44, 3) := by decide +kernel
theorem dX3_unload_15 : decode cX3_unload 15 = .ok (.iload_n 2, 1) := by decide +kernel
theorem dX3_unload_16 : decode cX3_unload 16 = .ok (.i2l, 1) := by decide +kernel
theorem dX3_unload_17 : decode cX3_unload 17 = .ok (.aload_n 0, 1) := by decide +kernel
theorem dX3_unload_18 : decode cX3_unload 18 = .ok (.getfield 23, 3) := by decide +kernel
theorem dX3_unload_21 : decode cX3_unload 21 = .ok (.aload_n 1, 1) := by decide +kernel
theorem dX3_unload_22 : decode cX3_unload 22 = .ok (.getfield 159, 3) := by decide +kernel
theorem dX3_unload_25 : decode cX3_unload 25 = .ok (.iaload, 1) := by decide +kernel
theorem dX3_unload_26 : decode cX3_unload 26 = .ok (.i2l, 1) := by decide +kernel
theorem dX3_unload_27 : decode cX3_unload 27 = .ok (.lmul, 1) := by decide +kernel
theorem dX3_unload_28 : decode cX3_unload 28 = .ok (.ladd, 1) := by decide +kernel
theorem dX3_unload_29 : decode cX3_unload 29 = .ok (.putfield 44, 3) := by decide +kernel
theorem dX3_unload_32 : decode cX3_unload 32 = .ok (.return_, 1) := by decide +kernel
theorem dX3_carry_0 : decode cX3_carry 0 = .ok (.aload_n 0, 1) := by decide +kernel
theorem dX3_carry_1 : decode cX3_carry 1 = .ok (.getfield 12, 3) := by decide +kernel
theorem dX3_carry_4 : decode cX3_carry 4 = .ok (.invokevirtual 226, 3) := by decide +kernel
theorem dX3_carry_7 : decode cX3_carry 7 = .ok (.aload_n 0, 1) := by decide +kernel
theorem dX3_carry_8 : decode cX3_carry 8 = .ok (.aload_n 1, 1) := by decide +kernel
theorem dX3_carry_9 : decode cX3_carry 9 = .ok (.iload_n 2, 1) := by decide +kernel
theorem dX3_carry_10 : decode cX3_carry 10 = .ok (.invokevirtual 229, 3) := by decide +kernel
theorem dX3_carry_13 : decode cX3_carry 13 = .ok (.ifCond .ne 37, 3) := by decide +kernel
theorem dX3_carry_16 : decode cX3_carry 16 = .ok (.aload_n 0, 1) := by decide +kernel
theorem dX3_carry_17 : decode cX3_carry 17 = .ok (.getfield 12, 3) := by decide +kernel
theorem dX3_carry_20 : decode cX3_carry 20 = .ok (.invokevirtual 232, 3) := by decide +kernel
theorem dX3_carry_23 : decode cX3_carry 23 = .ok (.aload_n 0, 1) := by decide +kernel
theorem dX3_carry_24 : decode cX3_carry 24 = .ok (.aload_n 0, 1) := by decide +kernel
theorem dX3_carry_25 : decode cX3_carry 25 = .ok (.getfield 351, 3) := by decide +kernel
theorem dX3_carry_28 : decode cX3_carry 28 = .ok (.putfield 48, 3) := by decide +kernel
theorem dX3_carry_31 : decode cX3_carry 31 = .ok (.aload_n 0, 1) := by decide +kernel
theorem dX3_carry_32 : decode cX3_carry 32 = .ok (.aload_n 0, 1) := by decide +kernel
theorem dX3_carry_33 : decode cX3_carry 33 = .ok (.getfield 354, 3) := by decide +kernel
theorem dX3_carry_36 : decode cX3_carry 36 = .ok (.putfield 240, 3) := by decide +kernel
theorem dX3_carry_39 : decode cX3_carry 39 = .ok (.new 114, 3) := by decide +kernel
theorem dX3_carry_42 : decode cX3_carry 42 = .ok (.dup, 1) := by decide +kernel
theorem dX3_carry_43 : decode cX3_carry 43 = .ok (.ldc_w 357, 3) := by decide +kernel
theorem dX3_carry_46 : decode cX3_carry 46 = .ok (.invokespecial 118, 3) := by decide +kernel
theorem dX3_carry_49 : decode cX3_carry 49 = .ok (.athrow, 1) := by decide +kernel
theorem dX3_carry_50 : decode cX3_carry 50 = .ok (.iconst 0, 1) := by decide +kernel
theorem dX3_carry_51 : decode cX3_carry 51 = .ok (.istore_n 3, 1) := by decide +kernel
theorem dX3_carry_52 : decode cX3_carry 52 = .ok (.aload_n 1, 1) := by decide +kernel
theorem dX3_carry_53 : decode cX3_carry 53 = .ok (.getfield 159, 3) := by decide +kernel
theorem dX3_carry_56 : decode cX3_carry 56 = .ok (.iload_n 2, 1) := by decide +kernel
theorem dX3_carry_57 : decode cX3_carry 57 = .ok (.invokestatic 131, 3) := by decide +kernel
theorem dX3_carry_60 : decode cX3_carry 60 = .ok (.istore 4, 2) := by decide +kernel
theorem dX3_carry_62 : decode cX3_carry 62 = .ok (.iload 4, 2) := by decide +kernel
theorem dX3_carry_64 : decode cX3_carry 64 = .ok (.aload_n 1, 1) := by decide +kernel
theorem dX3_carry_65 : decode cX3_carry 65 = .ok (.getfield 159, 3) := by decide +kernel
theorem dX3_carry_68 : decode cX3_carry 68 = .ok (.iload_n 2, 1) := by decide +kernel
theorem dX3_carry_69 : decode cX3_carry 69 = .ok (.invokestatic 264, 3) := by decide +kernel
theorem dX3_carry_72 : decode cX3_carry 72 = .ok (.if_icmp .ge 23, 3) := by decide +kernel
theorem dX3_carry_75 : decode cX3_carry 75 = .ok (.iload_n 3, 1) := by decide +kernel
theorem dX3_carry_76 : decode cX3_carry 76 = .ok (.aload_n 1, 1) := by decide +kernel
theorem dX3_carry_77 : decode cX3_carry 77 = .ok (.aload_n 0, 1) := by decide +kernel
theorem dX3_carry_78 : decode cX3_carry 78 = .ok (.getfield 16, 3) := by decide +kernel
theorem dX3_carry_81 : decode cX3_carry 81 = .ok (.iload 4, 2) := by decide +kernel
theorem dX3_carry_83 : decode cX3_carry 83 = .ok (.iaload, 1) := by decide +kernel
theorem dX3_carry_84 : decode cX3_carry 84 = .ok (.invokevirtual 209, 3) := by decide +kernel
theorem dX3_carry_87 : decode cX3_carry 87 = .ok (.iadd, 1) := by decide +kernel
theorem dX3_carry_88 : decode cX3_carry 88 = .ok (.istore_n 3, 1) := by decide +kernel
theorem dX3_carry_89 : decode cX3_carry 89 = .ok (.iinc 4 1, 3) := by decide +kernel
theorem dX3_carry_92 : decode cX3_carry 92 = .ok (.goto (-30), 3) := by decide +kernel
theorem dX3_carry_95 : decode cX3_carry 95 = .ok (.aload_n 1, 1) := by decide +kernel
theorem dX3_carry_96 : decode cX3_carry 96 = .ok (.astore 4, 2) := by decide +kernel
theorem dX3_carry_98 : decode cX3_carry 98 = .ok (.aload 4, 2) := by decide +kernel
theorem dX3_carry_100 : decode cX3_carry 100 = .ok (.ifnull 19, 3) := by decide +kernel
theorem dX3_carry_103 : decode cX3_carry 103 = .ok (.aload 4, 2) := by decide +kernel
theorem dX3_carry_105 : decode cX3_carry 105 = .ok (.iload_n 2, 1) := by decide +kernel
theorem dX3_carry_106 : decode cX3_carry 106 = .ok (.putfield 159, 3) := by decide +kernel
theorem dX3_carry_109 : decode cX3_carry 109 = .ok (.aload 4, 2) := by decide +kernel
theorem dX3_carry_111 : decode cX3_carry 111 = .ok (.getfield 187, 3) := by decide +kernel
theorem dX3_carry_114 : decode cX3_carry 114 = .ok (.astore 4, 2) := by decide +kernel
theorem dX3_carry_116 : decode cX3_carry 116 = .ok (.goto (-18), 3) := by decide +kernel
theorem dX3_carry_119 : decode cX3_carry 119 = .ok (.iload_n 3, 1) := by decide +kernel
theorem dX3_carry_120 : decode cX3_carry 120 = .ok (.ireturn, 1) := by decide +kernel
theorem dX3_canReach_0 : decode cX3_canReach 0 = .ok (.aload_n 0, 1) := by decide +kernel
theorem dX3_canReach_1 : decode cX3_canReach 1 = .ok (.getfield 12, 3) := by decide +kernel
theorem dX3_canReach_4 : decode cX3_canReach 4 = .ok (.invokevirtual 226, 3) := by decide +kernel
theorem dX3_canReach_7 : decode cX3_canReach 7 = .ok (.aload_n 0, 1) := by decide +kernel
theorem dX3_canReach_8 : decode cX3_canReach 8 = .ok (.aload_n 1, 1) := by decide +kernel
theorem dX3_canReach_9 : decode cX3_canReach 9 = .ok (.iload_n 2, 1) := by decide +kernel
theorem dX3_canReach_10 : decode cX3_canReach 10 = .ok (.invokevirtual 229, 3) := by decide +kernel
theorem dX3_canReach_13 : decode cX3_canReach 13 = .ok (.istore_n 3, 1) := by decide +kernel
theorem dX3_canReach_14 : decode cX3_canReach 14 = .ok (.aload_n 0, 1) := by decide +kernel
theorem dX3_canReach_15 : decode cX3_canReach 15 = .ok (.getfield 12, 3) := by decide +kernel
theorem dX3_canReach_18 : decode cX3_canReach 18 = .ok (.invokevirtual 232, 3) := by decide +kernel
theorem dX3_canReach_21 : decode cX3_canReach 21 = .ok (.iload_n 3, 1) := by decide +kernel
theorem dX3_canReach_22 : decode cX3_canReach 22 = .ok (.ireturn, 1) := by decide +kernel
theorem dX3_tryVoyage_0 : decode cX3_tryVoyage 0 = .ok (.aload_n 1, 1) := by decide +kernel
theorem dX3_tryVoyage_1 : decode cX3_tryVoyage 1 = .ok (.getfield 159, 3) := by decide +kernel
theorem dX3_tryVoyage_4 : decode cX3_tryVoyage 4 = .ok (.istore_n 3, 1) := by decide +kernel
theorem dX3_tryVoyage_5 : decode cX3_tryVoyage 5 = .ok (.iload_n 2, 1) := by decide +kernel
theorem dX3_tryVoyage_6 : decode cX3_tryVoyage 6 = .ok (.iload_n 3, 1) := by decide +kernel
theorem dX3_tryVoyage_7 : decode cX3_tryVoyage 7 = .ok (.if_icmp .le 7, 3) := by decide +kernel
theorem dX3_tryVoyage_10 : decode cX3_tryVoyage 10 = .ok (.iconst 1, 1) := by decide +kernel
theorem dX3_tryVoyage_11 : decode cX3_tryVoyage 11 = .ok (.goto 4, 3) := by decide +kernel
theorem dX3_tryVoyage_14 : decode cX3_tryVoyage 14 = .ok (.iconst 0, 1) := by decide +kernel
theorem dX3_tryVoyage_15 : decode cX3_tryVoyage 15 = .ok (.istore 4, 2) := by decide +kernel
theorem dX3_tryVoyage_17 : decode cX3_tryVoyage 17 = .ok (.iload_n 2, 1) := by decide +kernel
theorem dX3_tryVoyage_18 : decode cX3_tryVoyage 18 = .ok (.iload_n 3, 1) := by decide +kernel
theorem dX3_tryVoyage_19 : decode cX3_tryVoyage 19 = .ok (.isub, 1) := by decide +kernel
theorem dX3_tryVoyage_20 : decode cX3_tryVoyage 20 = .ok (.invokestatic 359, 3) := by decide +kernel
theorem dX3_tryVoyage_23 : decode cX3_tryVoyage 23 = .ok (.istore 5, 2) := by decide +kernel
theorem dX3_tryVoyage_25 : decode cX3_tryVoyage 25 = .ok (.iconst 0, 1) := by decide +kernel
theorem dX3_tryVoyage_26 : decode cX3_tryVoyage 26 = .ok (.istore 6, 2) := by decide +kernel
theorem dX3_tryVoyage_28 : decode cX3_tryVoyage 28 = .ok (.iload 6, 2) := by decide +kernel
theorem dX3_tryVoyage_30 : decode cX3_tryVoyage 30 = .ok (.iload 5, 2) := by decide +kernel
theorem dX3_tryVoyage_32 : decode cX3_tryVoyage 32 = .ok (.if_icmp .ge 59, 3) := by decide +kernel
theorem dX3_tryVoyage_35 : decode cX3_tryVoyage 35 = .ok (.iload 4, 2) := by decide +kernel
theorem dX3_tryVoyage_37 : decode cX3_tryVoyage 37 = .ok (.ifCond .eq 10, 3) := by decide +kernel
theorem dX3_tryVoyage_40 : decode cX3_tryVoyage 40 = .ok (.iload_n 3, 1) := by decide +kernel
theorem dX3_tryVoyage_41 : decode cX3_tryVoyage 41 = .ok (.iload 6, 2) := by decide +kernel
theorem dX3_tryVoyage_43 : decode cX3_tryVoyage 43 = .ok (.iadd, 1) := by decide +kernel
theorem dX3_tryVoyage_44 : decode cX3_tryVoyage 44 = .ok (.goto 9, 3) := by decide +kernel
theorem dX3_tryVoyage_47 : decode cX3_tryVoyage 47 = .ok (.iload_n 3, 1) := by decide +kernel
theorem dX3_tryVoyage_48 : decode cX3_tryVoyage 48 = .ok (.iconst 1, 1) := by decide +kernel
theorem dX3_tryVoyage_49 : decode cX3_tryVoyage 49 = .ok (.isub, 1) := by decide +kernel
theorem dX3_tryVoyage_50 : decode cX3_tryVoyage 50 = .ok (.iload 6, 2) := by decide +kernel
theorem dX3_tryVoyage_52 : decode cX3_tryVoyage 52 = .ok (.isub, 1) := by decide +kernel
theorem dX3_tryVoyage_53 : decode cX3_tryVoyage 53 = .ok (.istore 7, 2) := by decide +kernel
theorem dX3_tryVoyage_55 : decode cX3_tryVoyage 55 = .ok (.aload_n 0, 1) := by decide +kernel
theorem dX3_tryVoyage_56 : decode cX3_tryVoyage 56 = .ok (.aload_n 1, 1) := by decide +kernel
theorem dX3_tryVoyage_57 : decode cX3_tryVoyage 57 = .ok (.iload 7, 2) := by decide +kernel
theorem dX3_tryVoyage_59 : decode cX3_tryVoyage 59 = .ok (.iload 4, 2) := by decide +kernel
theorem dX3_tryVoyage_61 : decode cX3_tryVoyage 61 = .ok (.invokevirtual 362, 3) := by decide +kernel
theorem dX3_tryVoyage_64 : decode cX3_tryVoyage 64 = .ok (.istore 8, 2) := by decide +kernel
theorem dX3_tryVoyage_66 : decode cX3_tryVoyage 66 = .ok (.iload 8, 2) := by decide +kernel
theorem dX3_tryVoyage_68 : decode cX3_tryVoyage 68 = .ok (.ifCond .eq 17, 3) := by decide +kernel
theorem dX3_tryVoyage_71 : decode cX3_tryVoyage 71 = .ok (.aload_n 0, 1) := by decide +kernel
theorem dX3_tryVoyage_72 : decode cX3_tryVoyage 72 = .ok (.iload 8, 2) := by decide +kernel
theorem dX3_tryVoyage_74 : decode cX3_tryVoyage 74 = .ok (.putfield 351, 3) := by decide +kernel
theorem dX3_tryVoyage_77 : decode cX3_tryVoyage 77 = .ok (.aload_n 0, 1) := by decide +kernel
theorem dX3_tryVoyage_78 : decode cX3_tryVoyage 78 = .ok (.iload 7, 2) := by decide +kernel
theorem dX3_tryVoyage_80 : decode cX3_tryVoyage 80 = .ok (.putfield 354, 3) := by decide +kernel
theorem dX3_tryVoyage_83 : decode cX3_tryVoyage 83 = .ok (.iconst 0, 1) := by decide +kernel
theorem dX3_tryVoyage_84 : decode cX3_tryVoyage 84 = .ok (.ireturn, 1) := by decide +kernel
theorem dX3_tryVoyage_85 : decode cX3_tryVoyage 85 = .ok (.iinc 6 1, 3) := by decide +kernel
theorem dX3_tryVoyage_88 : decode cX3_tryVoyage 88 = .ok (.goto (-60), 3) := by decide +kernel
theorem dX3_tryVoyage_91 : decode cX3_tryVoyage 91 = .ok (.iconst 1, 1) := by decide +kernel
theorem dX3_tryVoyage_92 : decode cX3_tryVoyage 92 = .ok (.ireturn, 1) := by decide +kernel
theorem dX3_tryPassage_0 : decode cX3_tryPassage 0 = .ok (.aload_n 0, 1) := by decide +kernel
theorem dX3_tryPassage_1 : decode cX3_tryPassage 1 = .ok (.getfield 16, 3) := by decide +kernel
theorem dX3_tryPassage_4 : decode cX3_tryPassage 4 = .ok (.iload_n 2, 1) := by decide +kernel
theorem dX3_tryPassage_5 : decode cX3_tryPassage 5 = .ok (.iaload, 1) := by decide +kernel
theorem dX3_tryPassage_6 : decode cX3_tryPassage 6 = .ok (.istore 4, 2) := by decide +kernel
theorem dX3_tryPassage_8 : decode cX3_tryPassage 8 = .ok (.aload_n 1, 1) := by decide +kernel
theorem dX3_tryPassage_9 : decode cX3_tryPassage 9 = .ok (.invokevirtual 204, 3) := by decide +kernel
theorem dX3_tryPassage_12 : decode cX3_tryPassage 12 = .ok (.iload 4, 2) := by decide +kernel
theorem dX3_tryPassage_14 : decode cX3_tryPassage 14 = .ok (.if_icmp .le 5, 3) := by decide +kernel
theorem dX3_tryPassage_17 : decode cX3_tryPassage 17 = .ok (.iconst 1, 1) := by decide +kernel
theorem dX3_tryPassage_18 : decode cX3_tryPassage 18 = .ok (.ireturn, 1) := by decide +kernel
theorem dX3_tryPassage_19 : decode cX3_tryPassage 19 = .ok (.aload_n 1, 1) := by decide +kernel
theorem dX3_tryPassage_20 : decode cX3_tryPassage 20 = .ok (.aconst_null, 1) := by decide +kernel
theorem dX3_tryPassage_21 : decode cX3_tryPassage 21 = .ok (.invokevirtual 366, 3) := by decide +kernel
theorem dX3_tryPassage_24 : decode cX3_tryPassage 24 = .ok (.aload_n 0, 1) := by decide +kernel
theorem dX3_tryPassage_25 : decode cX3_tryPassage 25 = .ok (.getfield 20, 3) := by decide +kernel
theorem dX3_tryPassage_28 : decode cX3_tryPassage 28 = .ok (.iload_n 2, 1) := by decide +kernel
theorem dX3_tryPassage_29 : decode cX3_tryPassage 29 = .ok (.iaload, 1) := by decide +kernel
theorem dX3_tryPassage_30 : decode cX3_tryPassage 30 = .ok (.if_icmp .le 5, 3) := by decide +kernel
theorem dX3_tryPassage_33 : decode cX3_tryPassage 33 = .ok (.iconst 2, 1) := by decide +kernel
theorem dX3_tryPassage_34 : decode cX3_tryPassage 34 = .ok (.ireturn, 1) := by decide +kernel
theorem dX3_tryPassage_35 : decode cX3_tryPassage 35 = .ok (.iload_n 3, 1) := by decide +kernel
theorem dX3_tryPassage_36 : decode cX3_tryPassage 36 = .ok (.ifCond .eq 7, 3) := by decide +kernel
theorem dX3_tryPassage_39 : decode cX3_tryPassage 39 = .ok (.iload_n 2, 1) := by decide +kernel
theorem dX3_tryPassage_40 : decode cX3_tryPassage 40 = .ok (.goto 6, 3) := by decide +kernel
theorem dX3_tryPassage_43 : decode cX3_tryPassage 43 = .ok (.iload_n 2, 1) := by decide +kernel
theorem dX3_tryPassage_44 : decode cX3_tryPassage 44 = .ok (.iconst 1, 1) := by decide +kernel
theorem dX3_tryPassage_45 : decode cX3_tryPassage 45 = .ok (.iadd, 1) := by decide +kernel
theorem dX3_tryPassage_46 : decode cX3_tryPassage 46 = .ok (.istore 5, 2) := by decide +kernel
theorem dX3_tryPassage_48 : decode cX3_tryPassage 48 = .ok (.iload_n 3, 1) := by decide +kernel
theorem dX3_tryPassage_49 : decode cX3_tryPassage 49 = .ok (.ifCond .eq 9, 3) := by decide +kernel
theorem dX3_tryPassage_52 : decode cX3_tryPassage 52 = .ok (.iload_n 2, 1) := by decide +kernel
theorem dX3_tryPassage_53 : decode cX3_tryPassage 53 = .ok (.iconst 1, 1) := by decide +kernel
theorem dX3_tryPassage_54 : decode cX3_tryPassage 54 = .ok (.iadd, 1) := by decide +kernel
theorem dX3_tryPassage_55 : decode cX3_tryPassage 55 = .ok (.goto 4, 3) := by decide +kernel
theorem dX3_tryPassage_58 : decode cX3_tryPassage 58 = .ok (.iload_n 2, 1) := by decide +kernel
theorem dX3_tryPassage_59 : decode cX3_tryPassage 59 = .ok (.istore 6, 2) := by decide +kernel
theorem dX3_tryPassage_61 : decode cX3_tryPassage 61 = .ok (.aload_n 1, 1) := by decide +kernel
theorem dX3_tryPassage_62 : decode cX3_tryPassage 62 = .ok (.astore 7, 2) := by decide +kernel
theorem dX3_tryPassage_64 : decode cX3_tryPassage 64 = .ok (.aload 7, 2) := by decide +kernel
theorem dX3_tryPassage_66 : decode cX3_tryPassage 66 = .ok (.ifnull 128, 3) := by decide +kernel
theorem dX3_tryPassage_69 : decode cX3_tryPassage 69 = .ok (.aload 7, 2) := by decide +kernel
theorem dX3_tryPassage_71 : decode cX3_tryPassage 71 = .ok (.aload 7, 2) := by decide +kernel
theorem dX3_tryPassage_73 : decode cX3_tryPassage 73 = .ok (.iload 4, 2) := by decide +kernel
theorem dX3_tryPassage_75 : decode cX3_tryPassage 75 = .ok (.invokevirtual 370, 3) := by decide +kernel
theorem dX3_tryPassage_78 : decode cX3_tryPassage 78 = .ok (.invokevirtual 366, 3) := by decide +kernel
theorem dX3_tryPassage_81 : decode cX3_tryPassage 81 = .ok (.istore 8, 2) := by decide +kernel
theorem dX3_tryPassage_83 : decode cX3_tryPassage 83 = .ok (.iload 8, 2) := by decide +kernel
theorem dX3_tryPassage_85 : decode cX3_tryPassage 85 = .ok (.aload_n 0, 1) := by decide +kernel
theorem dX3_tryPassage_86 : decode cX3_tryPassage 86 = .ok (.getfield 12, 3) := by decide +kernel
theorem dX3_tryPassage_89 : decode cX3_tryPassage 89 = .ok (.iload 5, 2) := by decide +kernel
theorem dX3_tryPassage_91 : decode cX3_tryPassage 91 = .ok (.invokevirtual 98, 3) := by decide +kernel
theorem dX3_tryPassage_94 : decode cX3_tryPassage 94 = .ok (.if_icmp .lt 5, 3) := by decide +kernel
theorem dX3_tryPassage_97 : decode cX3_tryPassage 97 = .ok (.iconst 3, 1) := by decide +kernel
theorem dX3_tryPassage_98 : decode cX3_tryPassage 98 = .ok (.ireturn, 1) := by decide +kernel
theorem dX3_tryPassage_99 : decode cX3_tryPassage 99 = .ok (.iload_n 3, 1) := by decide +kernel
theorem dX3_tryPassage_100 : decode cX3_tryPassage 100 = .ok (.ifCond .ne 22, 3) := by decide +kernel
theorem dX3_tryPassage_103 : decode cX3_tryPassage 103 = .ok (.aload_n 0, 1) := by decide +kernel
theorem dX3_tryPassage_104 : decode cX3_tryPassage 104 = .ok (.getfield 12, 3) := by decide +kernel
theorem dX3_tryPassage_107 : decode cX3_tryPassage 107 = .ok (.iload_n 2, 1) := by decide +kernel
theorem dX3_tryPassage_108 : decode cX3_tryPassage 108 = .ok (.invokevirtual 104, 3) := by decide +kernel
theorem dX3_tryPassage_111 : decode cX3_tryPassage 111 = .ok (.ifCond .eq 11, 3) := by decide +kernel
theorem dX3_tryPassage_114 : decode cX3_tryPassage 114 = .ok (.aload_n 0, 1) := by decide +kernel
theorem dX3_tryPassage_115 : decode cX3_tryPassage 115 = .ok (.getfield 12, 3) := by decide +kernel
theorem dX3_tryPassage_118 : decode cX3_tryPassage 118 = .ok (.iload_n 2, 1) := by decide +kernel
theorem dX3_tryPassage_119 : decode cX3_tryPassage 119 = .ok (.invokevirtual 108, 3) := by decide +kernel
theorem dX3_tryPassage_122 : decode cX3_tryPassage 122 = .ok (.aload_n 0, 1) := by decide +kernel
theorem dX3_tryPassage_123 : decode cX3_tryPassage 123 = .ok (.getfield 12, 3) := by decide +kernel
theorem dX3_tryPassage_126 : decode cX3_tryPassage 126 = .ok (.iload_n 2, 1) := by decide +kernel
theorem dX3_tryPassage_127 : decode cX3_tryPassage 127 = .ok (.invokevirtual 104, 3) := by decide +kernel
theorem dX3_tryPassage_130 : decode cX3_tryPassage 130 = .ok (.ifCond .ne 24, 3) := by decide +kernel
theorem dX3_tryPassage_133 : decode cX3_tryPassage 133 = .ok (.aload_n 0, 1) := by decide +kernel
theorem dX3_tryPassage_134 : decode cX3_tryPassage 134 = .ok (.getfield 12, 3) := by decide +kernel
theorem dX3_tryPassage_137 : decode cX3_tryPassage 137 = .ok (.iload_n 2, 1) := by decide +kernel
theorem dX3_tryPassage_138 : decode cX3_tryPassage 138 = .ok (.invokevirtual 111, 3) := by decide +kernel
theorem dX3_tryPassage_141 : decode cX3_tryPassage 141 = .ok (.ifCond .ne 5, 3) := by decide +kernel
theorem dX3_tryPassage_144 : decode cX3_tryPassage 144 = .ok (.iconst 4, 1) := by decide +kernel
theorem dX3_tryPassage_145 : decode cX3_tryPassage 145 = .ok (.ireturn, 1) := by decide +kernel
theorem dX3_tryPassage_146 : decode cX3_tryPassage 146 = .ok (.aload_n 0, 1) := by decide +kernel
theorem dX3_tryPassage_147 : decode cX3_tryPassage 147 = .ok (.getfield 12, 3) := by decide +kernel
theorem dX3_tryPassage_150 : decode cX3_tryPassage 150 = .ok (.iload_n 2, 1) := by decide +kernel
theorem dX3_tryPassage_151 : decode cX3_tryPassage 151 = .ok (.invokevirtual 119, 3) := by decide +kernel
theorem dX3_tryPassage_154 : decode cX3_tryPassage 154 = .ok (.iload_n 3, 1) := by decide +kernel
theorem dX3_tryPassage_155 : decode cX3_tryPassage 155 = .ok (.ifCond .eq 11, 3) := by decide +kernel
theorem dX3_tryPassage_158 : decode cX3_tryPassage 158 = .ok (.aload_n 0, 1) := by decide +kernel
theorem dX3_tryPassage_159 : decode cX3_tryPassage 159 = .ok (.getfield 12, 3) := by decide +kernel
theorem dX3_tryPassage_162 : decode cX3_tryPassage 162 = .ok (.iload_n 2, 1) := by decide +kernel
theorem dX3_tryPassage_163 : decode cX3_tryPassage 163 = .ok (.invokevirtual 108, 3) := by decide +kernel
theorem dX3_tryPassage_166 : decode cX3_tryPassage 166 = .ok (.iload 8, 2) := by decide +kernel
theorem dX3_tryPassage_168 : decode cX3_tryPassage 168 = .ok (.aload_n 0, 1) := by decide +kernel
theorem dX3_tryPassage_169 : decode cX3_tryPassage 169 = .ok (.getfield 12, 3) := by decide +kernel
theorem dX3_tryPassage_172 : decode cX3_tryPassage 172 = .ok (.iload 6, 2) := by decide +kernel
theorem dX3_tryPassage_174 : decode cX3_tryPassage 174 = .ok (.invokevirtual 98, 3) := by decide +kernel
theorem dX3_tryPassage_177 : decode cX3_tryPassage 177 = .ok (.if_icmp .lt 5, 3) := by decide +kernel
theorem dX3_tryPassage_180 : decode cX3_tryPassage 180 = .ok (.iconst 5, 1) := by decide +kernel
theorem dX3_tryPassage_181 : decode cX3_tryPassage 181 = .ok (.ireturn, 1) := by decide +kernel
theorem dX3_tryPassage_182 : decode cX3_tryPassage 182 = .ok (.aload 7, 2) := by decide +kernel
theorem dX3_tryPassage_184 : decode cX3_tryPassage 184 = .ok (.iload 4, 2) := by decide +kernel
theorem dX3_tryPassage_186 : decode cX3_tryPassage 186 = .ok (.invokevirtual 370, 3) := by decide +kernel
theorem dX3_tryPassage_189 : decode cX3_tryPassage 189 = .ok (.astore 7, 2) := by decide +kernel
theorem dX3_tryPassage_191 : decode cX3_tryPassage 191 = .ok (.goto (-127), 3) := by decide +kernel
theorem dX3_tryPassage_194 : decode cX3_tryPassage 194 = .ok (.iconst 0, 1) := by decide +kernel
theorem dX3_tryPassage_195 : decode cX3_tryPassage 195 = .ok (.ireturn, 1) := by decide +kernel
