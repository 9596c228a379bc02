theorem dL_castOn_0 : decode cL_castOn 0 = .ok (.aload_n 3, 1) := by decide +kernel
theorem dL_castOn_1 : decode cL_castOn 1 = .ok (.iconst 0, 1) := by decide +kernel
theorem dL_castOn_2 : decode cL_castOn 2 = .ok (.aload_n 0, 1) := by decide +kernel
theorem dL_castOn_3 : decode cL_castOn 3 = .ok (.iload_n 1, 1) := by decide +kernel
theorem dL_castOn_4 : decode cL_castOn 4 = .ok (.iload_n 2, 1) := by decide +kernel
theorem dL_castOn_5 : decode cL_castOn 5 = .ok (.invokevirtual 7, 3) := by decide +kernel
theorem dL_castOn_8 : decode cL_castOn 8 = .ok (.i2l, 1) := by decide +kernel
theorem dL_castOn_9 : decode cL_castOn 9 = .ok (.lastore, 1) := by decide +kernel
theorem dL_castOn_10 : decode cL_castOn 10 = .ok (.goto 15, 3) := by decide +kernel
theorem dL_castOn_13 : decode cL_castOn 13 = .ok (.astore 4, 2) := by decide +kernel
theorem dL_castOn_15 : decode cL_castOn 15 = .ok (.iconst 1, 1) := by decide +kernel
theorem dL_castOn_16 : decode cL_castOn 16 = .ok (.ireturn, 1) := by decide +kernel
theorem dL_castOn_17 : decode cL_castOn 17 = .ok (.astore 4, 2) := by decide +kernel
theorem dL_castOn_19 : decode cL_castOn 19 = .ok (.iconst 2, 1) := by decide +kernel
theorem dL_castOn_20 : decode cL_castOn 20 = .ok (.ireturn, 1) := by decide +kernel
theorem dL_castOn_21 : decode cL_castOn 21 = .ok (.astore 4, 2) := by decide +kernel
theorem dL_castOn_23 : decode cL_castOn 23 = .ok (.iconst 3, 1) := by decide +kernel
theorem dL_castOn_24 : decode cL_castOn 24 = .ok (.ireturn, 1) := by decide +kernel
theorem dL_castOn_25 : decode cL_castOn 25 = .ok (.iconst 0, 1) := by decide +kernel
theorem dL_castOn_26 : decode cL_castOn 26 = .ok (.ireturn, 1) := by decide +kernel
theorem dL_castOff_0 : decode cL_castOff 0 = .ok (.aload_n 1, 1) := by decide +kernel
theorem dL_castOff_1 : decode cL_castOff 1 = .ok (.iconst 0, 1) := by decide +kernel
theorem dL_castOff_2 : decode cL_castOff 2 = .ok (.aload_n 0, 1) := by decide +kernel
theorem dL_castOff_3 : decode cL_castOff 3 = .ok (.invokevirtual 19, 3) := by decide +kernel
theorem dL_castOff_6 : decode cL_castOff 6 = .ok (.i2l, 1) := by decide +kernel
theorem dL_castOff_7 : decode cL_castOff 7 = .ok (.lastore, 1) := by decide +kernel
theorem dL_castOff_8 : decode cL_castOff 8 = .ok (.goto 6, 3) := by decide +kernel
theorem dL_castOff_11 : decode cL_castOff 11 = .ok (.astore_n 2, 1) := by decide +kernel
theorem dL_castOff_12 : decode cL_castOff 12 = .ok (.iconst 1, 1) := by decide +kernel
theorem dL_castOff_13 : decode cL_castOff 13 = .ok (.ireturn, 1) := by decide +kernel
theorem dL_castOff_14 : decode cL_castOff 14 = .ok (.iconst 0, 1) := by decide +kernel
theorem dL_castOff_15 : decode cL_castOff 15 = .ok (.ireturn, 1) := by decide +kernel
theorem dL_hold_0 : decode cL_hold 0 = .ok (.aload_n 2, 1) := by decide +kernel
theorem dL_hold_1 : decode cL_hold 1 = .ok (.iconst 0, 1) := by decide +kernel
theorem dL_hold_2 : decode cL_hold 2 = .ok (.aload_n 0, 1) := by decide +kernel
theorem dL_hold_3 : decode cL_hold 3 = .ok (.iload_n 1, 1) := by decide +kernel
theorem dL_hold_4 : decode cL_hold 4 = .ok (.invokevirtual 23, 3) := by decide +kernel
theorem dL_hold_7 : decode cL_hold 7 = .ok (.i2l, 1) := by decide +kernel
theorem dL_hold_8 : decode cL_hold 8 = .ok (.lastore, 1) := by decide +kernel
theorem dL_hold_9 : decode cL_hold 9 = .ok (.goto 9, 3) := by decide +kernel
theorem dL_hold_12 : decode cL_hold 12 = .ok (.astore_n 3, 1) := by decide +kernel
theorem dL_hold_13 : decode cL_hold 13 = .ok (.iconst 1, 1) := by decide +kernel
theorem dL_hold_14 : decode cL_hold 14 = .ok (.ireturn, 1) := by decide +kernel
theorem dL_hold_15 : decode cL_hold 15 = .ok (.astore_n 3, 1) := by decide +kernel
theorem dL_hold_16 : decode cL_hold 16 = .ok (.iconst 2, 1) := by decide +kernel
theorem dL_hold_17 : decode cL_hold 17 = .ok (.ireturn, 1) := by decide +kernel
theorem dL_hold_18 : decode cL_hold 18 = .ok (.iconst 0, 1) := by decide +kernel
theorem dL_hold_19 : decode cL_hold 19 = .ok (.ireturn, 1) := by decide +kernel
theorem dL_release_0 : decode cL_release 0 = .ok (.aload_n 2, 1) := by decide +kernel
theorem dL_release_1 : decode cL_release 1 = .ok (.iconst 0, 1) := by decide +kernel
theorem dL_release_2 : decode cL_release 2 = .ok (.aload_n 0, 1) := by decide +kernel
theorem dL_release_3 : decode cL_release 3 = .ok (.iload_n 1, 1) := by decide +kernel
theorem dL_release_4 : decode cL_release 4 = .ok (.invokevirtual 27, 3) := by decide +kernel
theorem dL_release_7 : decode cL_release 7 = .ok (.i2l, 1) := by decide +kernel
theorem dL_release_8 : decode cL_release 8 = .ok (.lastore, 1) := by decide +kernel
theorem dL_release_9 : decode cL_release 9 = .ok (.goto 9, 3) := by decide +kernel
theorem dL_release_12 : decode cL_release 12 = .ok (.astore_n 3, 1) := by decide +kernel
theorem dL_release_13 : decode cL_release 13 = .ok (.iconst 1, 1) := by decide +kernel
theorem dL_release_14 : decode cL_release 14 = .ok (.ireturn, 1) := by decide +kernel
theorem dL_release_15 : decode cL_release 15 = .ok (.astore_n 3, 1) := by decide +kernel
theorem dL_release_16 : decode cL_release 16 = .ok (.iconst 2, 1) := by decide +kernel
theorem dL_release_17 : decode cL_release 17 = .ok (.ireturn, 1) := by decide +kernel
theorem dL_release_18 : decode cL_release 18 = .ok (.iconst 0, 1) := by decide +kernel
theorem dL_release_19 : decode cL_release 19 = .ok (.ireturn, 1) := by decide +kernel
theorem dL_dropStitch_0 : decode cL_dropStitch 0 = .ok (.aload_n 2, 1) := by decide +kernel
theorem dL_dropStitch_1 : decode cL_dropStitch 1 = .ok (.iconst 0, 1) := by decide +kernel
theorem dL_dropStitch_2 : decode cL_dropStitch 2 = .ok (.aload_n 0, 1) := by decide +kernel
theorem dL_dropStitch_3 : decode cL_dropStitch 3 = .ok (.iload_n 1, 1) := by decide +kernel
theorem dL_dropStitch_4 : decode cL_dropStitch 4 = .ok (.invokevirtual 30, 3) := by decide +kernel
theorem dL_dropStitch_7 : decode cL_dropStitch 7 = .ok (.i2l, 1) := by decide +kernel
theorem dL_dropStitch_8 : decode cL_dropStitch 8 = .ok (.lastore, 1) := by decide +kernel
theorem dL_dropStitch_9 : decode cL_dropStitch 9 = .ok (.goto 9, 3) := by decide +kernel
theorem dL_dropStitch_12 : decode cL_dropStitch 12 = .ok (.astore_n 3, 1) := by decide +kernel
theorem dL_dropStitch_13 : decode cL_dropStitch 13 = .ok (.iconst 1, 1) := by decide +kernel
theorem dL_dropStitch_14 : decode cL_dropStitch 14 = .ok (.ireturn, 1) := by decide +kernel
theorem dL_dropStitch_15 : decode cL_dropStitch 15 = .ok (.astore_n 3, 1) := by decide +kernel
theorem dL_dropStitch_16 : decode cL_dropStitch 16 = .ok (.iconst 2, 1) := by decide +kernel
theorem dL_dropStitch_17 : decode cL_dropStitch 17 = .ok (.ireturn, 1) := by decide +kernel
theorem dL_dropStitch_18 : decode cL_dropStitch 18 = .ok (.iconst 0, 1) := by decide +kernel
theorem dL_dropStitch_19 : decode cL_dropStitch 19 = .ok (.ireturn, 1) := by decide +kernel
theorem dL_pickUp_0 : decode cL_pickUp 0 = .ok (.aload_n 2, 1) := by decide +kernel
theorem dL_pickUp_1 : decode cL_pickUp 1 = .ok (.iconst 0, 1) := by decide +kernel
theorem dL_pickUp_2 : decode cL_pickUp 2 = .ok (.aload_n 0, 1) := by decide +kernel
theorem dL_pickUp_3 : decode cL_pickUp 3 = .ok (.iload_n 1, 1) := by decide +kernel
theorem dL_pickUp_4 : decode cL_pickUp 4 = .ok (.invokevirtual 33, 3) := by decide +kernel
theorem dL_pickUp_7 : decode cL_pickUp 7 = .ok (.i2l, 1) := by decide +kernel
theorem dL_pickUp_8 : decode cL_pickUp 8 = .ok (.lastore, 1) := by decide +kernel
theorem dL_pickUp_9 : decode cL_pickUp 9 = .ok (.goto 9, 3) := by decide +kernel
theorem dL_pickUp_12 : decode cL_pickUp 12 = .ok (.astore_n 3, 1) := by decide +kernel
theorem dL_pickUp_13 : decode cL_pickUp 13 = .ok (.iconst 1, 1) := by decide +kernel
theorem dL_pickUp_14 : decode cL_pickUp 14 = .ok (.ireturn, 1) := by decide +kernel
theorem dL_pickUp_15 : decode cL_pickUp 15 = .ok (.astore_n 3, 1) := by decide +kernel
theorem dL_pickUp_16 : decode cL_pickUp 16 = .ok (.iconst 2, 1) := by decide +kernel
theorem dL_pickUp_17 : decode cL_pickUp 17 = .ok (.ireturn, 1) := by decide +kernel
theorem dL_pickUp_18 : decode cL_pickUp 18 = .ok (.iconst 0, 1) := by decide +kernel
theorem dL_pickUp_19 : decode cL_pickUp 19 = .ok (.ireturn, 1) := by decide +kernel
theorem dL_transfer_0 : decode cL_transfer 0 = .ok (.aload_n 3, 1) := by decide +kernel
theorem dL_transfer_1 : decode cL_transfer 1 = .ok (.iconst 0, 1) := by decide +kernel
theorem dL_transfer_2 : decode cL_transfer 2 = .ok (.aload_n 0, 1) := by decide +kernel
theorem dL_transfer_3 : decode cL_transfer 3 = .ok (.iload_n 1, 1) := by decide +kernel
theorem dL_transfer_4 : decode cL_transfer 4 = .ok (.iload_n 2, 1) := by decide +kernel
theorem dL_transfer_5 : decode cL_transfer 5 = .ok (.invokevirtual 36, 3) := by decide +kernel
theorem dL_transfer_8 : decode cL_transfer 8 = .ok (.i2l, 1) := by decide +kernel
theorem dL_transfer_9 : decode cL_transfer 9 = .ok (.lastore, 1) := by decide +kernel
theorem dL_transfer_10 : decode cL_transfer 10 = .ok (.goto 11, 3) := by decide +kernel
theorem dL_transfer_13 : decode cL_transfer 13 = .ok (.astore 4, 2) := by decide +kernel
theorem dL_transfer_15 : decode cL_transfer 15 = .ok (.iconst 1, 1) := by decide +kernel
theorem dL_transfer_16 : decode cL_transfer 16 = .ok (.ireturn, 1) := by decide +kernel
theorem dL_transfer_17 : decode cL_transfer 17 = .ok (.astore 4, 2) := by decide +kernel
theorem dL_transfer_19 : decode cL_transfer 19 = .ok (.iconst 2, 1) := by decide +kernel
theorem dL_transfer_20 : decode cL_transfer 20 = .ok (.ireturn, 1) := by decide +kernel
theorem dL_transfer_21 : decode cL_transfer 21 = .ok (.iconst 0, 1) := by decide +kernel
theorem dL_transfer_22 : decode cL_transfer 22 = .ok (.ireturn, 1) := by decide +kernel
theorem dL_isInWork_0 : decode cL_isInWork 0 = .ok (.aload_n 2, 1) := by decide +kernel
theorem dL_isInWork_1 : decode cL_isInWork 1 = .ok (.iconst 0, 1) := by decide +kernel
theorem dL_isInWork_2 : decode cL_isInWork 2 = .ok (.aload_n 0, 1) := by decide +kernel
theorem dL_isInWork_3 : decode cL_isInWork 3 = .ok (.iload_n 1, 1) := by decide +kernel
theorem dL_isInWork_4 : decode cL_isInWork 4 = .ok (.invokevirtual 40, 3) := by decide +kernel
theorem dL_isInWork_7 : decode cL_isInWork 7 = .ok (.ifCond .eq 7, 3) := by decide +kernel
theorem dL_isInWork_10 : decode cL_isInWork 10 = .ok (.lconst 1, 1) := by decide +kernel
theorem dL_isInWork_11 : decode cL_isInWork 11 = .ok (.goto 4, 3) := by decide +kernel
theorem dL_isInWork_14 : decode cL_isInWork 14 = .ok (.lconst 0, 1) := by decide +kernel
theorem dL_isInWork_15 : decode cL_isInWork 15 = .ok (.lastore, 1) := by decide +kernel
theorem dL_isInWork_16 : decode cL_isInWork 16 = .ok (.goto 6, 3) := by decide +kernel
theorem dL_isInWork_19 : decode cL_isInWork 19 = .ok (.astore_n 3, 1) := by decide +kernel
theorem dL_isInWork_20 : decode cL_isInWork 20 = .ok (.iconst 1, 1) := by decide +kernel
theorem dL_isInWork_21 : decode cL_isInWork 21 = .ok (.ireturn, 1) := by decide +kernel
theorem dL_isInWork_22 : decode cL_isInWork 22 = .ok (.iconst 0, 1) := by decide +kernel
theorem dL_isInWork_23 : decode cL_isInWork 23 = .ok (.ireturn, 1) := by decide +kernel
theorem dL_isOnHold_0 : decode cL_isOnHold 0 = .ok (.aload_n 2, 1) := by decide +kernel
theorem dL_isOnHold_1 : decode cL_isOnHold 1 = .ok (.iconst 0, 1) := by decide +kernel
theorem dL_isOnHold_2 : decode cL_isOnHold 2 = .ok (.aload_n 0, 1) := by decide +kernel
theorem dL_isOnHold_3 : decode cL_isOnHold 3 = .ok (.iload_n 1, 1) := by decide +kernel
theorem dL_isOnHold_4 : decode cL_isOnHold 4 = .ok (.invokevirtual 44, 3) := by decide +kernel
theorem dL_isOnHold_7 : decode cL_isOnHold 7 = .ok (.ifCond .eq 7, 3) := by decide +kernel
theorem dL_isOnHold_10 : decode cL_isOnHold 10 = .ok (.lconst 1, 1) := by decide +kernel
theorem dL_isOnHold_11 : decode cL_isOnHold 11 = .ok (.goto 4, 3) := by decide +kernel
theorem dL_isOnHold_14 : decode cL_isOnHold 14 = .ok (.lconst 0, 1) := by decide +kernel
theorem dL_isOnHold_15 : decode cL_isOnHold 15 = .ok (.lastore, 1) := by decide +kernel
theorem dL_isOnHold_16 : decode cL_isOnHold 16 = .ok (.goto 6, 3) := by decide +kernel
theorem dL_isOnHold_19 : decode cL_isOnHold 19 = .ok (.astore_n 3, 1) := by decide +kernel
theorem dL_isOnHold_20 : decode cL_isOnHold 20 = .ok (.iconst 1, 1) := by decide +kernel
theorem dL_isOnHold_21 : decode cL_isOnHold 21 = .ok (.ireturn, 1) := by decide +kernel
theorem dL_isOnHold_22 : decode cL_isOnHold 22 = .ok (.iconst 0, 1) := by decide +kernel
theorem dL_isOnHold_23 : decode cL_isOnHold 23 = .ok (.ireturn, 1) := by decide +kernel
theorem dL_loopsOn_0 : decode cL_loopsOn 0 = .ok (.aload_n 2, 1) := by decide +kernel
theorem dL_loopsOn_1 : decode cL_loopsOn 1 = .ok (.iconst 0, 1) := by decide +kernel
theorem dL_loopsOn_2 : decode cL_loopsOn 2 = .ok (.aload_n 0, 1) := by decide +kernel
theorem dL_loopsOn_3 : decode cL_loopsOn 3 = .ok (.iload_n 1, 1) := by decide +kernel
theorem dL_loopsOn_4 : decode cL_loopsOn 4 = .ok (.invokevirtual 47, 3) := by decide +kernel
theorem dL_loopsOn_7 : decode cL_loopsOn 7 = .ok (.i2l, 1) := by decide +kernel
theorem dL_loopsOn_8 : decode cL_loopsOn 8 = .ok (.lastore, 1) := by decide +kernel
theorem dL_loopsOn_9 : decode cL_loopsOn 9 = .ok (.goto 6, 3) := by decide +kernel
theorem dL_loopsOn_12 : decode cL_loopsOn 12 = .ok (.astore_n 3, 1) := by decide +kernel
theorem dL_loopsOn_13 : decode cL_loopsOn 13 = .ok (.iconst 1, 1) := by decide +kernel
theorem dL_loopsOn_14 : decode cL_loopsOn 14 = .ok (.ireturn, 1) := by decide +kernel
theorem dL_loopsOn_15 : decode cL_loopsOn 15 = .ok (.iconst 0, 1) := by decide +kernel
theorem dL_loopsOn_16 : decode cL_loopsOn 16 = .ok (.ireturn, 1) := by decide +kernel
theorem dL_ageOn_0 : decode cL_ageOn 0 = .ok (.aload_n 2, 1) := by decide +kernel
theorem dL_ageOn_1 : decode cL_ageOn 1 = .ok (.iconst 0, 1) := by decide +kernel
theorem dL_ageOn_2 : decode cL_ageOn 2 = .ok (.aload_n 0, 1) := by decide +kernel
theorem dL_ageOn_3 : decode cL_ageOn 3 = .ok (.iload_n 1, 1) := by decide +kernel
theorem dL_ageOn_4 : decode cL_ageOn 4 = .ok (.invokevirtual 50, 3) := by decide +kernel
theorem dL_ageOn_7 : decode cL_ageOn 7 = .ok (.i2l, 1) := by decide +kernel
theorem dL_ageOn_8 : decode cL_ageOn 8 = .ok (.lastore, 1) := by decide +kernel
theorem dL_ageOn_9 : decode cL_ageOn 9 = .ok (.goto 9, 3) := by decide +kernel
theorem dL_ageOn_12 : decode cL_ageOn 12 = .ok (.astore_n 3, 1) := by decide +kernel
theorem dL_ageOn_13 : decode cL_ageOn 13 = .ok (.iconst 1, 1) := by decide +kernel
theorem dL_ageOn_14 : decode cL_ageOn 14 = .ok (.ireturn, 1) := by decide +kernel
theorem dL_ageOn_15 : decode cL_ageOn 15 = .ok (.astore_n 3, 1) := by decide +kernel
theorem dL_ageOn_16 : decode cL_ageOn 16 = .ok (.iconst 2, 1) := by decide +kernel
theorem dL_ageOn_17 : decode cL_ageOn 17 = .ok (.ireturn, 1) := by decide +kernel
theorem dL_ageOn_18 : decode cL_ageOn 18 = .ok (.iconst 0, 1) := by decide +kernel
theorem dL_ageOn_19 : decode cL_ageOn 19 = .ok (.ireturn, 1) := by decide +kernel
theorem dL_nextDropped_0 : decode cL_nextDropped 0 = .ok (.aload_n 2, 1) := by decide +kernel
theorem dL_nextDropped_1 : decode cL_nextDropped 1 = .ok (.iconst 0, 1) := by decide +kernel
theorem dL_nextDropped_2 : decode cL_nextDropped 2 = .ok (.aload_n 0, 1) := by decide +kernel
theorem dL_nextDropped_3 : decode cL_nextDropped 3 = .ok (.iload_n 1, 1) := by decide +kernel
theorem dL_nextDropped_4 : decode cL_nextDropped 4 = .ok (.invokevirtual 55, 3) := by decide +kernel
theorem dL_nextDropped_7 : decode cL_nextDropped 7 = .ok (.i2l, 1) := by decide +kernel
theorem dL_nextDropped_8 : decode cL_nextDropped 8 = .ok (.lastore, 1) := by decide +kernel
theorem dL_nextDropped_9 : decode cL_nextDropped 9 = .ok (.goto 9, 3) := by decide +kernel
theorem dL_nextDropped_12 : decode cL_nextDropped 12 = .ok (.astore_n 3, 1) := by decide +kernel
theorem dL_nextDropped_13 : decode cL_nextDropped 13 = .ok (.iconst 1, 1) := by decide +kernel
theorem dL_nextDropped_14 : decode cL_nextDropped 14 = .ok (.ireturn, 1) := by decide +kernel
theorem dL_nextDropped_15 : decode cL_nextDropped 15 = .ok (.astore_n 3, 1) := by decide +kernel
theorem dL_nextDropped_16 : decode cL_nextDropped 16 = .ok (.iconst 2, 1) := by decide +kernel
theorem dL_nextDropped_17 : decode cL_nextDropped 17 = .ok (.ireturn, 1) := by decide +kernel
theorem dL_nextDropped_18 : decode cL_nextDropped 18 = .ok (.iconst 0, 1) := by decide +kernel
theorem dL_nextDropped_19 : decode cL_nextDropped 19 = .ok (.ireturn, 1) := by decide +kernel
theorem dL_addYarn_0 : decode cL_addYarn 0 = .ok (.aload_n 3, 1) := by decide +kernel
theorem dL_addYarn_1 : decode cL_addYarn 1 = .ok (.iconst 0, 1) := by decide +kernel
theorem dL_addYarn_2 : decode cL_addYarn 2 = .ok (.aload_n 0, 1) := by decide +kernel
theorem dL_addYarn_3 : decode cL_addYarn 3 = .ok (.iload_n 1, 1) := by decide +kernel
theorem dL_addYarn_4 : decode cL_addYarn 4 = .ok (.iload_n 2, 1) := by decide +kernel
theorem dL_addYarn_5 : decode cL_addYarn 5 = .ok (.invokevirtual 58, 3) := by decide +kernel
theorem dL_addYarn_8 : decode cL_addYarn 8 = .ok (.i2l, 1) := by decide +kernel
theorem dL_addYarn_9 : decode cL_addYarn 9 = .ok (.lastore, 1) := by decide +kernel
theorem dL_addYarn_10 : decode cL_addYarn 10 = .ok (.goto 15, 3) := by decide +kernel
theorem dL_addYarn_13 : decode cL_addYarn 13 = .ok (.astore 4, 2) := by decide +kernel
theorem dL_addYarn_15 : decode cL_addYarn 15 = .ok (.iconst 1, 1) := by decide +kernel
theorem dL_addYarn_16 : decode cL_addYarn 16 = .ok (.ireturn, 1) := by decide +kernel
theorem dL_addYarn_17 : decode cL_addYarn 17 = .ok (.astore 4, 2) := by decide +kernel
theorem dL_addYarn_19 : decode cL_addYarn 19 = .ok (.iconst 2, 1) := by decide +kernel
theorem dL_addYarn_20 : decode cL_addYarn 20 = .ok (.ireturn, 1) := by decide +kernel
theorem dL_addYarn_21 : decode cL_addYarn 21 = .ok (.astore 4, 2) := by decide +kernel
theorem dL_addYarn_23 : decode cL_addYarn 23 = .ok (.iconst 3, 1) := by decide +kernel
theorem dL_addYarn_24 : decode cL_addYarn 24 = .ok (.ireturn, 1) := by decide +kernel
theorem dL_addYarn_25 : decode cL_addYarn 25 = .ok (.iconst 0, 1) := by decide +kernel
theorem dL_addYarn_26 : decode cL_addYarn 26 = .ok (.ireturn, 1) := by decide +kernel
theorem dL_selectFeeder_0 : decode cL_selectFeeder 0 = .ok (.aload_n 2, 1) := by decide +kernel
theorem dL_selectFeeder_1 : decode cL_selectFeeder 1 = .ok (.iconst 0, 1) := by decide +kernel
theorem dL_selectFeeder_2 : decode cL_selectFeeder 2 = .ok (.aload_n 0, 1) := by decide +kernel
theorem dL_selectFeeder_3 : decode cL_selectFeeder 3 = .ok (.iload_n 1, 1) := by decide +kernel
theorem dL_selectFeeder_4 : decode cL_selectFeeder 4 = .ok (.invokevirtual 61, 3) := by decide +kernel
theorem dL_selectFeeder_7 : decode cL_selectFeeder 7 = .ok (.i2l, 1) := by decide +kernel
theorem dL_selectFeeder_8 : decode cL_selectFeeder 8 = .ok (.lastore, 1) := by decide +kernel
theorem dL_selectFeeder_9 : decode cL_selectFeeder 9 = .ok (.goto 6, 3) := by decide +kernel
theorem dL_selectFeeder_12 : decode cL_selectFeeder 12 = .ok (.astore_n 3, 1) := by decide +kernel
theorem dL_selectFeeder_13 : decode cL_selectFeeder 13 = .ok (.iconst 1, 1) := by decide +kernel
theorem dL_selectFeeder_14 : decode cL_selectFeeder 14 = .ok (.ireturn, 1) := by decide +kernel
theorem dL_selectFeeder_15 : decode cL_selectFeeder 15 = .ok (.iconst 0, 1) := by decide +kernel
theorem dL_selectFeeder_16 : decode cL_selectFeeder 16 = .ok (.ireturn, 1) := by decide +kernel
theorem dL_setTension_0 : decode cL_setTension 0 = .ok (.aload_n 2, 1) := by decide +kernel
theorem dL_setTension_1 : decode cL_setTension 1 = .ok (.iconst 0, 1) := by decide +kernel
theorem dL_setTension_2 : decode cL_setTension 2 = .ok (.aload_n 0, 1) := by decide +kernel
theorem dL_setTension_3 : decode cL_setTension 3 = .ok (.iload_n 1, 1) := by decide +kernel
theorem dL_setTension_4 : decode cL_setTension 4 = .ok (.invokevirtual 64, 3) := by decide +kernel
theorem dL_setTension_7 : decode cL_setTension 7 = .ok (.i2l, 1) := by decide +kernel
theorem dL_setTension_8 : decode cL_setTension 8 = .ok (.lastore, 1) := by decide +kernel
theorem dL_setTension_9 : decode cL_setTension 9 = .ok (.goto 6, 3) := by decide +kernel
theorem dL_setTension_12 : decode cL_setTension 12 = .ok (.astore_n 3, 1) := by decide +kernel
theorem dL_setTension_13 : decode cL_setTension 13 = .ok (.iconst 1, 1) := by decide +kernel
theorem dL_setTension_14 : decode cL_setTension 14 = .ok (.ireturn, 1) := by decide +kernel
theorem dL_setTension_15 : decode cL_setTension 15 = .ok (.iconst 0, 1) := by decide +kernel
theorem dL_setTension_16 : decode cL_setTension 16 = .ok (.ireturn, 1) := by decide +kernel
theorem dL_addPatternRow_0 : decode cL_addPatternRow 0 = .ok (.aload_n 2, 1) := by decide +kernel
theorem dL_addPatternRow_1 : decode cL_addPatternRow 1 = .ok (.iconst 0, 1) := by decide +kernel
theorem dL_addPatternRow_2 : decode cL_addPatternRow 2 = .ok (.aload_n 0, 1) := by decide +kernel
theorem dL_addPatternRow_3 : decode cL_addPatternRow 3 = .ok (.iload_n 1, 1) := by decide +kernel
theorem dL_addPatternRow_4 : decode cL_addPatternRow 4 = .ok (.invokevirtual 67, 3) := by decide +kernel
theorem dL_addPatternRow_7 : decode cL_addPatternRow 7 = .ok (.i2l, 1) := by decide +kernel
theorem dL_addPatternRow_8 : decode cL_addPatternRow 8 = .ok (.lastore, 1) := by decide +kernel
theorem dL_addPatternRow_9 : decode cL_addPatternRow 9 = .ok (.goto 9, 3) := by decide +kernel
theorem dL_addPatternRow_12 : decode cL_addPatternRow 12 = .ok (.astore_n 3, 1) := by decide +kernel
theorem dL_addPatternRow_13 : decode cL_addPatternRow 13 = .ok (.iconst 1, 1) := by decide +kernel
theorem dL_addPatternRow_14 : decode cL_addPatternRow 14 = .ok (.ireturn, 1) := by decide +kernel
theorem dL_addPatternRow_15 : decode cL_addPatternRow 15 = .ok (.astore_n 3, 1) := by decide +kernel
theorem dL_addPatternRow_16 : decode cL_addPatternRow 16 = .ok (.iconst 2, 1) := by decide +kernel
theorem dL_addPatternRow_17 : decode cL_addPatternRow 17 = .ok (.ireturn, 1) := by decide +kernel
theorem dL_addPatternRow_18 : decode cL_addPatternRow 18 = .ok (.iconst 0, 1) := by decide +kernel
theorem dL_addPatternRow_19 : decode cL_addPatternRow 19 = .ok (.ireturn, 1) := by decide +kernel
theorem dL_yarnIn_0 : decode cL_yarnIn 0 = .ok (.aload_n 2, 1) := by decide +kernel
theorem dL_yarnIn_1 : decode cL_yarnIn 1 = .ok (.iconst 0, 1) := by decide +kernel
theorem dL_yarnIn_2 : decode cL_yarnIn 2 = .ok (.aload_n 0, 1) := by decide +kernel
theorem dL_yarnIn_3 : decode cL_yarnIn 3 = .ok (.iload_n 1, 1) := by decide +kernel
theorem dL_yarnIn_4 : decode cL_yarnIn 4 = .ok (.invokevirtual 70, 3) := by decide +kernel
theorem dL_yarnIn_7 : decode cL_yarnIn 7 = .ok (.i2l, 1) := by decide +kernel
theorem dL_yarnIn_8 : decode cL_yarnIn 8 = .ok (.lastore, 1) := by decide +kernel
theorem dL_yarnIn_9 : decode cL_yarnIn 9 = .ok (.goto 6, 3) := by decide +kernel
theorem dL_yarnIn_12 : decode cL_yarnIn 12 = .ok (.astore_n 3, 1) := by decide +kernel
theorem dL_yarnIn_13 : decode cL_yarnIn 13 = .ok (.iconst 1, 1) := by decide +kernel
theorem dL_yarnIn_14 : decode cL_yarnIn 14 = .ok (.ireturn, 1) := by decide +kernel
theorem dL_yarnIn_15 : decode cL_yarnIn 15 = .ok (.iconst 0, 1) := by decide +kernel
theorem dL_yarnIn_16 : decode cL_yarnIn 16 = .ok (.ireturn, 1) := by decide +kernel
theorem dL_isKnit_0 : decode cL_isKnit 0 = .ok (.aload_n 3, 1) := by decide +kernel
theorem dL_isKnit_1 : decode cL_isKnit 1 = .ok (.iconst 0, 1) := by decide +kernel
theorem dL_isKnit_2 : decode cL_isKnit 2 = .ok (.aload_n 0, 1) := by decide +kernel
theorem dL_isKnit_3 : decode cL_isKnit 3 = .ok (.iload_n 1, 1) := by decide +kernel
theorem dL_isKnit_4 : decode cL_isKnit 4 = .ok (.iload_n 2, 1) := by decide +kernel
theorem dL_isKnit_5 : decode cL_isKnit 5 = .ok (.invokevirtual 73, 3) := by decide +kernel
theorem dL_isKnit_8 : decode cL_isKnit 8 = .ok (.ifCond .eq 7, 3) := by decide +kernel
theorem dL_isKnit_11 : decode cL_isKnit 11 = .ok (.lconst 1, 1) := by decide +kernel
theorem dL_isKnit_12 : decode cL_isKnit 12 = .ok (.goto 4, 3) := by decide +kernel
theorem dL_isKnit_15 : decode cL_isKnit 15 = .ok (.lconst 0, 1) := by decide +kernel
theorem dL_isKnit_16 : decode cL_isKnit 16 = .ok (.lastore, 1) := by decide +kernel
theorem dL_isKnit_17 : decode cL_isKnit 17 = .ok (.goto 7, 3) := by decide +kernel
theorem dL_isKnit_20 : decode cL_isKnit 20 = .ok (.astore 4, 2) := by decide +kernel
theorem dL_isKnit_22 : decode cL_isKnit 22 = .ok (.iconst 1, 1) := by decide +kernel
theorem dL_isKnit_23 : decode cL_isKnit 23 = .ok (.ireturn, 1) := by decide +kernel
theorem dL_isKnit_24 : decode cL_isKnit 24 = .ok (.iconst 0, 1) := by decide +kernel
theorem dL_isKnit_25 : decode cL_isKnit 25 = .ok (.ireturn, 1) := by decide +kernel
theorem dL_knit_0 : decode cL_knit 0 = .ok (.aload_n 2, 1) := by decide +kernel
theorem dL_knit_1 : decode cL_knit 1 = .ok (.iconst 0, 1) := by decide +kernel
theorem dL_knit_2 : decode cL_knit 2 = .ok (.aload_n 0, 1) := by decide +kernel
theorem dL_knit_3 : decode cL_knit 3 = .ok (.iload_n 1, 1) := by decide +kernel
theorem dL_knit_4 : decode cL_knit 4 = .ok (.invokevirtual 77, 3) := by decide +kernel
theorem dL_knit_7 : decode cL_knit 7 = .ok (.i2l, 1) := by decide +kernel
theorem dL_knit_8 : decode cL_knit 8 = .ok (.lastore, 1) := by decide +kernel
theorem dL_knit_9 : decode cL_knit 9 = .ok (.goto 9, 3) := by decide +kernel
theorem dL_knit_12 : decode cL_knit 12 = .ok (.astore_n 3, 1) := by decide +kernel
theorem dL_knit_13 : decode cL_knit 13 = .ok (.iconst 1, 1) := by decide +kernel
theorem dL_knit_14 : decode cL_knit 14 = .ok (.ireturn, 1) := by decide +kernel
theorem dL_knit_15 : decode cL_knit 15 = .ok (.astore_n 3, 1) := by decide +kernel
theorem dL_knit_16 : decode cL_knit 16 = .ok (.iconst 2, 1) := by decide +kernel
theorem dL_knit_17 : decode cL_knit 17 = .ok (.ireturn, 1) := by decide +kernel
theorem dL_knit_18 : decode cL_knit 18 = .ok (.iconst 0, 1) := by decide +kernel
theorem dL_knit_19 : decode cL_knit 19 = .ok (.ireturn, 1) := by decide +kernel
theorem dL_willKnit_0 : decode cL_willKnit 0 = .ok (.aload_n 2, 1) := by decide +kernel
theorem dL_willKnit_1 : decode cL_willKnit 1 = .ok (.iconst 0, 1) := by decide +kernel
theorem dL_willKnit_2 : decode cL_willKnit 2 = .ok (.aload_n 0, 1) := by decide +kernel
theorem dL_willKnit_3 : decode cL_willKnit 3 = .ok (.iload_n 1, 1) := by decide +kernel
theorem dL_willKnit_4 : decode cL_willKnit 4 = .ok (.invokevirtual 80, 3) := by decide +kernel
theorem dL_willKnit_7 : decode cL_willKnit 7 = .ok (.ifCond .eq 7, 3) := by decide +kernel
theorem dL_willKnit_10 : decode cL_willKnit 10 = .ok (.lconst 1, 1) := by decide +kernel
theorem dL_willKnit_11 : decode cL_willKnit 11 = .ok (.goto 4, 3) := by decide +kernel
theorem dL_willKnit_14 : decode cL_willKnit 14 = .ok (.lconst 0, 1) := by decide +kernel
theorem dL_willKnit_15 : decode cL_willKnit 15 = .ok (.lastore, 1) := by decide +kernel
theorem dL_willKnit_16 : decode cL_willKnit 16 = .ok (.goto 6, 3) := by decide +kernel
theorem dL_willKnit_19 : decode cL_willKnit 19 = .ok (.astore_n 3, 1) := by decide +kernel
theorem dL_willKnit_20 : decode cL_willKnit 20 = .ok (.iconst 1, 1) := by decide +kernel
theorem dL_willKnit_21 : decode cL_willKnit 21 = .ok (.ireturn, 1) := by decide +kernel
theorem dL_willKnit_22 : decode cL_willKnit 22 = .ok (.iconst 0, 1) := by decide +kernel
theorem dL_willKnit_23 : decode cL_willKnit 23 = .ok (.ireturn, 1) := by decide +kernel
theorem dL_stitchesIn_0 : decode cL_stitchesIn 0 = .ok (.aload_n 2, 1) := by decide +kernel
theorem dL_stitchesIn_1 : decode cL_stitchesIn 1 = .ok (.iconst 0, 1) := by decide +kernel
theorem dL_stitchesIn_2 : decode cL_stitchesIn 2 = .ok (.aload_n 0, 1) := by decide +kernel
theorem dL_stitchesIn_3 : decode cL_stitchesIn 3 = .ok (.iload_n 1, 1) := by decide +kernel
theorem dL_stitchesIn_4 : decode cL_stitchesIn 4 = .ok (.invokevirtual 83, 3) := by decide +kernel
theorem dL_stitchesIn_7 : decode cL_stitchesIn 7 = .ok (.i2l, 1) := by decide +kernel
theorem dL_stitchesIn_8 : decode cL_stitchesIn 8 = .ok (.lastore, 1) := by decide +kernel
theorem dL_stitchesIn_9 : decode cL_stitchesIn 9 = .ok (.goto 6, 3) := by decide +kernel
theorem dL_stitchesIn_12 : decode cL_stitchesIn 12 = .ok (.astore_n 3, 1) := by decide +kernel
theorem dL_stitchesIn_13 : decode cL_stitchesIn 13 = .ok (.iconst 1, 1) := by decide +kernel
theorem dL_stitchesIn_14 : decode cL_stitchesIn 14 = .ok (.ireturn, 1) := by decide +kernel
theorem dL_stitchesIn_15 : decode cL_stitchesIn 15 = .ok (.iconst 0, 1) := by decide +kernel
theorem dL_stitchesIn_16 : decode cL_stitchesIn 16 = .ok (.ireturn, 1) := by decide +kernel
theorem dL_dropsIn_0 : decode cL_dropsIn 0 = .ok (.aload_n 2, 1) := by decide +kernel
theorem dL_dropsIn_1 : decode cL_dropsIn 1 = .ok (.iconst 0, 1) := by decide +kernel
theorem dL_dropsIn_2 : decode cL_dropsIn 2 = .ok (.aload_n 0, 1) := by decide +kernel
theorem dL_dropsIn_3 : decode cL_dropsIn 3 = .ok (.iload_n 1, 1) := by decide +kernel
theorem dL_dropsIn_4 : decode cL_dropsIn 4 = .ok (.invokevirtual 86, 3) := by decide +kernel
theorem dL_dropsIn_7 : decode cL_dropsIn 7 = .ok (.i2l, 1) := by decide +kernel
theorem dL_dropsIn_8 : decode cL_dropsIn 8 = .ok (.lastore, 1) := by decide +kernel
theorem dL_dropsIn_9 : decode cL_dropsIn 9 = .ok (.goto 6, 3) := by decide +kernel
theorem dL_dropsIn_12 : decode cL_dropsIn 12 = .ok (.astore_n 3, 1) := by decide +kernel
theorem dL_dropsIn_13 : decode cL_dropsIn 13 = .ok (.iconst 1, 1) := by decide +kernel
theorem dL_dropsIn_14 : decode cL_dropsIn 14 = .ok (.ireturn, 1) := by decide +kernel
theorem dL_dropsIn_15 : decode cL_dropsIn 15 = .ok (.iconst 0, 1) := by decide +kernel
theorem dL_dropsIn_16 : decode cL_dropsIn 16 = .ok (.ireturn, 1) := by decide +kernel
theorem dL_widthOf_0 : decode cL_widthOf 0 = .ok (.aload_n 2, 1) := by decide +kernel
theorem dL_widthOf_1 : decode cL_widthOf 1 = .ok (.iconst 0, 1) := by decide +kernel
theorem dL_widthOf_2 : decode cL_widthOf 2 = .ok (.aload_n 0, 1) := by decide +kernel
theorem dL_widthOf_3 : decode cL_widthOf 3 = .ok (.iload_n 1, 1) := by decide +kernel
theorem dL_widthOf_4 : decode cL_widthOf 4 = .ok (.invokevirtual 89, 3) := by decide +kernel
theorem dL_widthOf_7 : decode cL_widthOf 7 = .ok (.i2l, 1) := by decide +kernel
theorem dL_widthOf_8 : decode cL_widthOf 8 = .ok (.lastore, 1) := by decide +kernel
theorem dL_widthOf_9 : decode cL_widthOf 9 = .ok (.goto 6, 3) := by decide +kernel
theorem dL_widthOf_12 : decode cL_widthOf 12 = .ok (.astore_n 3, 1) := by decide +kernel
theorem dL_widthOf_13 : decode cL_widthOf 13 = .ok (.iconst 1, 1) := by decide +kernel
theorem dL_widthOf_14 : decode cL_widthOf 14 = .ok (.ireturn, 1) := by decide +kernel
theorem dL_widthOf_15 : decode cL_widthOf 15 = .ok (.iconst 0, 1) := by decide +kernel
theorem dL_widthOf_16 : decode cL_widthOf 16 = .ok (.ireturn, 1) := by decide +kernel
theorem dL_yarnOf_0 : decode cL_yarnOf 0 = .ok (.aload_n 2, 1) := by decide +kernel
theorem dL_yarnOf_1 : decode cL_yarnOf 1 = .ok (.iconst 0, 1) := by decide +kernel
theorem dL_yarnOf_2 : decode cL_yarnOf 2 = .ok (.aload_n 0, 1) := by decide +kernel
theorem dL_yarnOf_3 : decode cL_yarnOf 3 = .ok (.iload_n 1, 1) := by decide +kernel
theorem dL_yarnOf_4 : decode cL_yarnOf 4 = .ok (.invokevirtual 92, 3) := by decide +kernel
theorem dL_yarnOf_7 : decode cL_yarnOf 7 = .ok (.i2l, 1) := by decide +kernel
theorem dL_yarnOf_8 : decode cL_yarnOf 8 = .ok (.lastore, 1) := by decide +kernel
theorem dL_yarnOf_9 : decode cL_yarnOf 9 = .ok (.goto 6, 3) := by decide +kernel
theorem dL_yarnOf_12 : decode cL_yarnOf 12 = .ok (.astore_n 3, 1) := by decide +kernel
theorem dL_yarnOf_13 : decode cL_yarnOf 13 = .ok (.iconst 1, 1) := by decide +kernel
theorem dL_yarnOf_14 : decode cL_yarnOf 14 = .ok (.ireturn, 1) := by decide +kernel
theorem dL_yarnOf_15 : decode cL_yarnOf 15 = .ok (.iconst 0, 1) := by decide +kernel
theorem dL_yarnOf_16 : decode cL_yarnOf 16 = .ok (.ireturn, 1) := by decide +kernel
theorem dL_feederOf_0 : decode cL_feederOf 0 = .ok (.aload_n 2, 1) := by decide +kernel
theorem dL_feederOf_1 : decode cL_feederOf 1 = .ok (.iconst 0, 1) := by decide +kernel
theorem dL_feederOf_2 : decode cL_feederOf 2 = .ok (.aload_n 0, 1) := by decide +kernel
theorem dL_feederOf_3 : decode cL_feederOf 3 = .ok (.iload_n 1, 1) := by decide +kernel
theorem dL_feederOf_4 : decode cL_feederOf 4 = .ok (.invokevirtual 95, 3) := by decide +kernel
theorem dL_feederOf_7 : decode cL_feederOf 7 = .ok (.i2l, 1) := by decide +kernel
theorem dL_feederOf_8 : decode cL_feederOf 8 = .ok (.lastore, 1) := by decide +kernel
theorem dL_feederOf_9 : decode cL_feederOf 9 = .ok (.goto 6, 3) := by decide +kernel
theorem dL_feederOf_12 : decode cL_feederOf 12 = .ok (.astore_n 3, 1) := by decide +kernel
theorem dL_feederOf_13 : decode cL_feederOf 13 = .ok (.iconst 1, 1) := by decide +kernel
theorem dL_feederOf_14 : decode cL_feederOf 14 = .ok (.ireturn, 1) := by decide +kernel
theorem dL_feederOf_15 : decode cL_feederOf 15 = .ok (.iconst 0, 1) := by decide +kernel
theorem dL_feederOf_16 : decode cL_feederOf 16 = .ok (.ireturn, 1) := by decide +kernel
theorem dL_dropsOf_0 : decode cL_dropsOf 0 = .ok (.aload_n 2, 1) := by decide +kernel
theorem dL_dropsOf_1 : decode cL_dropsOf 1 = .ok (.iconst 0, 1) := by decide +kernel
theorem dL_dropsOf_2 : decode cL_dropsOf 2 = .ok (.aload_n 0, 1) := by decide +kernel
theorem dL_dropsOf_3 : decode cL_dropsOf 3 = .ok (.iload_n 1, 1) := by decide +kernel
theorem dL_dropsOf_4 : decode cL_dropsOf 4 = .ok (.invokevirtual 98, 3) := by decide +kernel
theorem dL_dropsOf_7 : decode cL_dropsOf 7 = .ok (.i2l, 1) := by decide +kernel
theorem dL_dropsOf_8 : decode cL_dropsOf 8 = .ok (.lastore, 1) := by decide +kernel
theorem dL_dropsOf_9 : decode cL_dropsOf 9 = .ok (.goto 6, 3) := by decide +kernel
theorem dL_dropsOf_12 : decode cL_dropsOf 12 = .ok (.astore_n 3, 1) := by decide +kernel
theorem dL_dropsOf_13 : decode cL_dropsOf 13 = .ok (.iconst 1, 1) := by decide +kernel
theorem dL_dropsOf_14 : decode cL_dropsOf 14 = .ok (.ireturn, 1) := by decide +kernel
theorem dL_dropsOf_15 : decode cL_dropsOf 15 = .ok (.iconst 0, 1) := by decide +kernel
theorem dL_dropsOf_16 : decode cL_dropsOf 16 = .ok (.ireturn, 1) := by decide +kernel
theorem dL_courseByWidth_0 : decode cL_courseByWidth 0 = .ok (.aload_n 2, 1) := by decide +kernel
theorem dL_courseByWidth_1 : decode cL_courseByWidth 1 = .ok (.iconst 0, 1) := by decide +kernel
theorem dL_courseByWidth_2 : decode cL_courseByWidth 2 = .ok (.aload_n 0, 1) := by decide +kernel
theorem dL_courseByWidth_3 : decode cL_courseByWidth 3 = .ok (.iload_n 1, 1) := by decide +kernel
theorem dL_courseByWidth_4 : decode cL_courseByWidth 4 = .ok (.invokevirtual 101, 3) := by decide +kernel
theorem dL_courseByWidth_7 : decode cL_courseByWidth 7 = .ok (.i2l, 1) := by decide +kernel
theorem dL_courseByWidth_8 : decode cL_courseByWidth 8 = .ok (.lastore, 1) := by decide +kernel
theorem dL_courseByWidth_9 : decode cL_courseByWidth 9 = .ok (.goto 6, 3) := by decide +kernel
theorem dL_courseByWidth_12 : decode cL_courseByWidth 12 = .ok (.astore_n 3, 1) := by decide +kernel
theorem dL_courseByWidth_13 : decode cL_courseByWidth 13 = .ok (.iconst 1, 1) := by decide +kernel
theorem dL_courseByWidth_14 : decode cL_courseByWidth 14 = .ok (.ireturn, 1) := by decide +kernel
theorem dL_courseByWidth_15 : decode cL_courseByWidth 15 = .ok (.iconst 0, 1) := by decide +kernel
theorem dL_courseByWidth_16 : decode cL_courseByWidth 16 = .ok (.ireturn, 1) := by decide +kernel
theorem dL_feederByYarn_0 : decode cL_feederByYarn 0 = .ok (.aload_n 2, 1) := by decide +kernel
theorem dL_feederByYarn_1 : decode cL_feederByYarn 1 = .ok (.iconst 0, 1) := by decide +kernel
theorem dL_feederByYarn_2 : decode cL_feederByYarn 2 = .ok (.aload_n 0, 1) := by decide +kernel
theorem dL_feederByYarn_3 : decode cL_feederByYarn 3 = .ok (.iload_n 1, 1) := by decide +kernel
theorem dL_feederByYarn_4 : decode cL_feederByYarn 4 = .ok (.invokevirtual 104, 3) := by decide +kernel
theorem dL_feederByYarn_7 : decode cL_feederByYarn 7 = .ok (.i2l, 1) := by decide +kernel
theorem dL_feederByYarn_8 : decode cL_feederByYarn 8 = .ok (.lastore, 1) := by decide +kernel
theorem dL_feederByYarn_9 : decode cL_feederByYarn 9 = .ok (.goto 6, 3) := by decide +kernel
theorem dL_feederByYarn_12 : decode cL_feederByYarn 12 = .ok (.astore_n 3, 1) := by decide +kernel
theorem dL_feederByYarn_13 : decode cL_feederByYarn 13 = .ok (.iconst 1, 1) := by decide +kernel
theorem dL_feederByYarn_14 : decode cL_feederByYarn 14 = .ok (.ireturn, 1) := by decide +kernel
theorem dL_feederByYarn_15 : decode cL_feederByYarn 15 = .ok (.iconst 0, 1) := by decide +kernel
theorem dL_feederByYarn_16 : decode cL_feederByYarn 16 = .ok (.ireturn, 1) := by decide +kernel
theorem dL_meanWidth_0 : decode cL_meanWidth 0 = .ok (.aload_n 1, 1) := by decide +kernel
theorem dL_meanWidth_1 : decode cL_meanWidth 1 = .ok (.iconst 0, 1) := by decide +kernel
theorem dL_meanWidth_2 : decode cL_meanWidth 2 = .ok (.aload_n 0, 1) := by decide +kernel
theorem dL_meanWidth_3 : decode cL_meanWidth 3 = .ok (.invokevirtual 107, 3) := by decide +kernel
theorem dL_meanWidth_6 : decode cL_meanWidth 6 = .ok (.dastore, 1) := by decide +kernel
theorem dL_meanWidth_7 : decode cL_meanWidth 7 = .ok (.goto 6, 3) := by decide +kernel
theorem dL_meanWidth_10 : decode cL_meanWidth 10 = .ok (.astore_n 2, 1) := by decide +kernel
theorem dL_meanWidth_11 : decode cL_meanWidth 11 = .ok (.iconst 1, 1) := by decide +kernel
theorem dL_meanWidth_12 : decode cL_meanWidth 12 = .ok (.ireturn, 1) := by decide +kernel
theorem dL_meanWidth_13 : decode cL_meanWidth 13 = .ok (.iconst 0, 1) := by decide +kernel
theorem dL_meanWidth_14 : decode cL_meanWidth 14 = .ok (.ireturn, 1) := by decide +kernel
theorem dL_droppedShare_0 : decode cL_droppedShare 0 = .ok (.aload_n 1, 1) := by decide +kernel
theorem dL_droppedShare_1 : decode cL_droppedShare 1 = .ok (.iconst 0, 1) := by decide +kernel
theorem dL_droppedShare_2 : decode cL_droppedShare 2 = .ok (.aload_n 0, 1) := by decide +kernel
theorem dL_droppedShare_3 : decode cL_droppedShare 3 = .ok (.invokevirtual 113, 3) := by decide +kernel
theorem dL_droppedShare_6 : decode cL_droppedShare 6 = .ok (.f2d, 1) := by decide +kernel
theorem dL_droppedShare_7 : decode cL_droppedShare 7 = .ok (.dastore, 1) := by decide +kernel
theorem dL_droppedShare_8 : decode cL_droppedShare 8 = .ok (.goto 6, 3) := by decide +kernel
theorem dL_droppedShare_11 : decode cL_droppedShare 11 = .ok (.astore_n 2, 1) := by decide +kernel
theorem dL_droppedShare_12 : decode cL_droppedShare 12 = .ok (.iconst 1, 1) := by decide +kernel
theorem dL_droppedShare_13 : decode cL_droppedShare 13 = .ok (.ireturn, 1) := by decide +kernel
theorem dL_droppedShare_14 : decode cL_droppedShare 14 = .ok (.iconst 0, 1) := by decide +kernel
theorem dL_droppedShare_15 : decode cL_droppedShare 15 = .ok (.ireturn, 1) := by decide +kernel
theorem dL_writeCourse_0 : decode cL_writeCourse 0 = .ok (.aload_n 2, 1) := by decide +kernel
theorem dL_writeCourse_1 : decode cL_writeCourse 1 = .ok (.iconst 0, 1) := by decide +kernel
theorem dL_writeCourse_2 : decode cL_writeCourse 2 = .ok (.aload_n 0, 1) := by decide +kernel
theorem dL_writeCourse_3 : decode cL_writeCourse 3 = .ok (.iload_n 1, 1) := by decide +kernel
theorem dL_writeCourse_4 : decode cL_writeCourse 4 = .ok (.invokevirtual 117, 3) := by decide +kernel
theorem dL_writeCourse_7 : decode cL_writeCourse 7 = .ok (.i2l, 1) := by decide +kernel
theorem dL_writeCourse_8 : decode cL_writeCourse 8 = .ok (.lastore, 1) := by decide +kernel
theorem dL_writeCourse_9 : decode cL_writeCourse 9 = .ok (.goto 6, 3) := by decide +kernel
theorem dL_writeCourse_12 : decode cL_writeCourse 12 = .ok (.astore_n 3, 1) := by decide +kernel
theorem dL_writeCourse_13 : decode cL_writeCourse 13 = .ok (.iconst 1, 1) := by decide +kernel
theorem dL_writeCourse_14 : decode cL_writeCourse 14 = .ok (.ireturn, 1) := by decide +kernel
theorem dL_writeCourse_15 : decode cL_writeCourse 15 = .ok (.iconst 0, 1) := by decide +kernel
theorem dL_writeCourse_16 : decode cL_writeCourse 16 = .ok (.ireturn, 1) := by decide +kernel
theorem dL_outputAt_0 : decode cL_outputAt 0 = .ok (.aload_n 2, 1) := by decide +kernel
theorem dL_outputAt_1 : decode cL_outputAt 1 = .ok (.iconst 0, 1) := by decide +kernel
theorem dL_outputAt_2 : decode cL_outputAt 2 = .ok (.aload_n 0, 1) := by decide +kernel
theorem dL_outputAt_3 : decode cL_outputAt 3 = .ok (.iload_n 1, 1) := by decide +kernel
theorem dL_outputAt_4 : decode cL_outputAt 4 = .ok (.invokevirtual 120, 3) := by decide +kernel
theorem dL_outputAt_7 : decode cL_outputAt 7 = .ok (.i2l, 1) := by decide +kernel
theorem dL_outputAt_8 : decode cL_outputAt 8 = .ok (.lastore, 1) := by decide +kernel
theorem dL_outputAt_9 : decode cL_outputAt 9 = .ok (.goto 6, 3) := by decide +kernel
theorem dL_outputAt_12 : decode cL_outputAt 12 = .ok (.astore_n 3, 1) := by decide +kernel
theorem dL_outputAt_13 : decode cL_outputAt 13 = .ok (.iconst 1, 1) := by decide +kernel
theorem dL_outputAt_14 : decode cL_outputAt 14 = .ok (.ireturn, 1) := by decide +kernel
theorem dL_outputAt_15 : decode cL_outputAt 15 = .ok (.iconst 0, 1) := by decide +kernel
theorem dL_outputAt_16 : decode cL_outputAt 16 = .ok (.ireturn, 1) := by decide +kernel
theorem dL_appendInput_0 : decode cL_appendInput 0 = .ok (.aload_n 2, 1) := by decide +kernel
theorem dL_appendInput_1 : decode cL_appendInput 1 = .ok (.iconst 0, 1) := by decide +kernel
theorem dL_appendInput_2 : decode cL_appendInput 2 = .ok (.aload_n 0, 1) := by decide +kernel
theorem dL_appendInput_3 : decode cL_appendInput 3 = .ok (.iload_n 1, 1) := by decide +kernel
theorem dL_appendInput_4 : decode cL_appendInput 4 = .ok (.invokevirtual 124, 3) := by decide +kernel
theorem dL_appendInput_7 : decode cL_appendInput 7 = .ok (.i2l, 1) := by decide +kernel
theorem dL_appendInput_8 : decode cL_appendInput 8 = .ok (.lastore, 1) := by decide +kernel
theorem dL_appendInput_9 : decode cL_appendInput 9 = .ok (.goto 9, 3) := by decide +kernel
theorem dL_appendInput_12 : decode cL_appendInput 12 = .ok (.astore_n 3, 1) := by decide +kernel
theorem dL_appendInput_13 : decode cL_appendInput 13 = .ok (.iconst 1, 1) := by decide +kernel
theorem dL_appendInput_14 : decode cL_appendInput 14 = .ok (.ireturn, 1) := by decide +kernel
theorem dL_appendInput_15 : decode cL_appendInput 15 = .ok (.astore_n 3, 1) := by decide +kernel
theorem dL_appendInput_16 : decode cL_appendInput 16 = .ok (.iconst 2, 1) := by decide +kernel
theorem dL_appendInput_17 : decode cL_appendInput 17 = .ok (.ireturn, 1) := by decide +kernel
theorem dL_appendInput_18 : decode cL_appendInput 18 = .ok (.iconst 0, 1) := by decide +kernel
theorem dL_appendInput_19 : decode cL_appendInput 19 = .ok (.ireturn, 1) := by decide +kernel
theorem dL_execute_0 : decode cL_execute 0 = .ok (.aload_n 1, 1) := by decide +kernel
theorem dL_execute_1 : decode cL_execute 1 = .ok (.iconst 0, 1) := by decide +kernel
theorem dL_execute_2 : decode cL_execute 2 = .ok (.aload_n 0, 1) := by decide +kernel
theorem dL_execute_3 : decode cL_execute 3 = .ok (.invokevirtual 130, 3) := by decide +kernel
theorem dL_execute_6 : decode cL_execute 6 = .ok (.i2l, 1) := by decide +kernel
theorem dL_execute_7 : decode cL_execute 7 = .ok (.lastore, 1) := by decide +kernel
theorem dL_execute_8 : decode cL_execute 8 = .ok (.goto 12, 3) := by decide +kernel
theorem dL_execute_11 : decode cL_execute 11 = .ok (.astore_n 2, 1) := by decide +kernel
theorem dL_execute_12 : decode cL_execute 12 = .ok (.iconst 1, 1) := by decide +kernel
theorem dL_execute_13 : decode cL_execute 13 = .ok (.ireturn, 1) := by decide +kernel
theorem dL_execute_14 : decode cL_execute 14 = .ok (.astore_n 2, 1) := by decide +kernel
theorem dL_execute_15 : decode cL_execute 15 = .ok (.iconst 2, 1) := by decide +kernel
theorem dL_execute_16 : decode cL_execute 16 = .ok (.ireturn, 1) := by decide +kernel
theorem dL_execute_17 : decode cL_execute 17 = .ok (.astore_n 2, 1) := by decide +kernel
theorem dL_execute_18 : decode cL_execute 18 = .ok (.iconst 3, 1) := by decide +kernel
theorem dL_execute_19 : decode cL_execute 19 = .ok (.ireturn, 1) := by decide +kernel
theorem dL_execute_20 : decode cL_execute 20 = .ok (.iconst 0, 1) := by decide +kernel
theorem dL_execute_21 : decode cL_execute 21 = .ok (.ireturn, 1) := by decide +kernel
theorem dL_syntaxErrorOffset_0 : decode cL_syntaxErrorOffset 0 = .ok (.aload_n 1, 1) := by decide +kernel
theorem dL_syntaxErrorOffset_1 : decode cL_syntaxErrorOffset 1 = .ok (.iconst 0, 1) := by decide +kernel
theorem dL_syntaxErrorOffset_2 : decode cL_syntaxErrorOffset 2 = .ok (.aload_n 0, 1) := by decide +kernel
theorem dL_syntaxErrorOffset_3 : decode cL_syntaxErrorOffset 3 = .ok (.invokevirtual 133, 3) := by decide +kernel
theorem dL_syntaxErrorOffset_6 : decode cL_syntaxErrorOffset 6 = .ok (.i2l, 1) := by decide +kernel
theorem dL_syntaxErrorOffset_7 : decode cL_syntaxErrorOffset 7 = .ok (.lastore, 1) := by decide +kernel
theorem dL_syntaxErrorOffset_8 : decode cL_syntaxErrorOffset 8 = .ok (.goto 6, 3) := by decide +kernel
theorem dL_syntaxErrorOffset_11 : decode cL_syntaxErrorOffset 11 = .ok (.astore_n 2, 1) := by decide +kernel
theorem dL_syntaxErrorOffset_12 : decode cL_syntaxErrorOffset 12 = .ok (.iconst 1, 1) := by decide +kernel
theorem dL_syntaxErrorOffset_13 : decode cL_syntaxErrorOffset 13 = .ok (.ireturn, 1) := by decide +kernel
theorem dL_syntaxErrorOffset_14 : decode cL_syntaxErrorOffset 14 = .ok (.iconst 0, 1) := by decide +kernel
theorem dL_syntaxErrorOffset_15 : decode cL_syntaxErrorOffset 15 = .ok (.ireturn, 1) := by decide +kernel
theorem dL_rejectionReason_0 : decode cL_rejectionReason 0 = .ok (.aload_n 1, 1) := by decide +kernel
theorem dL_rejectionReason_1 : decode cL_rejectionReason 1 = .ok (.iconst 0, 1) := by decide +kernel
theorem dL_rejectionReason_2 : decode cL_rejectionReason 2 = .ok (.aload_n 0, 1) := by decide +kernel
theorem dL_rejectionReason_3 : decode cL_rejectionReason 3 = .ok (.invokevirtual 136, 3) := by decide +kernel
theorem dL_rejectionReason_6 : decode cL_rejectionReason 6 = .ok (.i2l, 1) := by decide +kernel
theorem dL_rejectionReason_7 : decode cL_rejectionReason 7 = .ok (.lastore, 1) := by decide +kernel
theorem dL_rejectionReason_8 : decode cL_rejectionReason 8 = .ok (.goto 6, 3) := by decide +kernel
theorem dL_rejectionReason_11 : decode cL_rejectionReason 11 = .ok (.astore_n 2, 1) := by decide +kernel
theorem dL_rejectionReason_12 : decode cL_rejectionReason 12 = .ok (.iconst 1, 1) := by decide +kernel
theorem dL_rejectionReason_13 : decode cL_rejectionReason 13 = .ok (.ireturn, 1) := by decide +kernel
theorem dL_rejectionReason_14 : decode cL_rejectionReason 14 = .ok (.iconst 0, 1) := by decide +kernel
theorem dL_rejectionReason_15 : decode cL_rejectionReason 15 = .ok (.ireturn, 1) := by decide +kernel
theorem dL_rejectionDetail_0 : decode cL_rejectionDetail 0 = .ok (.aload_n 1, 1) := by decide +kernel
theorem dL_rejectionDetail_1 : decode cL_rejectionDetail 1 = .ok (.iconst 0, 1) := by decide +kernel
theorem dL_rejectionDetail_2 : decode cL_rejectionDetail 2 = .ok (.aload_n 0, 1) := by decide +kernel
theorem dL_rejectionDetail_3 : decode cL_rejectionDetail 3 = .ok (.invokevirtual 139, 3) := by decide +kernel
theorem dL_rejectionDetail_6 : decode cL_rejectionDetail 6 = .ok (.i2l, 1) := by decide +kernel
theorem dL_rejectionDetail_7 : decode cL_rejectionDetail 7 = .ok (.lastore, 1) := by decide +kernel
theorem dL_rejectionDetail_8 : decode cL_rejectionDetail 8 = .ok (.goto 6, 3) := by decide +kernel
theorem dL_rejectionDetail_11 : decode cL_rejectionDetail 11 = .ok (.astore_n 2, 1) := by decide +kernel
theorem dL_rejectionDetail_12 : decode cL_rejectionDetail 12 = .ok (.iconst 1, 1) := by decide +kernel
theorem dL_rejectionDetail_13 : decode cL_rejectionDetail 13 = .ok (.ireturn, 1) := by decide +kernel
theorem dL_rejectionDetail_14 : decode cL_rejectionDetail 14 = .ok (.iconst 0, 1) := by decide +kernel
theorem dL_rejectionDetail_15 : decode cL_rejectionDetail 15 = .ok (.ireturn, 1) := by decide +kernel
theorem dL_causeReason_0 : decode cL_causeReason 0 = .ok (.aload_n 1, 1) := by decide +kernel
theorem dL_causeReason_1 : decode cL_causeReason 1 = .ok (.iconst 0, 1) := by decide +kernel
theorem dL_causeReason_2 : decode cL_causeReason 2 = .ok (.aload_n 0, 1) := by decide +kernel
theorem dL_causeReason_3 : decode cL_causeReason 3 = .ok (.invokevirtual 142, 3) := by decide +kernel
theorem dL_causeReason_6 : decode cL_causeReason 6 = .ok (.i2l, 1) := by decide +kernel
theorem dL_causeReason_7 : decode cL_causeReason 7 = .ok (.lastore, 1) := by decide +kernel
theorem dL_causeReason_8 : decode cL_causeReason 8 = .ok (.goto 6, 3) := by decide +kernel
theorem dL_causeReason_11 : decode cL_causeReason 11 = .ok (.astore_n 2, 1) := by decide +kernel
theorem dL_causeReason_12 : decode cL_causeReason 12 = .ok (.iconst 1, 1) := by decide +kernel
theorem dL_causeReason_13 : decode cL_causeReason 13 = .ok (.ireturn, 1) := by decide +kernel
theorem dL_causeReason_14 : decode cL_causeReason 14 = .ok (.iconst 0, 1) := by decide +kernel
theorem dL_causeReason_15 : decode cL_causeReason 15 = .ok (.ireturn, 1) := by decide +kernel
theorem dL_undo_0 : decode cL_undo 0 = .ok (.aload_n 1, 1) := by decide +kernel
theorem dL_undo_1 : decode cL_undo 1 = .ok (.iconst 0, 1) := by decide +kernel
theorem dL_undo_2 : decode cL_undo 2 = .ok (.aload_n 0, 1) := by decide +kernel
theorem dL_undo_3 : decode cL_undo 3 = .ok (.invokevirtual 145, 3) := by decide +kernel
theorem dL_undo_6 : decode cL_undo 6 = .ok (.i2l, 1) := by decide +kernel
theorem dL_undo_7 : decode cL_undo 7 = .ok (.lastore, 1) := by decide +kernel
theorem dL_undo_8 : decode cL_undo 8 = .ok (.goto 6, 3) := by decide +kernel
theorem dL_undo_11 : decode cL_undo 11 = .ok (.astore_n 2, 1) := by decide +kernel
theorem dL_undo_12 : decode cL_undo 12 = .ok (.iconst 1, 1) := by decide +kernel
theorem dL_undo_13 : decode cL_undo 13 = .ok (.ireturn, 1) := by decide +kernel
theorem dL_undo_14 : decode cL_undo 14 = .ok (.iconst 0, 1) := by decide +kernel
theorem dL_undo_15 : decode cL_undo 15 = .ok (.ireturn, 1) := by decide +kernel
theorem dL_restoreSnapshot_0 : decode cL_restoreSnapshot 0 = .ok (.aload_n 1, 1) := by decide +kernel
theorem dL_restoreSnapshot_1 : decode cL_restoreSnapshot 1 = .ok (.iconst 0, 1) := by decide +kernel
theorem dL_restoreSnapshot_2 : decode cL_restoreSnapshot 2 = .ok (.aload_n 0, 1) := by decide +kernel
theorem dL_restoreSnapshot_3 : decode cL_restoreSnapshot 3 = .ok (.invokevirtual 148, 3) := by decide +kernel
theorem dL_restoreSnapshot_6 : decode cL_restoreSnapshot 6 = .ok (.i2l, 1) := by decide +kernel
theorem dL_restoreSnapshot_7 : decode cL_restoreSnapshot 7 = .ok (.lastore, 1) := by decide +kernel
theorem dL_restoreSnapshot_8 : decode cL_restoreSnapshot 8 = .ok (.goto 6, 3) := by decide +kernel
theorem dL_restoreSnapshot_11 : decode cL_restoreSnapshot 11 = .ok (.astore_n 2, 1) := by decide +kernel
theorem dL_restoreSnapshot_12 : decode cL_restoreSnapshot 12 = .ok (.iconst 1, 1) := by decide +kernel
theorem dL_restoreSnapshot_13 : decode cL_restoreSnapshot 13 = .ok (.ireturn, 1) := by decide +kernel
theorem dL_restoreSnapshot_14 : decode cL_restoreSnapshot 14 = .ok (.iconst 0, 1) := by decide +kernel
theorem dL_restoreSnapshot_15 : decode cL_restoreSnapshot 15 = .ok (.ireturn, 1) := by decide +kernel
