theorem dX5_init_0 : decode cX5_init 0 = .ok (.aload_n 0, 1) := by decide +kernel
theorem dX5_init_1 : decode cX5_init 1 = .ok (.invokespecial 1, 3) := by decide +kernel
theorem dX5_init_4 : decode cX5_init 4 = .ok (.new 7, 3) := by decide +kernel
theorem dX5_init_7 : decode cX5_init 7 = .ok (.dup, 1) := by decide +kernel
theorem dX5_init_8 : decode cX5_init 8 = .ok (.invokespecial 9, 3) := by decide +kernel
theorem dX5_init_11 : decode cX5_init 11 = .ok (.astore_n 1, 1) := by decide +kernel
theorem dX5_init_12 : decode cX5_init 12 = .ok (.aload_n 0, 1) := by decide +kernel
theorem dX5_init_13 : decode cX5_init 13 = .ok (.new 10, 3) := by decide +kernel
theorem dX5_init_16 : decode cX5_init 16 = .ok (.dup, 1) := by decide +kernel
theorem dX5_init_17 : decode cX5_init 17 = .ok (.aload_n 1, 1) := by decide +kernel
theorem dX5_init_18 : decode cX5_init 18 = .ok (.invokespecial 12, 3) := by decide +kernel
theorem dX5_init_21 : decode cX5_init 21 = .ok (.putfield 15, 3) := by decide +kernel
theorem dX5_init_24 : decode cX5_init 24 = .ok (.aload_n 0, 1) := by decide +kernel
theorem dX5_init_25 : decode cX5_init 25 = .ok (.new 10, 3) := by decide +kernel
theorem dX5_init_28 : decode cX5_init 28 = .ok (.dup, 1) := by decide +kernel
theorem dX5_init_29 : decode cX5_init 29 = .ok (.aload_n 1, 1) := by decide +kernel
theorem dX5_init_30 : decode cX5_init 30 = .ok (.invokespecial 12, 3) := by decide +kernel
theorem dX5_init_33 : decode cX5_init 33 = .ok (.putfield 21, 3) := by decide +kernel
theorem dX5_init_36 : decode cX5_init 36 = .ok (.aload_n 0, 1) := by decide +kernel
theorem dX5_init_37 : decode cX5_init 37 = .ok (.new 10, 3) := by decide +kernel
theorem dX5_init_40 : decode cX5_init 40 = .ok (.dup, 1) := by decide +kernel
theorem dX5_init_41 : decode cX5_init 41 = .ok (.aload_n 1, 1) := by decide +kernel
theorem dX5_init_42 : decode cX5_init 42 = .ok (.invokespecial 12, 3) := by decide +kernel
theorem dX5_init_45 : decode cX5_init 45 = .ok (.putfield 24, 3) := by decide +kernel
theorem dX5_init_48 : decode cX5_init 48 = .ok (.aload_n 0, 1) := by decide +kernel
theorem dX5_init_49 : decode cX5_init 49 = .ok (.new 27, 3) := by decide +kernel
theorem dX5_init_52 : decode cX5_init 52 = .ok (.dup, 1) := by decide +kernel
theorem dX5_init_53 : decode cX5_init 53 = .ok (.aload_n 1, 1) := by decide +kernel
theorem dX5_init_54 : decode cX5_init 54 = .ok (.invokespecial 29, 3) := by decide +kernel
theorem dX5_init_57 : decode cX5_init 57 = .ok (.putfield 30, 3) := by decide +kernel
theorem dX5_init_60 : decode cX5_init 60 = .ok (.aload_n 0, 1) := by decide +kernel
theorem dX5_init_61 : decode cX5_init 61 = .ok (.new 34, 3) := by decide +kernel
theorem dX5_init_64 : decode cX5_init 64 = .ok (.dup, 1) := by decide +kernel
theorem dX5_init_65 : decode cX5_init 65 = .ok (.invokespecial 36, 3) := by decide +kernel
theorem dX5_init_68 : decode cX5_init 68 = .ok (.putfield 37, 3) := by decide +kernel
theorem dX5_init_71 : decode cX5_init 71 = .ok (.aload_n 0, 1) := by decide +kernel
theorem dX5_init_72 : decode cX5_init 72 = .ok (.new 41, 3) := by decide +kernel
theorem dX5_init_75 : decode cX5_init 75 = .ok (.dup, 1) := by decide +kernel
theorem dX5_init_76 : decode cX5_init 76 = .ok (.invokespecial 43, 3) := by decide +kernel
theorem dX5_init_79 : decode cX5_init 79 = .ok (.putfield 44, 3) := by decide +kernel
theorem dX5_init_82 : decode cX5_init 82 = .ok (.aload_n 0, 1) := by decide +kernel
theorem dX5_init_83 : decode cX5_init 83 = .ok (.iconst 0, 1) := by decide +kernel
theorem dX5_init_84 : decode cX5_init 84 = .ok (.putfield 48, 3) := by decide +kernel
theorem dX5_init_87 : decode cX5_init 87 = .ok (.aload_n 0, 1) := by decide +kernel
theorem dX5_init_88 : decode cX5_init 88 = .ok (.iconst (-1), 1) := by decide +kernel
theorem dX5_init_89 : decode cX5_init 89 = .ok (.putfield 52, 3) := by decide +kernel
theorem dX5_init_92 : decode cX5_init 92 = .ok (.aload_n 0, 1) := by decide +kernel
theorem dX5_init_93 : decode cX5_init 93 = .ok (.iconst 0, 1) := by decide +kernel
theorem dX5_init_94 : decode cX5_init 94 = .ok (.putfield 56, 3) := by decide +kernel
theorem dX5_init_97 : decode cX5_init 97 = .ok (.aload_n 0, 1) := by decide +kernel
theorem dX5_init_98 : decode cX5_init 98 = .ok (.iconst 0, 1) := by decide +kernel
theorem dX5_init_99 : decode cX5_init 99 = .ok (.putfield 59, 3) := by decide +kernel
theorem dX5_init_102 : decode cX5_init 102 = .ok (.aload_n 0, 1) := by decide +kernel
theorem dX5_init_103 : decode cX5_init 103 = .ok (.iconst 0, 1) := by decide +kernel
theorem dX5_init_104 : decode cX5_init 104 = .ok (.putfield 62, 3) := by decide +kernel
theorem dX5_init_107 : decode cX5_init 107 = .ok (.return_, 1) := by decide +kernel
theorem dX5_castOn_0 : decode cX5_castOn 0 = .ok (.iload_n 1, 1) := by decide +kernel
theorem dX5_castOn_1 : decode cX5_castOn 1 = .ok (.invokestatic 65, 3) := by decide +kernel
theorem dX5_castOn_4 : decode cX5_castOn 4 = .ok (.iload_n 2, 1) := by decide +kernel
theorem dX5_castOn_5 : decode cX5_castOn 5 = .ok (.invokestatic 65, 3) := by decide +kernel
theorem dX5_castOn_8 : decode cX5_castOn 8 = .ok (.iload_n 1, 1) := by decide +kernel
theorem dX5_castOn_9 : decode cX5_castOn 9 = .ok (.iload_n 2, 1) := by decide +kernel
theorem dX5_castOn_10 : decode cX5_castOn 10 = .ok (.if_icmp .le 13, 3) := by decide +kernel
theorem dX5_castOn_13 : decode cX5_castOn 13 = .ok (.new 69, 3) := by decide +kernel
theorem dX5_castOn_16 : decode cX5_castOn 16 = .ok (.dup, 1) := by decide +kernel
theorem dX5_castOn_17 : decode cX5_castOn 17 = .ok (.ldc 71, 2) := by decide +kernel
theorem dX5_castOn_19 : decode cX5_castOn 19 = .ok (.invokespecial 73, 3) := by decide +kernel
theorem dX5_castOn_22 : decode cX5_castOn 22 = .ok (.athrow, 1) := by decide +kernel
theorem dX5_castOn_23 : decode cX5_castOn 23 = .ok (.aload_n 0, 1) := by decide +kernel
theorem dX5_castOn_24 : decode cX5_castOn 24 = .ok (.bipush 99, 2) := by decide +kernel
theorem dX5_castOn_26 : decode cX5_castOn 26 = .ok (.iload_n 1, 1) := by decide +kernel
theorem dX5_castOn_27 : decode cX5_castOn 27 = .ok (.iload_n 2, 1) := by decide +kernel
theorem dX5_castOn_28 : decode cX5_castOn 28 = .ok (.invokevirtual 76, 3) := by decide +kernel
theorem dX5_castOn_31 : decode cX5_castOn 31 = .ok (.ireturn, 1) := by decide +kernel
theorem dX5_castOff_0 : decode cX5_castOff 0 = .ok (.aload_n 0, 1) := by decide +kernel
theorem dX5_castOff_1 : decode cX5_castOff 1 = .ok (.bipush 120, 2) := by decide +kernel
theorem dX5_castOff_3 : decode cX5_castOff 3 = .ok (.iconst 0, 1) := by decide +kernel
theorem dX5_castOff_4 : decode cX5_castOff 4 = .ok (.iconst 0, 1) := by decide +kernel
theorem dX5_castOff_5 : decode cX5_castOff 5 = .ok (.invokevirtual 76, 3) := by decide +kernel
theorem dX5_castOff_8 : decode cX5_castOff 8 = .ok (.ireturn, 1) := by decide +kernel
theorem dX5_hold_0 : decode cX5_hold 0 = .ok (.iload_n 1, 1) := by decide +kernel
theorem dX5_hold_1 : decode cX5_hold 1 = .ok (.invokestatic 65, 3) := by decide +kernel
theorem dX5_hold_4 : decode cX5_hold 4 = .ok (.aload_n 0, 1) := by decide +kernel
theorem dX5_hold_5 : decode cX5_hold 5 = .ok (.bipush 104, 2) := by decide +kernel
theorem dX5_hold_7 : decode cX5_hold 7 = .ok (.iload_n 1, 1) := by decide +kernel
theorem dX5_hold_8 : decode cX5_hold 8 = .ok (.iconst 0, 1) := by decide +kernel
theorem dX5_hold_9 : decode cX5_hold 9 = .ok (.invokevirtual 76, 3) := by decide +kernel
theorem dX5_hold_12 : decode cX5_hold 12 = .ok (.ireturn, 1) := by decide +kernel
theorem dX5_release_0 : decode cX5_release 0 = .ok (.iload_n 1, 1) := by decide +kernel
theorem dX5_release_1 : decode cX5_release 1 = .ok (.invokestatic 65, 3) := by decide +kernel
theorem dX5_release_4 : decode cX5_release 4 = .ok (.aload_n 0, 1) := by decide +kernel
theorem dX5_release_5 : decode cX5_release 5 = .ok (.bipush 114, 2) := by decide +kernel
theorem dX5_release_7 : decode cX5_release 7 = .ok (.iload_n 1, 1) := by decide +kernel
theorem dX5_release_8 : decode cX5_release 8 = .ok (.iconst 0, 1) := by decide +kernel
theorem dX5_release_9 : decode cX5_release 9 = .ok (.invokevirtual 76, 3) := by decide +kernel
theorem dX5_release_12 : decode cX5_release 12 = .ok (.ireturn, 1) := by decide +kernel
theorem dX5_dropStitch_0 : decode cX5_dropStitch 0 = .ok (.iload_n 1, 1) := by decide +kernel
theorem dX5_dropStitch_1 : decode cX5_dropStitch 1 = .ok (.invokestatic 65, 3) := by decide +kernel
theorem dX5_dropStitch_4 : decode cX5_dropStitch 4 = .ok (.aload_n 0, 1) := by decide +kernel
theorem dX5_dropStitch_5 : decode cX5_dropStitch 5 = .ok (.bipush 100, 2) := by decide +kernel
theorem dX5_dropStitch_7 : decode cX5_dropStitch 7 = .ok (.iload_n 1, 1) := by decide +kernel
theorem dX5_dropStitch_8 : decode cX5_dropStitch 8 = .ok (.iconst 0, 1) := by decide +kernel
theorem dX5_dropStitch_9 : decode cX5_dropStitch 9 = .ok (.invokevirtual 76, 3) := by decide +kernel
theorem dX5_dropStitch_12 : decode cX5_dropStitch 12 = .ok (.ireturn, 1) := by decide +kernel
theorem dX5_pickUp_0 : decode cX5_pickUp 0 = .ok (.iload_n 1, 1) := by decide +kernel
theorem dX5_pickUp_1 : decode cX5_pickUp 1 = .ok (.invokestatic 65, 3) := by decide +kernel
theorem dX5_pickUp_4 : decode cX5_pickUp 4 = .ok (.aload_n 0, 1) := by decide +kernel
theorem dX5_pickUp_5 : decode cX5_pickUp 5 = .ok (.bipush 117, 2) := by decide +kernel
theorem dX5_pickUp_7 : decode cX5_pickUp 7 = .ok (.iload_n 1, 1) := by decide +kernel
theorem dX5_pickUp_8 : decode cX5_pickUp 8 = .ok (.iconst 0, 1) := by decide +kernel
theorem dX5_pickUp_9 : decode cX5_pickUp 9 = .ok (.invokevirtual 76, 3) := by decide +kernel
theorem dX5_pickUp_12 : decode cX5_pickUp 12 = .ok (.ireturn, 1) := by decide +kernel
theorem dX5_transfer_0 : decode cX5_transfer 0 = .ok (.iload_n 1, 1) := by decide +kernel
theorem dX5_transfer_1 : decode cX5_transfer 1 = .ok (.invokestatic 65, 3) := by decide +kernel
theorem dX5_transfer_4 : decode cX5_transfer 4 = .ok (.aload_n 0, 1) := by decide +kernel
theorem dX5_transfer_5 : decode cX5_transfer 5 = .ok (.iload_n 2, 1) := by decide +kernel
theorem dX5_transfer_6 : decode cX5_transfer 6 = .ok (.ifCond .eq 8, 3) := by decide +kernel
theorem dX5_transfer_9 : decode cX5_transfer 9 = .ok (.bipush 103, 2) := by decide +kernel
theorem dX5_transfer_11 : decode cX5_transfer 11 = .ok (.goto 5, 3) := by decide +kernel
theorem dX5_transfer_14 : decode cX5_transfer 14 = .ok (.bipush 108, 2) := by decide +kernel
theorem dX5_transfer_16 : decode cX5_transfer 16 = .ok (.iload_n 1, 1) := by decide +kernel
theorem dX5_transfer_17 : decode cX5_transfer 17 = .ok (.iconst 0, 1) := by decide +kernel
theorem dX5_transfer_18 : decode cX5_transfer 18 = .ok (.invokevirtual 76, 3) := by decide +kernel
theorem dX5_transfer_21 : decode cX5_transfer 21 = .ok (.ireturn, 1) := by decide +kernel
theorem dX5_isInWork_0 : decode cX5_isInWork 0 = .ok (.iload_n 1, 1) := by decide +kernel
theorem dX5_isInWork_1 : decode cX5_isInWork 1 = .ok (.invokestatic 65, 3) := by decide +kernel
theorem dX5_isInWork_4 : decode cX5_isInWork 4 = .ok (.aload_n 0, 1) := by decide +kernel
theorem dX5_isInWork_5 : decode cX5_isInWork 5 = .ok (.getfield 15, 3) := by decide +kernel
theorem dX5_isInWork_8 : decode cX5_isInWork 8 = .ok (.getfield 80, 3) := by decide +kernel
theorem dX5_isInWork_11 : decode cX5_isInWork 11 = .ok (.iload_n 1, 1) := by decide +kernel
theorem dX5_isInWork_12 : decode cX5_isInWork 12 = .ok (.invokevirtual 84, 3) := by decide +kernel
theorem dX5_isInWork_15 : decode cX5_isInWork 15 = .ok (.ireturn, 1) := by decide +kernel
theorem dX5_isOnHold_0 : decode cX5_isOnHold 0 = .ok (.iload_n 1, 1) := by decide +kernel
theorem dX5_isOnHold_1 : decode cX5_isOnHold 1 = .ok (.invokestatic 65, 3) := by decide +kernel
theorem dX5_isOnHold_4 : decode cX5_isOnHold 4 = .ok (.aload_n 0, 1) := by decide +kernel
theorem dX5_isOnHold_5 : decode cX5_isOnHold 5 = .ok (.getfield 15, 3) := by decide +kernel
theorem dX5_isOnHold_8 : decode cX5_isOnHold 8 = .ok (.getfield 80, 3) := by decide +kernel
theorem dX5_isOnHold_11 : decode cX5_isOnHold 11 = .ok (.iload_n 1, 1) := by decide +kernel
theorem dX5_isOnHold_12 : decode cX5_isOnHold 12 = .ok (.invokevirtual 88, 3) := by decide +kernel
theorem dX5_isOnHold_15 : decode cX5_isOnHold 15 = .ok (.ireturn, 1) := by decide +kernel
theorem dX5_loopsOn_0 : decode cX5_loopsOn 0 = .ok (.iload_n 1, 1) := by decide +kernel
theorem dX5_loopsOn_1 : decode cX5_loopsOn 1 = .ok (.invokestatic 65, 3) := by decide +kernel
theorem dX5_loopsOn_4 : decode cX5_loopsOn 4 = .ok (.aload_n 0, 1) := by decide +kernel
theorem dX5_loopsOn_5 : decode cX5_loopsOn 5 = .ok (.getfield 15, 3) := by decide +kernel
theorem dX5_loopsOn_8 : decode cX5_loopsOn 8 = .ok (.getfield 80, 3) := by decide +kernel
theorem dX5_loopsOn_11 : decode cX5_loopsOn 11 = .ok (.getfield 91, 3) := by decide +kernel
theorem dX5_loopsOn_14 : decode cX5_loopsOn 14 = .ok (.iload_n 1, 1) := by decide +kernel
theorem dX5_loopsOn_15 : decode cX5_loopsOn 15 = .ok (.iaload, 1) := by decide +kernel
theorem dX5_loopsOn_16 : decode cX5_loopsOn 16 = .ok (.ireturn, 1) := by decide +kernel
theorem dX5_ageOn_0 : decode cX5_ageOn 0 = .ok (.iload_n 1, 1) := by decide +kernel
theorem dX5_ageOn_1 : decode cX5_ageOn 1 = .ok (.invokestatic 65, 3) := by decide +kernel
theorem dX5_ageOn_4 : decode cX5_ageOn 4 = .ok (.aload_n 0, 1) := by decide +kernel
theorem dX5_ageOn_5 : decode cX5_ageOn 5 = .ok (.getfield 15, 3) := by decide +kernel
theorem dX5_ageOn_8 : decode cX5_ageOn 8 = .ok (.getfield 80, 3) := by decide +kernel
theorem dX5_ageOn_11 : decode cX5_ageOn 11 = .ok (.getfield 91, 3) := by decide +kernel
theorem dX5_ageOn_14 : decode cX5_ageOn 14 = .ok (.iload_n 1, 1) := by decide +kernel
theorem dX5_ageOn_15 : decode cX5_ageOn 15 = .ok (.iaload, 1) := by decide +kernel
theorem dX5_ageOn_16 : decode cX5_ageOn 16 = .ok (.ifCond .ne 13, 3) := by decide +kernel
theorem dX5_ageOn_19 : decode cX5_ageOn 19 = .ok (.new 95, 3) := by decide +kernel
theorem dX5_ageOn_22 : decode cX5_ageOn 22 = .ok (.dup, 1) := by decide +kernel
theorem dX5_ageOn_23 : decode cX5_ageOn 23 = .ok (.ldc 97, 2) := by decide +kernel
theorem dX5_ageOn_25 : decode cX5_ageOn 25 = .ok (.invokespecial 99, 3) := by decide +kernel
theorem dX5_ageOn_28 : decode cX5_ageOn 28 = .ok (.athrow, 1) := by decide +kernel
theorem dX5_ageOn_29 : decode cX5_ageOn 29 = .ok (.aload_n 0, 1) := by decide +kernel
theorem dX5_ageOn_30 : decode cX5_ageOn 30 = .ok (.getfield 15, 3) := by decide +kernel
theorem dX5_ageOn_33 : decode cX5_ageOn 33 = .ok (.getfield 80, 3) := by decide +kernel
theorem dX5_ageOn_36 : decode cX5_ageOn 36 = .ok (.getfield 100, 3) := by decide +kernel
theorem dX5_ageOn_39 : decode cX5_ageOn 39 = .ok (.iload_n 1, 1) := by decide +kernel
theorem dX5_ageOn_40 : decode cX5_ageOn 40 = .ok (.iaload, 1) := by decide +kernel
theorem dX5_ageOn_41 : decode cX5_ageOn 41 = .ok (.ireturn, 1) := by decide +kernel
theorem dX5_needlesInWork_0 : decode cX5_needlesInWork 0 = .ok (.aload_n 0, 1) := by decide +kernel
theorem dX5_needlesInWork_1 : decode cX5_needlesInWork 1 = .ok (.getfield 15, 3) := by decide +kernel
theorem dX5_needlesInWork_4 : decode cX5_needlesInWork 4 = .ok (.getfield 80, 3) := by decide +kernel
theorem dX5_needlesInWork_7 : decode cX5_needlesInWork 7 = .ok (.invokevirtual 103, 3) := by decide +kernel
theorem dX5_needlesInWork_10 : decode cX5_needlesInWork 10 = .ok (.ireturn, 1) := by decide +kernel
theorem dX5_needlesOnHold_0 : decode cX5_needlesOnHold 0 = .ok (.aload_n 0, 1) := by decide +kernel
theorem dX5_needlesOnHold_1 : decode cX5_needlesOnHold 1 = .ok (.getfield 15, 3) := by decide +kernel
theorem dX5_needlesOnHold_4 : decode cX5_needlesOnHold 4 = .ok (.getfield 80, 3) := by decide +kernel
theorem dX5_needlesOnHold_7 : decode cX5_needlesOnHold 7 = .ok (.invokevirtual 107, 3) := by decide +kernel
theorem dX5_needlesOnHold_10 : decode cX5_needlesOnHold 10 = .ok (.ireturn, 1) := by decide +kernel
theorem dX5_loopCount_0 : decode cX5_loopCount 0 = .ok (.aload_n 0, 1) := by decide +kernel
theorem dX5_loopCount_1 : decode cX5_loopCount 1 = .ok (.getfield 15, 3) := by decide +kernel
theorem dX5_loopCount_4 : decode cX5_loopCount 4 = .ok (.getfield 80, 3) := by decide +kernel
theorem dX5_loopCount_7 : decode cX5_loopCount 7 = .ok (.invokevirtual 110, 3) := by decide +kernel
theorem dX5_loopCount_10 : decode cX5_loopCount 10 = .ok (.ireturn, 1) := by decide +kernel
theorem dX5_longestRun_0 : decode cX5_longestRun 0 = .ok (.aload_n 0, 1) := by decide +kernel
theorem dX5_longestRun_1 : decode cX5_longestRun 1 = .ok (.getfield 15, 3) := by decide +kernel
theorem dX5_longestRun_4 : decode cX5_longestRun 4 = .ok (.getfield 80, 3) := by decide +kernel
theorem dX5_longestRun_7 : decode cX5_longestRun 7 = .ok (.invokevirtual 113, 3) := by decide +kernel
theorem dX5_longestRun_10 : decode cX5_longestRun 10 = .ok (.ireturn, 1) := by decide +kernel
theorem dX5_longestRunByMask_0 : decode cX5_longestRunByMask 0 = .ok (.aload_n 0, 1) := by decide +kernel
theorem dX5_longestRunByMask_1 : decode cX5_longestRunByMask 1 = .ok (.getfield 15, 3) := by decide +kernel
theorem dX5_longestRunByMask_4 : decode cX5_longestRunByMask 4 = .ok (.getfield 80, 3) := by decide +kernel
theorem dX5_longestRunByMask_7 : decode cX5_longestRunByMask 7 = .ok (.invokevirtual 116, 3) := by decide +kernel
theorem dX5_longestRunByMask_10 : decode cX5_longestRunByMask 10 = .ok (.ireturn, 1) := by decide +kernel
theorem dX5_nextDropped_0 : decode cX5_nextDropped 0 = .ok (.iload_n 1, 1) := by decide +kernel
theorem dX5_nextDropped_1 : decode cX5_nextDropped 1 = .ok (.invokestatic 65, 3) := by decide +kernel
theorem dX5_nextDropped_4 : decode cX5_nextDropped 4 = .ok (.aload_n 0, 1) := by decide +kernel
theorem dX5_nextDropped_5 : decode cX5_nextDropped 5 = .ok (.getfield 15, 3) := by decide +kernel
theorem dX5_nextDropped_8 : decode cX5_nextDropped 8 = .ok (.getfield 80, 3) := by decide +kernel
theorem dX5_nextDropped_11 : decode cX5_nextDropped 11 = .ok (.iload_n 1, 1) := by decide +kernel
theorem dX5_nextDropped_12 : decode cX5_nextDropped 12 = .ok (.invokevirtual 119, 3) := by decide +kernel
theorem dX5_nextDropped_15 : decode cX5_nextDropped 15 = .ok (.istore_n 2, 1) := by decide +kernel
theorem dX5_nextDropped_16 : decode cX5_nextDropped 16 = .ok (.iload_n 2, 1) := by decide +kernel
theorem dX5_nextDropped_17 : decode cX5_nextDropped 17 = .ok (.iconst (-1), 1) := by decide +kernel
theorem dX5_nextDropped_18 : decode cX5_nextDropped 18 = .ok (.if_icmp .ne 13, 3) := by decide +kernel
theorem dX5_nextDropped_21 : decode cX5_nextDropped 21 = .ok (.new 95, 3) := by decide +kernel
theorem dX5_nextDropped_24 : decode cX5_nextDropped 24 = .ok (.dup, 1) := by decide +kernel
theorem dX5_nextDropped_25 : decode cX5_nextDropped 25 = .ok (.ldc 123, 2) := by decide +kernel
theorem dX5_nextDropped_27 : decode cX5_nextDropped 27 = .ok (.invokespecial 99, 3) := by decide +kernel
theorem dX5_nextDropped_30 : decode cX5_nextDropped 30 = .ok (.athrow, 1) := by decide +kernel
theorem dX5_nextDropped_31 : decode cX5_nextDropped 31 = .ok (.iload_n 2, 1) := by decide +kernel
theorem dX5_nextDropped_32 : decode cX5_nextDropped 32 = .ok (.ireturn, 1) := by decide +kernel
theorem dX5_addYarn_0 : decode cX5_addYarn 0 = .ok (.iload_n 1, 1) := by decide +kernel
theorem dX5_addYarn_1 : decode cX5_addYarn 1 = .ok (.invokestatic 125, 3) := by decide +kernel
theorem dX5_addYarn_4 : decode cX5_addYarn 4 = .ok (.iload_n 2, 1) := by decide +kernel
theorem dX5_addYarn_5 : decode cX5_addYarn 5 = .ok (.invokestatic 128, 3) := by decide +kernel
theorem dX5_addYarn_8 : decode cX5_addYarn 8 = .ok (.ifCond .ne 13, 3) := by decide +kernel
theorem dX5_addYarn_11 : decode cX5_addYarn 11 = .ok (.new 69, 3) := by decide +kernel
theorem dX5_addYarn_14 : decode cX5_addYarn 14 = .ok (.dup, 1) := by decide +kernel
theorem dX5_addYarn_15 : decode cX5_addYarn 15 = .ok (.ldc 131, 2) := by decide +kernel
theorem dX5_addYarn_17 : decode cX5_addYarn 17 = .ok (.invokespecial 73, 3) := by decide +kernel
theorem dX5_addYarn_20 : decode cX5_addYarn 20 = .ok (.athrow, 1) := by decide +kernel
theorem dX5_addYarn_21 : decode cX5_addYarn 21 = .ok (.aload_n 0, 1) := by decide +kernel
theorem dX5_addYarn_22 : decode cX5_addYarn 22 = .ok (.bipush 121, 2) := by decide +kernel
theorem dX5_addYarn_24 : decode cX5_addYarn 24 = .ok (.iload_n 1, 1) := by decide +kernel
theorem dX5_addYarn_25 : decode cX5_addYarn 25 = .ok (.iload_n 2, 1) := by decide +kernel
theorem dX5_addYarn_26 : decode cX5_addYarn 26 = .ok (.invokevirtual 76, 3) := by decide +kernel
theorem dX5_addYarn_29 : decode cX5_addYarn 29 = .ok (.ireturn, 1) := by decide +kernel
theorem dX5_selectFeeder_0 : decode cX5_selectFeeder 0 = .ok (.iload_n 1, 1) := by decide +kernel
theorem dX5_selectFeeder_1 : decode cX5_selectFeeder 1 = .ok (.invokestatic 125, 3) := by decide +kernel
theorem dX5_selectFeeder_4 : decode cX5_selectFeeder 4 = .ok (.aload_n 0, 1) := by decide +kernel
theorem dX5_selectFeeder_5 : decode cX5_selectFeeder 5 = .ok (.bipush 102, 2) := by decide +kernel
theorem dX5_selectFeeder_7 : decode cX5_selectFeeder 7 = .ok (.iload_n 1, 1) := by decide +kernel
theorem dX5_selectFeeder_8 : decode cX5_selectFeeder 8 = .ok (.iconst 0, 1) := by decide +kernel
theorem dX5_selectFeeder_9 : decode cX5_selectFeeder 9 = .ok (.invokevirtual 76, 3) := by decide +kernel
theorem dX5_selectFeeder_12 : decode cX5_selectFeeder 12 = .ok (.ireturn, 1) := by decide +kernel
theorem dX5_setTension_0 : decode cX5_setTension 0 = .ok (.iload_n 1, 1) := by decide +kernel
theorem dX5_setTension_1 : decode cX5_setTension 1 = .ok (.invokestatic 133, 3) := by decide +kernel
theorem dX5_setTension_4 : decode cX5_setTension 4 = .ok (.ifCond .ne 13, 3) := by decide +kernel
theorem dX5_setTension_7 : decode cX5_setTension 7 = .ok (.new 69, 3) := by decide +kernel
theorem dX5_setTension_10 : decode cX5_setTension 10 = .ok (.dup, 1) := by decide +kernel
theorem dX5_setTension_11 : decode cX5_setTension 11 = .ok (.ldc 136, 2) := by decide +kernel
theorem dX5_setTension_13 : decode cX5_setTension 13 = .ok (.invokespecial 73, 3) := by decide +kernel
theorem dX5_setTension_16 : decode cX5_setTension 16 = .ok (.athrow, 1) := by decide +kernel
theorem dX5_setTension_17 : decode cX5_setTension 17 = .ok (.aload_n 0, 1) := by decide +kernel
theorem dX5_setTension_18 : decode cX5_setTension 18 = .ok (.bipush 116, 2) := by decide +kernel
theorem dX5_setTension_20 : decode cX5_setTension 20 = .ok (.iload_n 1, 1) := by decide +kernel
theorem dX5_setTension_21 : decode cX5_setTension 21 = .ok (.iconst 0, 1) := by decide +kernel
theorem dX5_setTension_22 : decode cX5_setTension 22 = .ok (.invokevirtual 76, 3) := by decide +kernel
theorem dX5_setTension_25 : decode cX5_setTension 25 = .ok (.ireturn, 1) := by decide +kernel
theorem dX5_addPatternRow_0 : decode cX5_addPatternRow 0 = .ok (.iload_n 1, 1) := by decide +kernel
theorem dX5_addPatternRow_1 : decode cX5_addPatternRow 1 = .ok (.ifCond .lt 10, 3) := by decide +kernel
theorem dX5_addPatternRow_4 : decode cX5_addPatternRow 4 = .ok (.iload_n 1, 1) := by decide +kernel
theorem dX5_addPatternRow_5 : decode cX5_addPatternRow 5 = .ok (.sipush 255, 3) := by decide +kernel
theorem dX5_addPatternRow_8 : decode cX5_addPatternRow 8 = .ok (.if_icmp .le 13, 3) := by decide +kernel
theorem dX5_addPatternRow_11 : decode cX5_addPatternRow 11 = .ok (.new 69, 3) := by decide +kernel
theorem dX5_addPatternRow_14 : decode cX5_addPatternRow 14 = .ok (.dup, 1) := by decide +kernel
theorem dX5_addPatternRow_15 : decode cX5_addPatternRow 15 = .ok (.ldc 138, 2) := by decide +kernel
theorem dX5_addPatternRow_17 : decode cX5_addPatternRow 17 = .ok (.invokespecial 73, 3) := by decide +kernel
theorem dX5_addPatternRow_20 : decode cX5_addPatternRow 20 = .ok (.athrow, 1) := by decide +kernel
theorem dX5_addPatternRow_21 : decode cX5_addPatternRow 21 = .ok (.aload_n 0, 1) := by decide +kernel
theorem dX5_addPatternRow_22 : decode cX5_addPatternRow 22 = .ok (.bipush 112, 2) := by decide +kernel
theorem dX5_addPatternRow_24 : decode cX5_addPatternRow 24 = .ok (.iload_n 1, 1) := by decide +kernel
theorem dX5_addPatternRow_25 : decode cX5_addPatternRow 25 = .ok (.iconst 0, 1) := by decide +kernel
theorem dX5_addPatternRow_26 : decode cX5_addPatternRow 26 = .ok (.invokevirtual 76, 3) := by decide +kernel
theorem dX5_addPatternRow_29 : decode cX5_addPatternRow 29 = .ok (.ireturn, 1) := by decide +kernel
theorem dX5_clearPattern_0 : decode cX5_clearPattern 0 = .ok (.aload_n 0, 1) := by decide +kernel
theorem dX5_clearPattern_1 : decode cX5_clearPattern 1 = .ok (.bipush 113, 2) := by decide +kernel
theorem dX5_clearPattern_3 : decode cX5_clearPattern 3 = .ok (.iconst 0, 1) := by decide +kernel
theorem dX5_clearPattern_4 : decode cX5_clearPattern 4 = .ok (.iconst 0, 1) := by decide +kernel
theorem dX5_clearPattern_5 : decode cX5_clearPattern 5 = .ok (.invokevirtual 76, 3) := by decide +kernel
theorem dX5_clearPattern_8 : decode cX5_clearPattern 8 = .ok (.ireturn, 1) := by decide +kernel
theorem dX5_yarnIn_0 : decode cX5_yarnIn 0 = .ok (.iload_n 1, 1) := by decide +kernel
theorem dX5_yarnIn_1 : decode cX5_yarnIn 1 = .ok (.invokestatic 125, 3) := by decide +kernel
theorem dX5_yarnIn_4 : decode cX5_yarnIn 4 = .ok (.aload_n 0, 1) := by decide +kernel
theorem dX5_yarnIn_5 : decode cX5_yarnIn 5 = .ok (.getfield 15, 3) := by decide +kernel
theorem dX5_yarnIn_8 : decode cX5_yarnIn 8 = .ok (.getfield 140, 3) := by decide +kernel
theorem dX5_yarnIn_11 : decode cX5_yarnIn 11 = .ok (.iload_n 1, 1) := by decide +kernel
theorem dX5_yarnIn_12 : decode cX5_yarnIn 12 = .ok (.iaload, 1) := by decide +kernel
theorem dX5_yarnIn_13 : decode cX5_yarnIn 13 = .ok (.ireturn, 1) := by decide +kernel
theorem dX5_activeFeeder_0 : decode cX5_activeFeeder 0 = .ok (.aload_n 0, 1) := by decide +kernel
theorem dX5_activeFeeder_1 : decode cX5_activeFeeder 1 = .ok (.getfield 15, 3) := by decide +kernel
theorem dX5_activeFeeder_4 : decode cX5_activeFeeder 4 = .ok (.getfield 143, 3) := by decide +kernel
theorem dX5_activeFeeder_7 : decode cX5_activeFeeder 7 = .ok (.ireturn, 1) := by decide +kernel
theorem dX5_tension_0 : decode cX5_tension 0 = .ok (.aload_n 0, 1) := by decide +kernel
theorem dX5_tension_1 : decode cX5_tension 1 = .ok (.getfield 15, 3) := by decide +kernel
theorem dX5_tension_4 : decode cX5_tension 4 = .ok (.getfield 146, 3) := by decide +kernel
theorem dX5_tension_7 : decode cX5_tension 7 = .ok (.ireturn, 1) := by decide +kernel
theorem dX5_patternRows_0 : decode cX5_patternRows 0 = .ok (.aload_n 0, 1) := by decide +kernel
theorem dX5_patternRows_1 : decode cX5_patternRows 1 = .ok (.getfield 15, 3) := by decide +kernel
theorem dX5_patternRows_4 : decode cX5_patternRows 4 = .ok (.getfield 149, 3) := by decide +kernel
theorem dX5_patternRows_7 : decode cX5_patternRows 7 = .ok (.ireturn, 1) := by decide +kernel
theorem dX5_isKnit_0 : decode cX5_isKnit 0 = .ok (.iload_n 1, 1) := by decide +kernel
theorem dX5_isKnit_1 : decode cX5_isKnit 1 = .ok (.ifCond .lt 24, 3) := by decide +kernel
theorem dX5_isKnit_4 : decode cX5_isKnit 4 = .ok (.iload_n 1, 1) := by decide +kernel
theorem dX5_isKnit_5 : decode cX5_isKnit 5 = .ok (.aload_n 0, 1) := by decide +kernel
theorem dX5_isKnit_6 : decode cX5_isKnit 6 = .ok (.getfield 15, 3) := by decide +kernel
theorem dX5_isKnit_9 : decode cX5_isKnit 9 = .ok (.getfield 149, 3) := by decide +kernel
theorem dX5_isKnit_12 : decode cX5_isKnit 12 = .ok (.if_icmp .ge 13, 3) := by decide +kernel
theorem dX5_isKnit_15 : decode cX5_isKnit 15 = .ok (.iload_n 2, 1) := by decide +kernel
theorem dX5_isKnit_16 : decode cX5_isKnit 16 = .ok (.ifCond .lt 9, 3) := by decide +kernel
theorem dX5_isKnit_19 : decode cX5_isKnit 19 = .ok (.iload_n 2, 1) := by decide +kernel
theorem dX5_isKnit_20 : decode cX5_isKnit 20 = .ok (.bipush 8, 2) := by decide +kernel
theorem dX5_isKnit_22 : decode cX5_isKnit 22 = .ok (.if_icmp .lt 13, 3) := by decide +kernel
theorem dX5_isKnit_25 : decode cX5_isKnit 25 = .ok (.new 152, 3) := by decide +kernel
theorem dX5_isKnit_28 : decode cX5_isKnit 28 = .ok (.dup, 1) := by decide +kernel
theorem dX5_isKnit_29 : decode cX5_isKnit 29 = .ok (.ldc 154, 2) := by decide +kernel
theorem dX5_isKnit_31 : decode cX5_isKnit 31 = .ok (.invokespecial 156, 3) := by decide +kernel
theorem dX5_isKnit_34 : decode cX5_isKnit 34 = .ok (.athrow, 1) := by decide +kernel
theorem dX5_isKnit_35 : decode cX5_isKnit 35 = .ok (.aload_n 0, 1) := by decide +kernel
theorem dX5_isKnit_36 : decode cX5_isKnit 36 = .ok (.getfield 15, 3) := by decide +kernel
theorem dX5_isKnit_39 : decode cX5_isKnit 39 = .ok (.getfield 157, 3) := by decide +kernel
theorem dX5_isKnit_42 : decode cX5_isKnit 42 = .ok (.iload_n 1, 1) := by decide +kernel
theorem dX5_isKnit_43 : decode cX5_isKnit 43 = .ok (.iaload, 1) := by decide +kernel
theorem dX5_isKnit_44 : decode cX5_isKnit 44 = .ok (.iload_n 2, 1) := by decide +kernel
theorem dX5_isKnit_45 : decode cX5_isKnit 45 = .ok (.invokestatic 160, 3) := by decide +kernel
theorem dX5_isKnit_48 : decode cX5_isKnit 48 = .ok (.ireturn, 1) := by decide +kernel
theorem dX5_knit_0 : decode cX5_knit 0 = .ok (.iload_n 1, 1) := by decide +kernel
theorem dX5_knit_1 : decode cX5_knit 1 = .ok (.invokestatic 164, 3) := by decide +kernel
theorem dX5_knit_4 : decode cX5_knit 4 = .ok (.aload_n 0, 1) := by decide +kernel
theorem dX5_knit_5 : decode cX5_knit 5 = .ok (.bipush 107, 2) := by decide +kernel
theorem dX5_knit_7 : decode cX5_knit 7 = .ok (.iload_n 1, 1) := by decide +kernel
theorem dX5_knit_8 : decode cX5_knit 8 = .ok (.iconst 0, 1) := by decide +kernel
theorem dX5_knit_9 : decode cX5_knit 9 = .ok (.invokevirtual 76, 3) := by decide +kernel
theorem dX5_knit_12 : decode cX5_knit 12 = .ok (.ireturn, 1) := by decide +kernel
theorem dX5_willKnit_0 : decode cX5_willKnit 0 = .ok (.iload_n 1, 1) := by decide +kernel
theorem dX5_willKnit_1 : decode cX5_willKnit 1 = .ok (.invokestatic 65, 3) := by decide +kernel
theorem dX5_willKnit_4 : decode cX5_willKnit 4 = .ok (.aload_n 0, 1) := by decide +kernel
theorem dX5_willKnit_5 : decode cX5_willKnit 5 = .ok (.getfield 15, 3) := by decide +kernel
theorem dX5_willKnit_8 : decode cX5_willKnit 8 = .ok (.getfield 80, 3) := by decide +kernel
theorem dX5_willKnit_11 : decode cX5_willKnit 11 = .ok (.iload_n 1, 1) := by decide +kernel
theorem dX5_willKnit_12 : decode cX5_willKnit 12 = .ok (.aload_n 0, 1) := by decide +kernel
theorem dX5_willKnit_13 : decode cX5_willKnit 13 = .ok (.getfield 15, 3) := by decide +kernel
theorem dX5_willKnit_16 : decode cX5_willKnit 16 = .ok (.invokevirtual 167, 3) := by decide +kernel
theorem dX5_willKnit_19 : decode cX5_willKnit 19 = .ok (.invokevirtual 170, 3) := by decide +kernel
theorem dX5_willKnit_22 : decode cX5_willKnit 22 = .ok (.ireturn, 1) := by decide +kernel
theorem dX5_nextWidth_0 : decode cX5_nextWidth 0 = .ok (.aload_n 0, 1) := by decide +kernel
theorem dX5_nextWidth_1 : decode cX5_nextWidth 1 = .ok (.getfield 15, 3) := by decide +kernel
theorem dX5_nextWidth_4 : decode cX5_nextWidth 4 = .ok (.getfield 80, 3) := by decide +kernel
theorem dX5_nextWidth_7 : decode cX5_nextWidth 7 = .ok (.aload_n 0, 1) := by decide +kernel
theorem dX5_nextWidth_8 : decode cX5_nextWidth 8 = .ok (.getfield 15, 3) := by decide +kernel
theorem dX5_nextWidth_11 : decode cX5_nextWidth 11 = .ok (.invokevirtual 167, 3) := by decide +kernel
theorem dX5_nextWidth_14 : decode cX5_nextWidth 14 = .ok (.invokevirtual 173, 3) := by decide +kernel
theorem dX5_nextWidth_17 : decode cX5_nextWidth 17 = .ok (.ireturn, 1) := by decide +kernel
theorem dX5_nextWidthByMask_0 : decode cX5_nextWidthByMask 0 = .ok (.aload_n 0, 1) := by decide +kernel
theorem dX5_nextWidthByMask_1 : decode cX5_nextWidthByMask 1 = .ok (.getfield 15, 3) := by decide +kernel
theorem dX5_nextWidthByMask_4 : decode cX5_nextWidthByMask 4 = .ok (.getfield 80, 3) := by decide +kernel
theorem dX5_nextWidthByMask_7 : decode cX5_nextWidthByMask 7 = .ok (.aload_n 0, 1) := by decide +kernel
theorem dX5_nextWidthByMask_8 : decode cX5_nextWidthByMask 8 = .ok (.getfield 15, 3) := by decide +kernel
theorem dX5_nextWidthByMask_11 : decode cX5_nextWidthByMask 11 = .ok (.invokevirtual 167, 3) := by decide +kernel
theorem dX5_nextWidthByMask_14 : decode cX5_nextWidthByMask 14 = .ok (.invokevirtual 176, 3) := by decide +kernel
theorem dX5_nextWidthByMask_17 : decode cX5_nextWidthByMask 17 = .ok (.ireturn, 1) := by decide +kernel
theorem dX5_stitchesIn_0 : decode cX5_stitchesIn 0 = .ok (.iload_n 1, 1) := by decide +kernel
theorem dX5_stitchesIn_1 : decode cX5_stitchesIn 1 = .ok (.invokestatic 164, 3) := by decide +kernel
theorem dX5_stitchesIn_4 : decode cX5_stitchesIn 4 = .ok (.aload_n 0, 1) := by decide +kernel
theorem dX5_stitchesIn_5 : decode cX5_stitchesIn 5 = .ok (.getfield 15, 3) := by decide +kernel
theorem dX5_stitchesIn_8 : decode cX5_stitchesIn 8 = .ok (.iload_n 1, 1) := by decide +kernel
theorem dX5_stitchesIn_9 : decode cX5_stitchesIn 9 = .ok (.invokevirtual 179, 3) := by decide +kernel
theorem dX5_stitchesIn_12 : decode cX5_stitchesIn 12 = .ok (.ireturn, 1) := by decide +kernel
theorem dX5_dropsIn_0 : decode cX5_dropsIn 0 = .ok (.iload_n 1, 1) := by decide +kernel
theorem dX5_dropsIn_1 : decode cX5_dropsIn 1 = .ok (.invokestatic 164, 3) := by decide +kernel
theorem dX5_dropsIn_4 : decode cX5_dropsIn 4 = .ok (.aload_n 0, 1) := by decide +kernel
theorem dX5_dropsIn_5 : decode cX5_dropsIn 5 = .ok (.getfield 15, 3) := by decide +kernel
theorem dX5_dropsIn_8 : decode cX5_dropsIn 8 = .ok (.iload_n 1, 1) := by decide +kernel
theorem dX5_dropsIn_9 : decode cX5_dropsIn 9 = .ok (.invokevirtual 182, 3) := by decide +kernel
theorem dX5_dropsIn_12 : decode cX5_dropsIn 12 = .ok (.ireturn, 1) := by decide +kernel
theorem dX5_coursesPossible_0 : decode cX5_coursesPossible 0 = .ok (.aload_n 0, 1) := by decide +kernel
theorem dX5_coursesPossible_1 : decode cX5_coursesPossible 1 = .ok (.getfield 15, 3) := by decide +kernel
theorem dX5_coursesPossible_4 : decode cX5_coursesPossible 4 = .ok (.bipush 30, 2) := by decide +kernel
theorem dX5_coursesPossible_6 : decode cX5_coursesPossible 6 = .ok (.invokevirtual 185, 3) := by decide +kernel
theorem dX5_coursesPossible_9 : decode cX5_coursesPossible 9 = .ok (.ireturn, 1) := by decide +kernel
theorem dX5_courseCount_0 : decode cX5_courseCount 0 = .ok (.aload_n 0, 1) := by decide +kernel
theorem dX5_courseCount_1 : decode cX5_courseCount 1 = .ok (.getfield 15, 3) := by decide +kernel
theorem dX5_courseCount_4 : decode cX5_courseCount 4 = .ok (.getfield 188, 3) := by decide +kernel
theorem dX5_courseCount_7 : decode cX5_courseCount 7 = .ok (.getfield 192, 3) := by decide +kernel
theorem dX5_courseCount_10 : decode cX5_courseCount 10 = .ok (.ireturn, 1) := by decide +kernel
theorem dX5_widthOf_0 : decode cX5_widthOf 0 = .ok (.aload_n 0, 1) := by decide +kernel
theorem dX5_widthOf_1 : decode cX5_widthOf 1 = .ok (.iload_n 1, 1) := by decide +kernel
theorem dX5_widthOf_2 : decode cX5_widthOf 2 = .ok (.invokevirtual 197, 3) := by decide +kernel
theorem dX5_widthOf_5 : decode cX5_widthOf 5 = .ok (.aload_n 0, 1) := by decide +kernel
theorem dX5_widthOf_6 : decode cX5_widthOf 6 = .ok (.getfield 15, 3) := by decide +kernel
theorem dX5_widthOf_9 : decode cX5_widthOf 9 = .ok (.getfield 188, 3) := by decide +kernel
theorem dX5_widthOf_12 : decode cX5_widthOf 12 = .ok (.getfield 200, 3) := by decide +kernel
theorem dX5_widthOf_15 : decode cX5_widthOf 15 = .ok (.iload_n 1, 1) := by decide +kernel
theorem dX5_widthOf_16 : decode cX5_widthOf 16 = .ok (.iaload, 1) := by decide +kernel
theorem dX5_widthOf_17 : decode cX5_widthOf 17 = .ok (.ireturn, 1) := by decide +kernel
theorem dX5_yarnOf_0 : decode cX5_yarnOf 0 = .ok (.aload_n 0, 1) := by decide +kernel
theorem dX5_yarnOf_1 : decode cX5_yarnOf 1 = .ok (.iload_n 1, 1) := by decide +kernel
theorem dX5_yarnOf_2 : decode cX5_yarnOf 2 = .ok (.invokevirtual 197, 3) := by decide +kernel
theorem dX5_yarnOf_5 : decode cX5_yarnOf 5 = .ok (.aload_n 0, 1) := by decide +kernel
theorem dX5_yarnOf_6 : decode cX5_yarnOf 6 = .ok (.getfield 15, 3) := by decide +kernel
theorem dX5_yarnOf_9 : decode cX5_yarnOf 9 = .ok (.getfield 188, 3) := by decide +kernel
theorem dX5_yarnOf_12 : decode cX5_yarnOf 12 = .ok (.getfield 203, 3) := by decide +kernel
theorem dX5_yarnOf_15 : decode cX5_yarnOf 15 = .ok (.iload_n 1, 1) := by decide +kernel
theorem dX5_yarnOf_16 : decode cX5_yarnOf 16 = .ok (.iaload, 1) := by decide +kernel
theorem dX5_yarnOf_17 : decode cX5_yarnOf 17 = .ok (.ireturn, 1) := by decide +kernel
theorem dX5_feederOf_0 : decode cX5_feederOf 0 = .ok (.aload_n 0, 1) := by decide +kernel
theorem dX5_feederOf_1 : decode cX5_feederOf 1 = .ok (.iload_n 1, 1) := by decide +kernel
theorem dX5_feederOf_2 : decode cX5_feederOf 2 = .ok (.invokevirtual 197, 3) := by decide +kernel
theorem dX5_feederOf_5 : decode cX5_feederOf 5 = .ok (.aload_n 0, 1) := by decide +kernel
theorem dX5_feederOf_6 : decode cX5_feederOf 6 = .ok (.getfield 15, 3) := by decide +kernel
theorem dX5_feederOf_9 : decode cX5_feederOf 9 = .ok (.getfield 188, 3) := by decide +kernel
theorem dX5_feederOf_12 : decode cX5_feederOf 12 = .ok (.getfield 206, 3) := by decide +kernel
theorem dX5_feederOf_15 : decode cX5_feederOf 15 = .ok (.iload_n 1, 1) := by decide +kernel
theorem dX5_feederOf_16 : decode cX5_feederOf 16 = .ok (.iaload, 1) := by decide +kernel
theorem dX5_feederOf_17 : decode cX5_feederOf 17 = .ok (.ireturn, 1) := by decide +kernel
theorem dX5_dropsOf_0 : decode cX5_dropsOf 0 = .ok (.aload_n 0, 1) := by decide +kernel
theorem dX5_dropsOf_1 : decode cX5_dropsOf 1 = .ok (.iload_n 1, 1) := by decide +kernel
theorem dX5_dropsOf_2 : decode cX5_dropsOf 2 = .ok (.invokevirtual 197, 3) := by decide +kernel
theorem dX5_dropsOf_5 : decode cX5_dropsOf 5 = .ok (.aload_n 0, 1) := by decide +kernel
theorem dX5_dropsOf_6 : decode cX5_dropsOf 6 = .ok (.getfield 15, 3) := by decide +kernel
theorem dX5_dropsOf_9 : decode cX5_dropsOf 9 = .ok (.getfield 188, 3) := by decide +kernel
theorem dX5_dropsOf_12 : decode cX5_dropsOf 12 = .ok (.getfield 209, 3) := by decide +kernel
theorem dX5_dropsOf_15 : decode cX5_dropsOf 15 = .ok (.iload_n 1, 1) := by decide +kernel
theorem dX5_dropsOf_16 : decode cX5_dropsOf 16 = .ok (.iaload, 1) := by decide +kernel
theorem dX5_dropsOf_17 : decode cX5_dropsOf 17 = .ok (.ireturn, 1) := by decide +kernel
theorem dX5_courseByWidth_0 : decode cX5_courseByWidth 0 = .ok (.aload_n 0, 1) := by decide +kernel
theorem dX5_courseByWidth_1 : decode cX5_courseByWidth 1 = .ok (.getfield 15, 3) := by decide +kernel
theorem dX5_courseByWidth_4 : decode cX5_courseByWidth 4 = .ok (.getfield 188, 3) := by decide +kernel
theorem dX5_courseByWidth_7 : decode cX5_courseByWidth 7 = .ok (.iload_n 1, 1) := by decide +kernel
theorem dX5_courseByWidth_8 : decode cX5_courseByWidth 8 = .ok (.invokevirtual 212, 3) := by decide +kernel
theorem dX5_courseByWidth_11 : decode cX5_courseByWidth 11 = .ok (.istore_n 2, 1) := by decide +kernel
theorem dX5_courseByWidth_12 : decode cX5_courseByWidth 12 = .ok (.iload_n 2, 1) := by decide +kernel
theorem dX5_courseByWidth_13 : decode cX5_courseByWidth 13 = .ok (.iconst (-1), 1) := by decide +kernel
theorem dX5_courseByWidth_14 : decode cX5_courseByWidth 14 = .ok (.if_icmp .ne 13, 3) := by decide +kernel
theorem dX5_courseByWidth_17 : decode cX5_courseByWidth 17 = .ok (.new 95, 3) := by decide +kernel
theorem dX5_courseByWidth_20 : decode cX5_courseByWidth 20 = .ok (.dup, 1) := by decide +kernel
theorem dX5_courseByWidth_21 : decode cX5_courseByWidth 21 = .ok (.ldc 215, 2) := by decide +kernel
theorem dX5_courseByWidth_23 : decode cX5_courseByWidth 23 = .ok (.invokespecial 99, 3) := by decide +kernel
theorem dX5_courseByWidth_26 : decode cX5_courseByWidth 26 = .ok (.athrow, 1) := by decide +kernel
theorem dX5_courseByWidth_27 : decode cX5_courseByWidth 27 = .ok (.iload_n 2, 1) := by decide +kernel
theorem dX5_courseByWidth_28 : decode cX5_courseByWidth 28 = .ok (.ireturn, 1) := by decide +kernel
theorem dX5_feederByYarn_0 : decode cX5_feederByYarn 0 = .ok (.aload_n 0, 1) := by decide +kernel
theorem dX5_feederByYarn_1 : decode cX5_feederByYarn 1 = .ok (.getfield 15, 3) := by decide +kernel
theorem dX5_feederByYarn_4 : decode cX5_feederByYarn 4 = .ok (.iload_n 1, 1) := by decide +kernel
theorem dX5_feederByYarn_5 : decode cX5_feederByYarn 5 = .ok (.invokevirtual 217, 3) := by decide +kernel
theorem dX5_feederByYarn_8 : decode cX5_feederByYarn 8 = .ok (.istore_n 2, 1) := by decide +kernel
theorem dX5_feederByYarn_9 : decode cX5_feederByYarn 9 = .ok (.iload_n 2, 1) := by decide +kernel
theorem dX5_feederByYarn_10 : decode cX5_feederByYarn 10 = .ok (.iconst (-1), 1) := by decide +kernel
theorem dX5_feederByYarn_11 : decode cX5_feederByYarn 11 = .ok (.if_icmp .ne 13, 3) := by decide +kernel
theorem dX5_feederByYarn_14 : decode cX5_feederByYarn 14 = .ok (.new 95, 3) := by decide +kernel
theorem dX5_feederByYarn_17 : decode cX5_feederByYarn 17 = .ok (.dup, 1) := by decide +kernel
theorem dX5_feederByYarn_18 : decode cX5_feederByYarn 18 = .ok (.ldc 220, 2) := by decide +kernel
theorem dX5_feederByYarn_20 : decode cX5_feederByYarn 20 = .ok (.invokespecial 99, 3) := by decide +kernel
theorem dX5_feederByYarn_23 : decode cX5_feederByYarn 23 = .ok (.athrow, 1) := by decide +kernel
theorem dX5_feederByYarn_24 : decode cX5_feederByYarn 24 = .ok (.iload_n 2, 1) := by decide +kernel
theorem dX5_feederByYarn_25 : decode cX5_feederByYarn 25 = .ok (.ireturn, 1) := by decide +kernel
theorem dX5_stitchCount_0 : decode cX5_stitchCount 0 = .ok (.aload_n 0, 1) := by decide +kernel
theorem dX5_stitchCount_1 : decode cX5_stitchCount 1 = .ok (.getfield 15, 3) := by decide +kernel
theorem dX5_stitchCount_4 : decode cX5_stitchCount 4 = .ok (.getfield 188, 3) := by decide +kernel
theorem dX5_stitchCount_7 : decode cX5_stitchCount 7 = .ok (.invokevirtual 222, 3) := by decide +kernel
theorem dX5_stitchCount_10 : decode cX5_stitchCount 10 = .ok (.ireturn, 1) := by decide +kernel
theorem dX5_finishedShawls_0 : decode cX5_finishedShawls 0 = .ok (.aload_n 0, 1) := by decide +kernel
theorem dX5_finishedShawls_1 : decode cX5_finishedShawls 1 = .ok (.getfield 15, 3) := by decide +kernel
theorem dX5_finishedShawls_4 : decode cX5_finishedShawls 4 = .ok (.getfield 225, 3) := by decide +kernel
theorem dX5_finishedShawls_7 : decode cX5_finishedShawls 7 = .ok (.ireturn, 1) := by decide +kernel
theorem dX5_yarnAdded_0 : decode cX5_yarnAdded 0 = .ok (.aload_n 0, 1) := by decide +kernel
theorem dX5_yarnAdded_1 : decode cX5_yarnAdded 1 = .ok (.getfield 15, 3) := by decide +kernel
theorem dX5_yarnAdded_4 : decode cX5_yarnAdded 4 = .ok (.getfield 228, 3) := by decide +kernel
theorem dX5_yarnAdded_7 : decode cX5_yarnAdded 7 = .ok (.ireturn, 1) := by decide +kernel
theorem dX5_yarnUsed_0 : decode cX5_yarnUsed 0 = .ok (.aload_n 0, 1) := by decide +kernel
theorem dX5_yarnUsed_1 : decode cX5_yarnUsed 1 = .ok (.getfield 15, 3) := by decide +kernel
theorem dX5_yarnUsed_4 : decode cX5_yarnUsed 4 = .ok (.getfield 231, 3) := by decide +kernel
theorem dX5_yarnUsed_7 : decode cX5_yarnUsed 7 = .ok (.ireturn, 1) := by decide +kernel
theorem dX5_droppedLoops_0 : decode cX5_droppedLoops 0 = .ok (.aload_n 0, 1) := by decide +kernel
theorem dX5_droppedLoops_1 : decode cX5_droppedLoops 1 = .ok (.getfield 15, 3) := by decide +kernel
theorem dX5_droppedLoops_4 : decode cX5_droppedLoops 4 = .ok (.getfield 234, 3) := by decide +kernel
theorem dX5_droppedLoops_7 : decode cX5_droppedLoops 7 = .ok (.ireturn, 1) := by decide +kernel
theorem dX5_meanWidth_0 : decode cX5_meanWidth 0 = .ok (.aload_n 0, 1) := by decide +kernel
theorem dX5_meanWidth_1 : decode cX5_meanWidth 1 = .ok (.getfield 15, 3) := by decide +kernel
theorem dX5_meanWidth_4 : decode cX5_meanWidth 4 = .ok (.getfield 188, 3) := by decide +kernel
theorem dX5_meanWidth_7 : decode cX5_meanWidth 7 = .ok (.getfield 192, 3) := by decide +kernel
theorem dX5_meanWidth_10 : decode cX5_meanWidth 10 = .ok (.istore_n 1, 1) := by decide +kernel
theorem dX5_meanWidth_11 : decode cX5_meanWidth 11 = .ok (.iload_n 1, 1) := by decide +kernel
theorem dX5_meanWidth_12 : decode cX5_meanWidth 12 = .ok (.ifCond .ne 13, 3) := by decide +kernel
theorem dX5_meanWidth_15 : decode cX5_meanWidth 15 = .ok (.new 237, 3) := by decide +kernel
theorem dX5_meanWidth_18 : decode cX5_meanWidth 18 = .ok (.dup, 1) := by decide +kernel
theorem dX5_meanWidth_19 : decode cX5_meanWidth 19 = .ok (.ldc 239, 2) := by decide +kernel
theorem dX5_meanWidth_21 : decode cX5_meanWidth 21 = .ok (.invokespecial 241, 3) := by decide +kernel
theorem dX5_meanWidth_24 : decode cX5_meanWidth 24 = .ok (.athrow, 1) := by decide +kernel
theorem dX5_meanWidth_25 : decode cX5_meanWidth 25 = .ok (.aload_n 0, 1) := by decide +kernel
theorem dX5_meanWidth_26 : decode cX5_meanWidth 26 = .ok (.getfield 15, 3) := by decide +kernel
theorem dX5_meanWidth_29 : decode cX5_meanWidth 29 = .ok (.getfield 188, 3) := by decide +kernel
theorem dX5_meanWidth_32 : decode cX5_meanWidth 32 = .ok (.invokevirtual 222, 3) := by decide +kernel
theorem dX5_meanWidth_35 : decode cX5_meanWidth 35 = .ok (.i2d, 1) := by decide +kernel
theorem dX5_meanWidth_36 : decode cX5_meanWidth 36 = .ok (.iload_n 1, 1) := by decide +kernel
theorem dX5_meanWidth_37 : decode cX5_meanWidth 37 = .ok (.i2d, 1) := by decide +kernel
theorem dX5_meanWidth_38 : decode cX5_meanWidth 38 = .ok (.ddiv, 1) := by decide +kernel
theorem dX5_meanWidth_39 : decode cX5_meanWidth 39 = .ok (.dreturn, 1) := by decide +kernel
theorem dX5_droppedShare_0 : decode cX5_droppedShare 0 = .ok (.aload_n 0, 1) := by decide +kernel
theorem dX5_droppedShare_1 : decode cX5_droppedShare 1 = .ok (.getfield 15, 3) := by decide +kernel
theorem dX5_droppedShare_4 : decode cX5_droppedShare 4 = .ok (.getfield 80, 3) := by decide +kernel
theorem dX5_droppedShare_7 : decode cX5_droppedShare 7 = .ok (.invokevirtual 103, 3) := by decide +kernel
theorem dX5_droppedShare_10 : decode cX5_droppedShare 10 = .ok (.istore_n 1, 1) := by decide +kernel
theorem dX5_droppedShare_11 : decode cX5_droppedShare 11 = .ok (.iload_n 1, 1) := by decide +kernel
theorem dX5_droppedShare_12 : decode cX5_droppedShare 12 = .ok (.ifCond .ne 13, 3) := by decide +kernel
theorem dX5_droppedShare_15 : decode cX5_droppedShare 15 = .ok (.new 237, 3) := by decide +kernel
theorem dX5_droppedShare_18 : decode cX5_droppedShare 18 = .ok (.dup, 1) := by decide +kernel
theorem dX5_droppedShare_19 : decode cX5_droppedShare 19 = .ok (.ldc 242, 2) := by decide +kernel
theorem dX5_droppedShare_21 : decode cX5_droppedShare 21 = .ok (.invokespecial 241, 3) := by decide +kernel
theorem dX5_droppedShare_24 : decode cX5_droppedShare 24 = .ok (.athrow, 1) := by decide +kernel
theorem dX5_droppedShare_25 : decode cX5_droppedShare 25 = .ok (.aload_n 0, 1) := by decide +kernel
theorem dX5_droppedShare_26 : decode cX5_droppedShare 26 = .ok (.getfield 15, 3) := by decide +kernel
theorem dX5_droppedShare_29 : decode cX5_droppedShare 29 = .ok (.getfield 80, 3) := by decide +kernel
theorem dX5_droppedShare_32 : decode cX5_droppedShare 32 = .ok (.invokevirtual 244, 3) := by decide +kernel
theorem dX5_droppedShare_35 : decode cX5_droppedShare 35 = .ok (.i2f, 1) := by decide +kernel
theorem dX5_droppedShare_36 : decode cX5_droppedShare 36 = .ok (.iload_n 1, 1) := by decide +kernel
theorem dX5_droppedShare_37 : decode cX5_droppedShare 37 = .ok (.i2f, 1) := by decide +kernel
theorem dX5_droppedShare_38 : decode cX5_droppedShare 38 = .ok (.fdiv, 1) := by decide +kernel
theorem dX5_droppedShare_39 : decode cX5_droppedShare 39 = .ok (.freturn, 1) := by decide +kernel
theorem dX5_isConsistent_0 : decode cX5_isConsistent 0 = .ok (.aload_n 0, 1) := by decide +kernel
theorem dX5_isConsistent_1 : decode cX5_isConsistent 1 = .ok (.getfield 15, 3) := by decide +kernel
theorem dX5_isConsistent_4 : decode cX5_isConsistent 4 = .ok (.invokevirtual 167, 3) := by decide +kernel
theorem dX5_isConsistent_7 : decode cX5_isConsistent 7 = .ok (.istore_n 1, 1) := by decide +kernel
theorem dX5_isConsistent_8 : decode cX5_isConsistent 8 = .ok (.aload_n 0, 1) := by decide +kernel
theorem dX5_isConsistent_9 : decode cX5_isConsistent 9 = .ok (.getfield 15, 3) := by decide +kernel
theorem dX5_isConsistent_12 : decode cX5_isConsistent 12 = .ok (.getfield 80, 3) := by decide +kernel
theorem dX5_isConsistent_15 : decode cX5_isConsistent 15 = .ok (.invokevirtual 113, 3) := by decide +kernel
theorem dX5_isConsistent_18 : decode cX5_isConsistent 18 = .ok (.aload_n 0, 1) := by decide +kernel
theorem dX5_isConsistent_19 : decode cX5_isConsistent 19 = .ok (.getfield 15, 3) := by decide +kernel
theorem dX5_isConsistent_22 : decode cX5_isConsistent 22 = .ok (.getfield 80, 3) := by decide +kernel
theorem dX5_isConsistent_25 : decode cX5_isConsistent 25 = .ok (.invokevirtual 116, 3) := by decide +kernel
theorem dX5_isConsistent_28 : decode cX5_isConsistent 28 = .ok (.if_icmp .ne 70, 3) := by decide +kernel
theorem dX5_isConsistent_31 : decode cX5_isConsistent 31 = .ok (.aload_n 0, 1) := by decide +kernel
theorem dX5_isConsistent_32 : decode cX5_isConsistent 32 = .ok (.getfield 15, 3) := by decide +kernel
theorem dX5_isConsistent_35 : decode cX5_isConsistent 35 = .ok (.getfield 80, 3) := by decide +kernel
theorem dX5_isConsistent_38 : decode cX5_isConsistent 38 = .ok (.iload_n 1, 1) := by decide +kernel
theorem dX5_isConsistent_39 : decode cX5_isConsistent 39 = .ok (.invokevirtual 173, 3) := by decide +kernel
theorem dX5_isConsistent_42 : decode cX5_isConsistent 42 = .ok (.aload_n 0, 1) := by decide +kernel
theorem dX5_isConsistent_43 : decode cX5_isConsistent 43 = .ok (.getfield 15, 3) := by decide +kernel
theorem dX5_isConsistent_46 : decode cX5_isConsistent 46 = .ok (.getfield 80, 3) := by decide +kernel
theorem dX5_isConsistent_49 : decode cX5_isConsistent 49 = .ok (.iload_n 1, 1) := by decide +kernel
theorem dX5_isConsistent_50 : decode cX5_isConsistent 50 = .ok (.invokevirtual 176, 3) := by decide +kernel
theorem dX5_isConsistent_53 : decode cX5_isConsistent 53 = .ok (.if_icmp .ne 45, 3) := by decide +kernel
theorem dX5_isConsistent_56 : decode cX5_isConsistent 56 = .ok (.aload_n 0, 1) := by decide +kernel
theorem dX5_isConsistent_57 : decode cX5_isConsistent 57 = .ok (.getfield 15, 3) := by decide +kernel
theorem dX5_isConsistent_60 : decode cX5_isConsistent 60 = .ok (.getfield 228, 3) := by decide +kernel
theorem dX5_isConsistent_63 : decode cX5_isConsistent 63 = .ok (.aload_n 0, 1) := by decide +kernel
theorem dX5_isConsistent_64 : decode cX5_isConsistent 64 = .ok (.getfield 15, 3) := by decide +kernel
theorem dX5_isConsistent_67 : decode cX5_isConsistent 67 = .ok (.invokevirtual 247, 3) := by decide +kernel
theorem dX5_isConsistent_70 : decode cX5_isConsistent 70 = .ok (.aload_n 0, 1) := by decide +kernel
theorem dX5_isConsistent_71 : decode cX5_isConsistent 71 = .ok (.getfield 15, 3) := by decide +kernel
theorem dX5_isConsistent_74 : decode cX5_isConsistent 74 = .ok (.getfield 231, 3) := by decide +kernel
theorem dX5_isConsistent_77 : decode cX5_isConsistent 77 = .ok (.iadd, 1) := by decide +kernel
theorem dX5_isConsistent_78 : decode cX5_isConsistent 78 = .ok (.if_icmp .ne 20, 3) := by decide +kernel
theorem dX5_isConsistent_81 : decode cX5_isConsistent 81 = .ok (.aload_n 0, 1) := by decide +kernel
theorem dX5_isConsistent_82 : decode cX5_isConsistent 82 = .ok (.getfield 15, 3) := by decide +kernel
theorem dX5_isConsistent_85 : decode cX5_isConsistent 85 = .ok (.getfield 80, 3) := by decide +kernel
theorem dX5_isConsistent_88 : decode cX5_isConsistent 88 = .ok (.invokevirtual 250, 3) := by decide +kernel
theorem dX5_isConsistent_91 : decode cX5_isConsistent 91 = .ok (.ifCond .eq 7, 3) := by decide +kernel
theorem dX5_isConsistent_94 : decode cX5_isConsistent 94 = .ok (.iconst 1, 1) := by decide +kernel
theorem dX5_isConsistent_95 : decode cX5_isConsistent 95 = .ok (.goto 4, 3) := by decide +kernel
theorem dX5_isConsistent_98 : decode cX5_isConsistent 98 = .ok (.iconst 0, 1) := by decide +kernel
theorem dX5_isConsistent_99 : decode cX5_isConsistent 99 = .ok (.ireturn, 1) := by decide +kernel
theorem dX5_writeBed_0 : decode cX5_writeBed 0 = .ok (.aload_n 0, 1) := by decide +kernel
theorem dX5_writeBed_1 : decode cX5_writeBed 1 = .ok (.getfield 44, 3) := by decide +kernel
theorem dX5_writeBed_4 : decode cX5_writeBed 4 = .ok (.iconst 0, 1) := by decide +kernel
theorem dX5_writeBed_5 : decode cX5_writeBed 5 = .ok (.invokevirtual 254, 3) := by decide +kernel
theorem dX5_writeBed_8 : decode cX5_writeBed 8 = .ok (.iconst 0, 1) := by decide +kernel
theorem dX5_writeBed_9 : decode cX5_writeBed 9 = .ok (.istore_n 1, 1) := by decide +kernel
theorem dX5_writeBed_10 : decode cX5_writeBed 10 = .ok (.iload_n 1, 1) := by decide +kernel
theorem dX5_writeBed_11 : decode cX5_writeBed 11 = .ok (.bipush 24, 2) := by decide +kernel
theorem dX5_writeBed_13 : decode cX5_writeBed 13 = .ok (.if_icmp .ge 28, 3) := by decide +kernel
theorem dX5_writeBed_16 : decode cX5_writeBed 16 = .ok (.aload_n 0, 1) := by decide +kernel
theorem dX5_writeBed_17 : decode cX5_writeBed 17 = .ok (.getfield 44, 3) := by decide +kernel
theorem dX5_writeBed_20 : decode cX5_writeBed 20 = .ok (.aload_n 0, 1) := by decide +kernel
theorem dX5_writeBed_21 : decode cX5_writeBed 21 = .ok (.getfield 15, 3) := by decide +kernel
theorem dX5_writeBed_24 : decode cX5_writeBed 24 = .ok (.getfield 80, 3) := by decide +kernel
theorem dX5_writeBed_27 : decode cX5_writeBed 27 = .ok (.iload_n 1, 1) := by decide +kernel
theorem dX5_writeBed_28 : decode cX5_writeBed 28 = .ok (.invokevirtual 257, 3) := by decide +kernel
theorem dX5_writeBed_31 : decode cX5_writeBed 31 = .ok (.invokevirtual 261, 3) := by decide +kernel
theorem dX5_writeBed_34 : decode cX5_writeBed 34 = .ok (.pop, 1) := by decide +kernel
theorem dX5_writeBed_35 : decode cX5_writeBed 35 = .ok (.iinc 1 1, 3) := by decide +kernel
theorem dX5_writeBed_38 : decode cX5_writeBed 38 = .ok (.goto (-28), 3) := by decide +kernel
theorem dX5_writeBed_41 : decode cX5_writeBed 41 = .ok (.aload_n 0, 1) := by decide +kernel
theorem dX5_writeBed_42 : decode cX5_writeBed 42 = .ok (.getfield 44, 3) := by decide +kernel
theorem dX5_writeBed_45 : decode cX5_writeBed 45 = .ok (.invokevirtual 265, 3) := by decide +kernel
theorem dX5_writeBed_48 : decode cX5_writeBed 48 = .ok (.ireturn, 1) := by decide +kernel
theorem dX5_writeCourse_0 : decode cX5_writeCourse 0 = .ok (.aload_n 0, 1) := by decide +kernel
theorem dX5_writeCourse_1 : decode cX5_writeCourse 1 = .ok (.iload_n 1, 1) := by decide +kernel
theorem dX5_writeCourse_2 : decode cX5_writeCourse 2 = .ok (.invokevirtual 197, 3) := by decide +kernel
theorem dX5_writeCourse_5 : decode cX5_writeCourse 5 = .ok (.aload_n 0, 1) := by decide +kernel
theorem dX5_writeCourse_6 : decode cX5_writeCourse 6 = .ok (.getfield 15, 3) := by decide +kernel
theorem dX5_writeCourse_9 : decode cX5_writeCourse 9 = .ok (.getfield 188, 3) := by decide +kernel
theorem dX5_writeCourse_12 : decode cX5_writeCourse 12 = .ok (.astore_n 2, 1) := by decide +kernel
theorem dX5_writeCourse_13 : decode cX5_writeCourse 13 = .ok (.aload_n 0, 1) := by decide +kernel
theorem dX5_writeCourse_14 : decode cX5_writeCourse 14 = .ok (.getfield 44, 3) := by decide +kernel
theorem dX5_writeCourse_17 : decode cX5_writeCourse 17 = .ok (.iconst 0, 1) := by decide +kernel
theorem dX5_writeCourse_18 : decode cX5_writeCourse 18 = .ok (.invokevirtual 254, 3) := by decide +kernel
theorem dX5_writeCourse_21 : decode cX5_writeCourse 21 = .ok (.aload_n 0, 1) := by decide +kernel
theorem dX5_writeCourse_22 : decode cX5_writeCourse 22 = .ok (.getfield 44, 3) := by decide +kernel
theorem dX5_writeCourse_25 : decode cX5_writeCourse 25 = .ok (.iload_n 1, 1) := by decide +kernel
theorem dX5_writeCourse_26 : decode cX5_writeCourse 26 = .ok (.invokevirtual 268, 3) := by decide +kernel
theorem dX5_writeCourse_29 : decode cX5_writeCourse 29 = .ok (.bipush 58, 2) := by decide +kernel
theorem dX5_writeCourse_31 : decode cX5_writeCourse 31 = .ok (.invokevirtual 261, 3) := by decide +kernel
theorem dX5_writeCourse_34 : decode cX5_writeCourse 34 = .ok (.aload_n 2, 1) := by decide +kernel
theorem dX5_writeCourse_35 : decode cX5_writeCourse 35 = .ok (.getfield 200, 3) := by decide +kernel
theorem dX5_writeCourse_38 : decode cX5_writeCourse 38 = .ok (.iload_n 1, 1) := by decide +kernel
theorem dX5_writeCourse_39 : decode cX5_writeCourse 39 = .ok (.iaload, 1) := by decide +kernel
theorem dX5_writeCourse_40 : decode cX5_writeCourse 40 = .ok (.invokevirtual 268, 3) := by decide +kernel
theorem dX5_writeCourse_43 : decode cX5_writeCourse 43 = .ok (.pop, 1) := by decide +kernel
theorem dX5_writeCourse_44 : decode cX5_writeCourse 44 = .ok (.aload_n 0, 1) := by decide +kernel
theorem dX5_writeCourse_45 : decode cX5_writeCourse 45 = .ok (.getfield 44, 3) := by decide +kernel
theorem dX5_writeCourse_48 : decode cX5_writeCourse 48 = .ok (.bipush 102, 2) := by decide +kernel
theorem dX5_writeCourse_50 : decode cX5_writeCourse 50 = .ok (.invokevirtual 261, 3) := by decide +kernel
theorem dX5_writeCourse_53 : decode cX5_writeCourse 53 = .ok (.aload_n 2, 1) := by decide +kernel
theorem dX5_writeCourse_54 : decode cX5_writeCourse 54 = .ok (.getfield 206, 3) := by decide +kernel
theorem dX5_writeCourse_57 : decode cX5_writeCourse 57 = .ok (.iload_n 1, 1) := by decide +kernel
theorem dX5_writeCourse_58 : decode cX5_writeCourse 58 = .ok (.iaload, 1) := by decide +kernel
theorem dX5_writeCourse_59 : decode cX5_writeCourse 59 = .ok (.invokevirtual 268, 3) := by decide +kernel
theorem dX5_writeCourse_62 : decode cX5_writeCourse 62 = .ok (.pop, 1) := by decide +kernel
theorem dX5_writeCourse_63 : decode cX5_writeCourse 63 = .ok (.aload_n 0, 1) := by decide +kernel
theorem dX5_writeCourse_64 : decode cX5_writeCourse 64 = .ok (.getfield 44, 3) := by decide +kernel
theorem dX5_writeCourse_67 : decode cX5_writeCourse 67 = .ok (.bipush 121, 2) := by decide +kernel
theorem dX5_writeCourse_69 : decode cX5_writeCourse 69 = .ok (.invokevirtual 261, 3) := by decide +kernel
theorem dX5_writeCourse_72 : decode cX5_writeCourse 72 = .ok (.aload_n 2, 1) := by decide +kernel
theorem dX5_writeCourse_73 : decode cX5_writeCourse 73 = .ok (.getfield 203, 3) := by decide +kernel
theorem dX5_writeCourse_76 : decode cX5_writeCourse 76 = .ok (.iload_n 1, 1) := by decide +kernel
theorem dX5_writeCourse_77 : decode cX5_writeCourse 77 = .ok (.iaload, 1) := by decide +kernel
theorem dX5_writeCourse_78 : decode cX5_writeCourse 78 = .ok (.invokevirtual 268, 3) := by decide +kernel
theorem dX5_writeCourse_81 : decode cX5_writeCourse 81 = .ok (.pop, 1) := by decide +kernel
theorem dX5_writeCourse_82 : decode cX5_writeCourse 82 = .ok (.aload_n 2, 1) := by decide +kernel
theorem dX5_writeCourse_83 : decode cX5_writeCourse 83 = .ok (.getfield 209, 3) := by decide +kernel
theorem dX5_writeCourse_86 : decode cX5_writeCourse 86 = .ok (.iload_n 1, 1) := by decide +kernel
theorem dX5_writeCourse_87 : decode cX5_writeCourse 87 = .ok (.iaload, 1) := by decide +kernel
theorem dX5_writeCourse_88 : decode cX5_writeCourse 88 = .ok (.ifCond .le 22, 3) := by decide +kernel
theorem dX5_writeCourse_91 : decode cX5_writeCourse 91 = .ok (.aload_n 0, 1) := by decide +kernel
theorem dX5_writeCourse_92 : decode cX5_writeCourse 92 = .ok (.getfield 44, 3) := by decide +kernel
theorem dX5_writeCourse_95 : decode cX5_writeCourse 95 = .ok (.bipush 33, 2) := by decide +kernel
theorem dX5_writeCourse_97 : decode cX5_writeCourse 97 = .ok (.invokevirtual 261, 3) := by decide +kernel
theorem dX5_writeCourse_100 : decode cX5_writeCourse 100 = .ok (.aload_n 2, 1) := by decide +kernel
theorem dX5_writeCourse_101 : decode cX5_writeCourse 101 = .ok (.getfield 209, 3) := by decide +kernel
theorem dX5_writeCourse_104 : decode cX5_writeCourse 104 = .ok (.iload_n 1, 1) := by decide +kernel
theorem dX5_writeCourse_105 : decode cX5_writeCourse 105 = .ok (.iaload, 1) := by decide +kernel
theorem dX5_writeCourse_106 : decode cX5_writeCourse 106 = .ok (.invokevirtual 268, 3) := by decide +kernel
theorem dX5_writeCourse_109 : decode cX5_writeCourse 109 = .ok (.pop, 1) := by decide +kernel
theorem dX5_writeCourse_110 : decode cX5_writeCourse 110 = .ok (.aload_n 0, 1) := by decide +kernel
theorem dX5_writeCourse_111 : decode cX5_writeCourse 111 = .ok (.getfield 44, 3) := by decide +kernel
theorem dX5_writeCourse_114 : decode cX5_writeCourse 114 = .ok (.invokevirtual 265, 3) := by decide +kernel
theorem dX5_writeCourse_117 : decode cX5_writeCourse 117 = .ok (.ireturn, 1) := by decide +kernel
theorem dX5_outputAt_0 : decode cX5_outputAt 0 = .ok (.iload_n 1, 1) := by decide +kernel
theorem dX5_outputAt_1 : decode cX5_outputAt 1 = .ok (.ifCond .lt 14, 3) := by decide +kernel
theorem dX5_outputAt_4 : decode cX5_outputAt 4 = .ok (.iload_n 1, 1) := by decide +kernel
theorem dX5_outputAt_5 : decode cX5_outputAt 5 = .ok (.aload_n 0, 1) := by decide +kernel
theorem dX5_outputAt_6 : decode cX5_outputAt 6 = .ok (.getfield 44, 3) := by decide +kernel
theorem dX5_outputAt_9 : decode cX5_outputAt 9 = .ok (.invokevirtual 265, 3) := by decide +kernel
theorem dX5_outputAt_12 : decode cX5_outputAt 12 = .ok (.if_icmp .lt 14, 3) := by decide +kernel
theorem dX5_outputAt_15 : decode cX5_outputAt 15 = .ok (.new 152, 3) := by decide +kernel
theorem dX5_outputAt_18 : decode cX5_outputAt 18 = .ok (.dup, 1) := by decide +kernel
theorem dX5_outputAt_19 : decode cX5_outputAt 19 = .ok (.ldc_w 271, 3) := by decide +kernel
theorem dX5_outputAt_22 : decode cX5_outputAt 22 = .ok (.invokespecial 156, 3) := by decide +kernel
theorem dX5_outputAt_25 : decode cX5_outputAt 25 = .ok (.athrow, 1) := by decide +kernel
theorem dX5_outputAt_26 : decode cX5_outputAt 26 = .ok (.aload_n 0, 1) := by decide +kernel
theorem dX5_outputAt_27 : decode cX5_outputAt 27 = .ok (.getfield 44, 3) := by decide +kernel
theorem dX5_outputAt_30 : decode cX5_outputAt 30 = .ok (.iload_n 1, 1) := by decide +kernel
theorem dX5_outputAt_31 : decode cX5_outputAt 31 = .ok (.invokevirtual 273, 3) := by decide +kernel
theorem dX5_outputAt_34 : decode cX5_outputAt 34 = .ok (.ireturn, 1) := by decide +kernel
theorem dX5_appendInput_0 : decode cX5_appendInput 0 = .ok (.iload_n 1, 1) := by decide +kernel
theorem dX5_appendInput_1 : decode cX5_appendInput 1 = .ok (.bipush 32, 2) := by decide +kernel
theorem dX5_appendInput_3 : decode cX5_appendInput 3 = .ok (.if_icmp .lt 9, 3) := by decide +kernel
theorem dX5_appendInput_6 : decode cX5_appendInput 6 = .ok (.iload_n 1, 1) := by decide +kernel
theorem dX5_appendInput_7 : decode cX5_appendInput 7 = .ok (.bipush 126, 2) := by decide +kernel
theorem dX5_appendInput_9 : decode cX5_appendInput 9 = .ok (.if_icmp .le 14, 3) := by decide +kernel
theorem dX5_appendInput_12 : decode cX5_appendInput 12 = .ok (.new 69, 3) := by decide +kernel
theorem dX5_appendInput_15 : decode cX5_appendInput 15 = .ok (.dup, 1) := by decide +kernel
theorem dX5_appendInput_16 : decode cX5_appendInput 16 = .ok (.ldc_w 276, 3) := by decide +kernel
theorem dX5_appendInput_19 : decode cX5_appendInput 19 = .ok (.invokespecial 73, 3) := by decide +kernel
theorem dX5_appendInput_22 : decode cX5_appendInput 22 = .ok (.athrow, 1) := by decide +kernel
theorem dX5_appendInput_23 : decode cX5_appendInput 23 = .ok (.aload_n 0, 1) := by decide +kernel
theorem dX5_appendInput_24 : decode cX5_appendInput 24 = .ok (.getfield 37, 3) := by decide +kernel
theorem dX5_appendInput_27 : decode cX5_appendInput 27 = .ok (.getfield 278, 3) := by decide +kernel
theorem dX5_appendInput_30 : decode cX5_appendInput 30 = .ok (.invokevirtual 265, 3) := by decide +kernel
theorem dX5_appendInput_33 : decode cX5_appendInput 33 = .ok (.bipush 60, 2) := by decide +kernel
theorem dX5_appendInput_35 : decode cX5_appendInput 35 = .ok (.if_icmp .lt 14, 3) := by decide +kernel
theorem dX5_appendInput_38 : decode cX5_appendInput 38 = .ok (.new 281, 3) := by decide +kernel
theorem dX5_appendInput_41 : decode cX5_appendInput 41 = .ok (.dup, 1) := by decide +kernel
theorem dX5_appendInput_42 : decode cX5_appendInput 42 = .ok (.ldc_w 283, 3) := by decide +kernel
theorem dX5_appendInput_45 : decode cX5_appendInput 45 = .ok (.invokespecial 285, 3) := by decide +kernel
theorem dX5_appendInput_48 : decode cX5_appendInput 48 = .ok (.athrow, 1) := by decide +kernel
theorem dX5_appendInput_49 : decode cX5_appendInput 49 = .ok (.aload_n 0, 1) := by decide +kernel
theorem dX5_appendInput_50 : decode cX5_appendInput 50 = .ok (.getfield 37, 3) := by decide +kernel
theorem dX5_appendInput_53 : decode cX5_appendInput 53 = .ok (.getfield 278, 3) := by decide +kernel
theorem dX5_appendInput_56 : decode cX5_appendInput 56 = .ok (.iload_n 1, 1) := by decide +kernel
theorem dX5_appendInput_57 : decode cX5_appendInput 57 = .ok (.invokevirtual 261, 3) := by decide +kernel
theorem dX5_appendInput_60 : decode cX5_appendInput 60 = .ok (.pop, 1) := by decide +kernel
theorem dX5_appendInput_61 : decode cX5_appendInput 61 = .ok (.aload_n 0, 1) := by decide +kernel
theorem dX5_appendInput_62 : decode cX5_appendInput 62 = .ok (.getfield 37, 3) := by decide +kernel
theorem dX5_appendInput_65 : decode cX5_appendInput 65 = .ok (.getfield 278, 3) := by decide +kernel
theorem dX5_appendInput_68 : decode cX5_appendInput 68 = .ok (.invokevirtual 265, 3) := by decide +kernel
theorem dX5_appendInput_71 : decode cX5_appendInput 71 = .ok (.ireturn, 1) := by decide +kernel
theorem dX5_syntaxErrorOffset_0 : decode cX5_syntaxErrorOffset 0 = .ok (.aload_n 0, 1) := by decide +kernel
theorem dX5_syntaxErrorOffset_1 : decode cX5_syntaxErrorOffset 1 = .ok (.getfield 52, 3) := by decide +kernel
theorem dX5_syntaxErrorOffset_4 : decode cX5_syntaxErrorOffset 4 = .ok (.iconst (-1), 1) := by decide +kernel
theorem dX5_syntaxErrorOffset_5 : decode cX5_syntaxErrorOffset 5 = .ok (.if_icmp .ne 14, 3) := by decide +kernel
theorem dX5_syntaxErrorOffset_8 : decode cX5_syntaxErrorOffset 8 = .ok (.new 95, 3) := by decide +kernel
theorem dX5_syntaxErrorOffset_11 : decode cX5_syntaxErrorOffset 11 = .ok (.dup, 1) := by decide +kernel
theorem dX5_syntaxErrorOffset_12 : decode cX5_syntaxErrorOffset 12 = .ok (.ldc_w 305, 3) := by decide +kernel
theorem dX5_syntaxErrorOffset_15 : decode cX5_syntaxErrorOffset 15 = .ok (.invokespecial 99, 3) := by decide +kernel
theorem dX5_syntaxErrorOffset_18 : decode cX5_syntaxErrorOffset 18 = .ok (.athrow, 1) := by decide +kernel
theorem dX5_syntaxErrorOffset_19 : decode cX5_syntaxErrorOffset 19 = .ok (.aload_n 0, 1) := by decide +kernel
theorem dX5_syntaxErrorOffset_20 : decode cX5_syntaxErrorOffset 20 = .ok (.getfield 52, 3) := by decide +kernel
theorem dX5_syntaxErrorOffset_23 : decode cX5_syntaxErrorOffset 23 = .ok (.ireturn, 1) := by decide +kernel
theorem dX5_rejectionReason_0 : decode cX5_rejectionReason 0 = .ok (.aload_n 0, 1) := by decide +kernel
theorem dX5_rejectionReason_1 : decode cX5_rejectionReason 1 = .ok (.invokevirtual 307, 3) := by decide +kernel
theorem dX5_rejectionReason_4 : decode cX5_rejectionReason 4 = .ok (.aload_n 0, 1) := by decide +kernel
theorem dX5_rejectionReason_5 : decode cX5_rejectionReason 5 = .ok (.getfield 56, 3) := by decide +kernel
theorem dX5_rejectionReason_8 : decode cX5_rejectionReason 8 = .ok (.ireturn, 1) := by decide +kernel
theorem dX5_rejectionDetail_0 : decode cX5_rejectionDetail 0 = .ok (.aload_n 0, 1) := by decide +kernel
theorem dX5_rejectionDetail_1 : decode cX5_rejectionDetail 1 = .ok (.invokevirtual 307, 3) := by decide +kernel
theorem dX5_rejectionDetail_4 : decode cX5_rejectionDetail 4 = .ok (.aload_n 0, 1) := by decide +kernel
theorem dX5_rejectionDetail_5 : decode cX5_rejectionDetail 5 = .ok (.getfield 59, 3) := by decide +kernel
theorem dX5_rejectionDetail_8 : decode cX5_rejectionDetail 8 = .ok (.ireturn, 1) := by decide +kernel
theorem dX5_causeReason_0 : decode cX5_causeReason 0 = .ok (.aload_n 0, 1) := by decide +kernel
theorem dX5_causeReason_1 : decode cX5_causeReason 1 = .ok (.getfield 56, 3) := by decide +kernel
theorem dX5_causeReason_4 : decode cX5_causeReason 4 = .ok (.bipush 15, 2) := by decide +kernel
theorem dX5_causeReason_6 : decode cX5_causeReason 6 = .ok (.if_icmp .eq 14, 3) := by decide +kernel
theorem dX5_causeReason_9 : decode cX5_causeReason 9 = .ok (.new 95, 3) := by decide +kernel
theorem dX5_causeReason_12 : decode cX5_causeReason 12 = .ok (.dup, 1) := by decide +kernel
theorem dX5_causeReason_13 : decode cX5_causeReason 13 = .ok (.ldc_w 310, 3) := by decide +kernel
theorem dX5_causeReason_16 : decode cX5_causeReason 16 = .ok (.invokespecial 99, 3) := by decide +kernel
theorem dX5_causeReason_19 : decode cX5_causeReason 19 = .ok (.athrow, 1) := by decide +kernel
theorem dX5_causeReason_20 : decode cX5_causeReason 20 = .ok (.aload_n 0, 1) := by decide +kernel
theorem dX5_causeReason_21 : decode cX5_causeReason 21 = .ok (.getfield 62, 3) := by decide +kernel
theorem dX5_causeReason_24 : decode cX5_causeReason 24 = .ok (.ireturn, 1) := by decide +kernel
theorem dX5_undo_0 : decode cX5_undo 0 = .ok (.aload_n 0, 1) := by decide +kernel
theorem dX5_undo_1 : decode cX5_undo 1 = .ok (.getfield 30, 3) := by decide +kernel
theorem dX5_undo_4 : decode cX5_undo 4 = .ok (.getfield 312, 3) := by decide +kernel
theorem dX5_undo_7 : decode cX5_undo 7 = .ok (.ifCond .ne 14, 3) := by decide +kernel
theorem dX5_undo_10 : decode cX5_undo 10 = .ok (.new 281, 3) := by decide +kernel
theorem dX5_undo_13 : decode cX5_undo 13 = .ok (.dup, 1) := by decide +kernel
theorem dX5_undo_14 : decode cX5_undo 14 = .ok (.ldc_w 313, 3) := by decide +kernel
theorem dX5_undo_17 : decode cX5_undo 17 = .ok (.invokespecial 285, 3) := by decide +kernel
theorem dX5_undo_20 : decode cX5_undo 20 = .ok (.athrow, 1) := by decide +kernel
theorem dX5_undo_21 : decode cX5_undo 21 = .ok (.aload_n 0, 1) := by decide +kernel
theorem dX5_undo_22 : decode cX5_undo 22 = .ok (.getfield 30, 3) := by decide +kernel
theorem dX5_undo_25 : decode cX5_undo 25 = .ok (.aload_n 0, 1) := by decide +kernel
theorem dX5_undo_26 : decode cX5_undo 26 = .ok (.getfield 15, 3) := by decide +kernel
theorem dX5_undo_29 : decode cX5_undo 29 = .ok (.invokevirtual 315, 3) := by decide +kernel
theorem dX5_undo_32 : decode cX5_undo 32 = .ok (.aload_n 0, 1) := by decide +kernel
theorem dX5_undo_33 : decode cX5_undo 33 = .ok (.getfield 30, 3) := by decide +kernel
theorem dX5_undo_36 : decode cX5_undo 36 = .ok (.getfield 312, 3) := by decide +kernel
theorem dX5_undo_39 : decode cX5_undo 39 = .ok (.ireturn, 1) := by decide +kernel
theorem dX5_saveSnapshot_0 : decode cX5_saveSnapshot 0 = .ok (.aload_n 0, 1) := by decide +kernel
theorem dX5_saveSnapshot_1 : decode cX5_saveSnapshot 1 = .ok (.getfield 24, 3) := by decide +kernel
theorem dX5_saveSnapshot_4 : decode cX5_saveSnapshot 4 = .ok (.aload_n 0, 1) := by decide +kernel
theorem dX5_saveSnapshot_5 : decode cX5_saveSnapshot 5 = .ok (.getfield 15, 3) := by decide +kernel
theorem dX5_saveSnapshot_8 : decode cX5_saveSnapshot 8 = .ok (.invokevirtual 294, 3) := by decide +kernel
theorem dX5_saveSnapshot_11 : decode cX5_saveSnapshot 11 = .ok (.aload_n 0, 1) := by decide +kernel
theorem dX5_saveSnapshot_12 : decode cX5_saveSnapshot 12 = .ok (.iconst 1, 1) := by decide +kernel
theorem dX5_saveSnapshot_13 : decode cX5_saveSnapshot 13 = .ok (.putfield 48, 3) := by decide +kernel
theorem dX5_saveSnapshot_16 : decode cX5_saveSnapshot 16 = .ok (.aload_n 0, 1) := by decide +kernel
theorem dX5_saveSnapshot_17 : decode cX5_saveSnapshot 17 = .ok (.getfield 15, 3) := by decide +kernel
theorem dX5_saveSnapshot_20 : decode cX5_saveSnapshot 20 = .ok (.getfield 188, 3) := by decide +kernel
theorem dX5_saveSnapshot_23 : decode cX5_saveSnapshot 23 = .ok (.getfield 192, 3) := by decide +kernel
theorem dX5_saveSnapshot_26 : decode cX5_saveSnapshot 26 = .ok (.ireturn, 1) := by decide +kernel
theorem dX5_restoreSnapshot_0 : decode cX5_restoreSnapshot 0 = .ok (.aload_n 0, 1) := by decide +kernel
theorem dX5_restoreSnapshot_1 : decode cX5_restoreSnapshot 1 = .ok (.getfield 48, 3) := by decide +kernel
theorem dX5_restoreSnapshot_4 : decode cX5_restoreSnapshot 4 = .ok (.ifCond .ne 14, 3) := by decide +kernel
theorem dX5_restoreSnapshot_7 : decode cX5_restoreSnapshot 7 = .ok (.new 281, 3) := by decide +kernel
theorem dX5_restoreSnapshot_10 : decode cX5_restoreSnapshot 10 = .ok (.dup, 1) := by decide +kernel
theorem dX5_restoreSnapshot_11 : decode cX5_restoreSnapshot 11 = .ok (.ldc_w 318, 3) := by decide +kernel
theorem dX5_restoreSnapshot_14 : decode cX5_restoreSnapshot 14 = .ok (.invokespecial 285, 3) := by decide +kernel
theorem dX5_restoreSnapshot_17 : decode cX5_restoreSnapshot 17 = .ok (.athrow, 1) := by decide +kernel
theorem dX5_restoreSnapshot_18 : decode cX5_restoreSnapshot 18 = .ok (.aload_n 0, 1) := by decide +kernel
theorem dX5_restoreSnapshot_19 : decode cX5_restoreSnapshot 19 = .ok (.getfield 15, 3) := by decide +kernel
theorem dX5_restoreSnapshot_22 : decode cX5_restoreSnapshot 22 = .ok (.aload_n 0, 1) := by decide +kernel
theorem dX5_restoreSnapshot_23 : decode cX5_restoreSnapshot 23 = .ok (.getfield 24, 3) := by decide +kernel
theorem dX5_restoreSnapshot_26 : decode cX5_restoreSnapshot 26 = .ok (.invokevirtual 294, 3) := by decide +kernel
theorem dX5_restoreSnapshot_29 : decode cX5_restoreSnapshot 29 = .ok (.aload_n 0, 1) := by decide +kernel
theorem dX5_restoreSnapshot_30 : decode cX5_restoreSnapshot 30 = .ok (.getfield 30, 3) := by decide +kernel
theorem dX5_restoreSnapshot_33 : decode cX5_restoreSnapshot 33 = .ok (.invokevirtual 320, 3) := by decide +kernel
theorem dX5_restoreSnapshot_36 : decode cX5_restoreSnapshot 36 = .ok (.aload_n 0, 1) := by decide +kernel
theorem dX5_restoreSnapshot_37 : decode cX5_restoreSnapshot 37 = .ok (.getfield 15, 3) := by decide +kernel
theorem dX5_restoreSnapshot_40 : decode cX5_restoreSnapshot 40 = .ok (.getfield 188, 3) := by decide +kernel
theorem dX5_restoreSnapshot_43 : decode cX5_restoreSnapshot 43 = .ok (.getfield 192, 3) := by decide +kernel
theorem dX5_restoreSnapshot_46 : decode cX5_restoreSnapshot 46 = .ok (.ireturn, 1) := by decide +kernel
theorem dX5_change_0 : decode cX5_change 0 = .ok (.aload_n 0, 1) := by decide +kernel
theorem dX5_change_1 : decode cX5_change 1 = .ok (.getfield 15, 3) := by decide +kernel
theorem dX5_change_4 : decode cX5_change 4 = .ok (.iload_n 1, 1) := by decide +kernel
theorem dX5_change_5 : decode cX5_change 5 = .ok (.iload_n 2, 1) := by decide +kernel
theorem dX5_change_6 : decode cX5_change 6 = .ok (.iload_n 3, 1) := by decide +kernel
theorem dX5_change_7 : decode cX5_change 7 = .ok (.invokevirtual 323, 3) := by decide +kernel
theorem dX5_change_10 : decode cX5_change 10 = .ok (.istore 4, 2) := by decide +kernel
theorem dX5_change_12 : decode cX5_change 12 = .ok (.iload 4, 2) := by decide +kernel
theorem dX5_change_14 : decode cX5_change 14 = .ok (.ifCond .eq 17, 3) := by decide +kernel
theorem dX5_change_17 : decode cX5_change 17 = .ok (.aload_n 0, 1) := by decide +kernel
theorem dX5_change_18 : decode cX5_change 18 = .ok (.iload 4, 2) := by decide +kernel
theorem dX5_change_20 : decode cX5_change 20 = .ok (.aload_n 0, 1) := by decide +kernel
theorem dX5_change_21 : decode cX5_change 21 = .ok (.getfield 15, 3) := by decide +kernel
theorem dX5_change_24 : decode cX5_change 24 = .ok (.getfield 326, 3) := by decide +kernel
theorem dX5_change_27 : decode cX5_change 27 = .ok (.iconst 0, 1) := by decide +kernel
theorem dX5_change_28 : decode cX5_change 28 = .ok (.invokevirtual 329, 3) := by decide +kernel
theorem dX5_change_31 : decode cX5_change 31 = .ok (.aload_n 0, 1) := by decide +kernel
theorem dX5_change_32 : decode cX5_change 32 = .ok (.getfield 30, 3) := by decide +kernel
theorem dX5_change_35 : decode cX5_change 35 = .ok (.aload_n 0, 1) := by decide +kernel
theorem dX5_change_36 : decode cX5_change 36 = .ok (.getfield 15, 3) := by decide +kernel
theorem dX5_change_39 : decode cX5_change 39 = .ok (.invokevirtual 302, 3) := by decide +kernel
theorem dX5_change_42 : decode cX5_change 42 = .ok (.aload_n 0, 1) := by decide +kernel
theorem dX5_change_43 : decode cX5_change 43 = .ok (.getfield 15, 3) := by decide +kernel
theorem dX5_change_46 : decode cX5_change 46 = .ok (.iload_n 1, 1) := by decide +kernel
theorem dX5_change_47 : decode cX5_change 47 = .ok (.iload_n 2, 1) := by decide +kernel
theorem dX5_change_48 : decode cX5_change 48 = .ok (.iload_n 3, 1) := by decide +kernel
theorem dX5_change_49 : decode cX5_change 49 = .ok (.invokevirtual 333, 3) := by decide +kernel
theorem dX5_change_52 : decode cX5_change 52 = .ok (.ireturn, 1) := by decide +kernel
theorem dX5_reject_0 : decode cX5_reject 0 = .ok (.aload_n 0, 1) := by decide +kernel
theorem dX5_reject_1 : decode cX5_reject 1 = .ok (.iload_n 1, 1) := by decide +kernel
theorem dX5_reject_2 : decode cX5_reject 2 = .ok (.putfield 56, 3) := by decide +kernel
theorem dX5_reject_5 : decode cX5_reject 5 = .ok (.aload_n 0, 1) := by decide +kernel
theorem dX5_reject_6 : decode cX5_reject 6 = .ok (.iload_n 2, 1) := by decide +kernel
theorem dX5_reject_7 : decode cX5_reject 7 = .ok (.putfield 59, 3) := by decide +kernel
theorem dX5_reject_10 : decode cX5_reject 10 = .ok (.aload_n 0, 1) := by decide +kernel
theorem dX5_reject_11 : decode cX5_reject 11 = .ok (.iload_n 3, 1) := by decide +kernel
theorem dX5_reject_12 : decode cX5_reject 12 = .ok (.putfield 62, 3) := by decide +kernel
theorem dX5_reject_15 : decode cX5_reject 15 = .ok (.new 351, 3) := by decide +kernel
theorem dX5_reject_18 : decode cX5_reject 18 = .ok (.dup, 1) := by decide +kernel
theorem dX5_reject_19 : decode cX5_reject 19 = .ok (.ldc_w 353, 3) := by decide +kernel
theorem dX5_reject_22 : decode cX5_reject 22 = .ok (.invokespecial 355, 3) := by decide +kernel
theorem dX5_reject_25 : decode cX5_reject 25 = .ok (.athrow, 1) := by decide +kernel
theorem dX5_requireRejection_0 : decode cX5_requireRejection 0 = .ok (.aload_n 0, 1) := by decide +kernel
theorem dX5_requireRejection_1 : decode cX5_requireRejection 1 = .ok (.getfield 56, 3) := by decide +kernel
theorem dX5_requireRejection_4 : decode cX5_requireRejection 4 = .ok (.ifCond .ne 14, 3) := by decide +kernel
theorem dX5_requireRejection_7 : decode cX5_requireRejection 7 = .ok (.new 95, 3) := by decide +kernel
theorem dX5_requireRejection_10 : decode cX5_requireRejection 10 = .ok (.dup, 1) := by decide +kernel
theorem dX5_requireRejection_11 : decode cX5_requireRejection 11 = .ok (.ldc_w 356, 3) := by decide +kernel
theorem dX5_requireRejection_14 : decode cX5_requireRejection 14 = .ok (.invokespecial 99, 3) := by decide +kernel
theorem dX5_requireRejection_17 : decode cX5_requireRejection 17 = .ok (.athrow, 1) := by decide +kernel
theorem dX5_requireRejection_18 : decode cX5_requireRejection 18 = .ok (.return_, 1) := by decide +kernel
theorem dX5_requireCourse_0 : decode cX5_requireCourse 0 = .ok (.iload_n 1, 1) := by decide +kernel
theorem dX5_requireCourse_1 : decode cX5_requireCourse 1 = .ok (.ifCond .lt 17, 3) := by decide +kernel
theorem dX5_requireCourse_4 : decode cX5_requireCourse 4 = .ok (.iload_n 1, 1) := by decide +kernel
theorem dX5_requireCourse_5 : decode cX5_requireCourse 5 = .ok (.aload_n 0, 1) := by decide +kernel
theorem dX5_requireCourse_6 : decode cX5_requireCourse 6 = .ok (.getfield 15, 3) := by decide +kernel
theorem dX5_requireCourse_9 : decode cX5_requireCourse 9 = .ok (.getfield 188, 3) := by decide +kernel
theorem dX5_requireCourse_12 : decode cX5_requireCourse 12 = .ok (.getfield 192, 3) := by decide +kernel
theorem dX5_requireCourse_15 : decode cX5_requireCourse 15 = .ok (.if_icmp .lt 14, 3) := by decide +kernel
theorem dX5_requireCourse_18 : decode cX5_requireCourse 18 = .ok (.new 152, 3) := by decide +kernel
theorem dX5_requireCourse_21 : decode cX5_requireCourse 21 = .ok (.dup, 1) := by decide +kernel
theorem dX5_requireCourse_22 : decode cX5_requireCourse 22 = .ok (.ldc_w 358, 3) := by decide +kernel
theorem dX5_requireCourse_25 : decode cX5_requireCourse 25 = .ok (.invokespecial 156, 3) := by decide +kernel
theorem dX5_requireCourse_28 : decode cX5_requireCourse 28 = .ok (.athrow, 1) := by decide +kernel
theorem dX5_requireCourse_29 : decode cX5_requireCourse 29 = .ok (.return_, 1) := by decide +kernel
theorem dX5_requireNeedle_0 : decode cX5_requireNeedle 0 = .ok (.iload_n 0, 1) := by decide +kernel
theorem dX5_requireNeedle_1 : decode cX5_requireNeedle 1 = .ok (.invokestatic 360, 3) := by decide +kernel
theorem dX5_requireNeedle_4 : decode cX5_requireNeedle 4 = .ok (.ifCond .ne 14, 3) := by decide +kernel
theorem dX5_requireNeedle_7 : decode cX5_requireNeedle 7 = .ok (.new 152, 3) := by decide +kernel
theorem dX5_requireNeedle_10 : decode cX5_requireNeedle 10 = .ok (.dup, 1) := by decide +kernel
theorem dX5_requireNeedle_11 : decode cX5_requireNeedle 11 = .ok (.ldc_w 363, 3) := by decide +kernel
theorem dX5_requireNeedle_14 : decode cX5_requireNeedle 14 = .ok (.invokespecial 156, 3) := by decide +kernel
theorem dX5_requireNeedle_17 : decode cX5_requireNeedle 17 = .ok (.athrow, 1) := by decide +kernel
theorem dX5_requireNeedle_18 : decode cX5_requireNeedle 18 = .ok (.return_, 1) := by decide +kernel
theorem dX5_requireFeeder_0 : decode cX5_requireFeeder 0 = .ok (.iload_n 0, 1) := by decide +kernel
theorem dX5_requireFeeder_1 : decode cX5_requireFeeder 1 = .ok (.invokestatic 365, 3) := by decide +kernel
theorem dX5_requireFeeder_4 : decode cX5_requireFeeder 4 = .ok (.ifCond .ne 14, 3) := by decide +kernel
theorem dX5_requireFeeder_7 : decode cX5_requireFeeder 7 = .ok (.new 152, 3) := by decide +kernel
theorem dX5_requireFeeder_10 : decode cX5_requireFeeder 10 = .ok (.dup, 1) := by decide +kernel
theorem dX5_requireFeeder_11 : decode cX5_requireFeeder 11 = .ok (.ldc_w 368, 3) := by decide +kernel
theorem dX5_requireFeeder_14 : decode cX5_requireFeeder 14 = .ok (.invokespecial 156, 3) := by decide +kernel
theorem dX5_requireFeeder_17 : decode cX5_requireFeeder 17 = .ok (.athrow, 1) := by decide +kernel
theorem dX5_requireFeeder_18 : decode cX5_requireFeeder 18 = .ok (.return_, 1) := by decide +kernel
theorem dX5_requireCourses_0 : decode cX5_requireCourses 0 = .ok (.iload_n 0, 1) := by decide +kernel
theorem dX5_requireCourses_1 : decode cX5_requireCourses 1 = .ok (.invokestatic 370, 3) := by decide +kernel
theorem dX5_requireCourses_4 : decode cX5_requireCourses 4 = .ok (.ifCond .ne 14, 3) := by decide +kernel
theorem dX5_requireCourses_7 : decode cX5_requireCourses 7 = .ok (.new 69, 3) := by decide +kernel
theorem dX5_requireCourses_10 : decode cX5_requireCourses 10 = .ok (.dup, 1) := by decide +kernel
theorem dX5_requireCourses_11 : decode cX5_requireCourses 11 = .ok (.ldc_w 373, 3) := by decide +kernel
theorem dX5_requireCourses_14 : decode cX5_requireCourses 14 = .ok (.invokespecial 73, 3) := by decide +kernel
theorem dX5_requireCourses_17 : decode cX5_requireCourses 17 = .ok (.athrow, 1) := by decide +kernel
theorem dX5_requireCourses_18 : decode cX5_requireCourses 18 = .ok (.return_, 1) := by decide +kernel
theorem dX5_isFeeder_0 : decode cX5_isFeeder 0 = .ok (.iload_n 0, 1) := by decide +kernel
theorem dX5_isFeeder_1 : decode cX5_isFeeder 1 = .ok (.ifCond .lt 12, 3) := by decide +kernel
theorem dX5_isFeeder_4 : decode cX5_isFeeder 4 = .ok (.iload_n 0, 1) := by decide +kernel
theorem dX5_isFeeder_5 : decode cX5_isFeeder 5 = .ok (.iconst 4, 1) := by decide +kernel
theorem dX5_isFeeder_6 : decode cX5_isFeeder 6 = .ok (.if_icmp .ge 7, 3) := by decide +kernel
theorem dX5_isFeeder_9 : decode cX5_isFeeder 9 = .ok (.iconst 1, 1) := by decide +kernel
theorem dX5_isFeeder_10 : decode cX5_isFeeder 10 = .ok (.goto 4, 3) := by decide +kernel
theorem dX5_isFeeder_13 : decode cX5_isFeeder 13 = .ok (.iconst 0, 1) := by decide +kernel
theorem dX5_isFeeder_14 : decode cX5_isFeeder 14 = .ok (.ireturn, 1) := by decide +kernel
theorem dX5_areUnits_0 : decode cX5_areUnits 0 = .ok (.iload_n 0, 1) := by decide +kernel
theorem dX5_areUnits_1 : decode cX5_areUnits 1 = .ok (.iconst 1, 1) := by decide +kernel
theorem dX5_areUnits_2 : decode cX5_areUnits 2 = .ok (.if_icmp .lt 13, 3) := by decide +kernel
theorem dX5_areUnits_5 : decode cX5_areUnits 5 = .ok (.iload_n 0, 1) := by decide +kernel
theorem dX5_areUnits_6 : decode cX5_areUnits 6 = .ok (.bipush 99, 2) := by decide +kernel
theorem dX5_areUnits_8 : decode cX5_areUnits 8 = .ok (.if_icmp .gt 7, 3) := by decide +kernel
theorem dX5_areUnits_11 : decode cX5_areUnits 11 = .ok (.iconst 1, 1) := by decide +kernel
theorem dX5_areUnits_12 : decode cX5_areUnits 12 = .ok (.goto 4, 3) := by decide +kernel
theorem dX5_areUnits_15 : decode cX5_areUnits 15 = .ok (.iconst 0, 1) := by decide +kernel
theorem dX5_areUnits_16 : decode cX5_areUnits 16 = .ok (.ireturn, 1) := by decide +kernel
theorem dX5_isTension_0 : decode cX5_isTension 0 = .ok (.iload_n 0, 1) := by decide +kernel
theorem dX5_isTension_1 : decode cX5_isTension 1 = .ok (.iconst 1, 1) := by decide +kernel
theorem dX5_isTension_2 : decode cX5_isTension 2 = .ok (.if_icmp .lt 13, 3) := by decide +kernel
theorem dX5_isTension_5 : decode cX5_isTension 5 = .ok (.iload_n 0, 1) := by decide +kernel
theorem dX5_isTension_6 : decode cX5_isTension 6 = .ok (.bipush 9, 2) := by decide +kernel
theorem dX5_isTension_8 : decode cX5_isTension 8 = .ok (.if_icmp .gt 7, 3) := by decide +kernel
theorem dX5_isTension_11 : decode cX5_isTension 11 = .ok (.iconst 1, 1) := by decide +kernel
theorem dX5_isTension_12 : decode cX5_isTension 12 = .ok (.goto 4, 3) := by decide +kernel
theorem dX5_isTension_15 : decode cX5_isTension 15 = .ok (.iconst 0, 1) := by decide +kernel
theorem dX5_isTension_16 : decode cX5_isTension 16 = .ok (.ireturn, 1) := by decide +kernel
theorem dX5_areCourses_0 : decode cX5_areCourses 0 = .ok (.iload_n 0, 1) := by decide +kernel
theorem dX5_areCourses_1 : decode cX5_areCourses 1 = .ok (.iconst 1, 1) := by decide +kernel
theorem dX5_areCourses_2 : decode cX5_areCourses 2 = .ok (.if_icmp .lt 13, 3) := by decide +kernel
theorem dX5_areCourses_5 : decode cX5_areCourses 5 = .ok (.iload_n 0, 1) := by decide +kernel
theorem dX5_areCourses_6 : decode cX5_areCourses 6 = .ok (.bipush 10, 2) := by decide +kernel
theorem dX5_areCourses_8 : decode cX5_areCourses 8 = .ok (.if_icmp .gt 7, 3) := by decide +kernel
theorem dX5_areCourses_11 : decode cX5_areCourses 11 = .ok (.iconst 1, 1) := by decide +kernel
theorem dX5_areCourses_12 : decode cX5_areCourses 12 = .ok (.goto 4, 3) := by decide +kernel
theorem dX5_areCourses_15 : decode cX5_areCourses 15 = .ok (.iconst 0, 1) := by decide +kernel
theorem dX5_areCourses_16 : decode cX5_areCourses 16 = .ok (.ireturn, 1) := by decide +kernel
