theorem dX5_init_0 : decode cX5_init 0 = .ok (.aload_n 0, 1) := by decide +kernel
theorem dX5_init_1 : decode cX5_init 1 = .ok (.invokespecial 1, 3) := by decide +kernel
theorem dX5_init_4 : decode cX5_init 4 = .ok (.new 7, 3) := by decide +kernel
theorem dX5_init_7 : decode cX5_init 7 = .ok (.dup, 1) := by decide +kernel
theorem dX5_init_8 : decode cX5_init 8 = .ok (.invokespecial 9, 3) := by decide +kernel
theorem dX5_init_11 : decode cX5_init 11 = .ok (.astore_n 1, 1) := by decide +kernel
theorem dX5_init_12 : decode cX5_init 12 = .ok (.aload_n 0, 1) := by decide +kernel
theorem dX5_init_13 : decode cX5_init 13 = .ok (.new 10, 3) := by decide +kernel
theorem dX5_init_16 : decode cX5_init 16 = .ok (.dup, 1) := by decide +kernel
theorem dX5_init_17 : decode cX5_init 17 = .ok (.aload_n 1, 1) := by decide +kernel
theorem dX5_init_18 : decode cX5_init 18 = .ok (.invokespecial 12, 3) := by decide +kernel
theorem dX5_init_21 : decode cX5_init 21 = .ok (.putfield 15, 3) := by decide +kernel
theorem dX5_init_24 : decode cX5_init 24 = .ok (.aload_n 0, 1) := by decide +kernel
theorem dX5_init_25 : decode cX5_init 25 = .ok (.new 10, 3) := by decide +kernel
theorem dX5_init_28 : decode cX5_init 28 = .ok (.dup, 1) := by decide +kernel
theorem dX5_init_29 : decode cX5_init 29 = .ok (.aload_n 1, 1) := by decide +kernel
theorem dX5_init_30 : decode cX5_init 30 = .ok (.invokespecial 12, 3) := by decide +kernel
theorem dX5_init_33 : decode cX5_init 33 = .ok (.putfield 21, 3) := by decide +kernel
theorem dX5_init_36 : decode cX5_init 36 = .ok (.aload_n 0, 1) := by decide +kernel
theorem dX5_init_37 : decode cX5_init 37 = .ok (.new 10, 3) := by decide +kernel
theorem dX5_init_40 : decode cX5_init 40 = .ok (.dup, 1) := by decide +kernel
theorem dX5_init_41 : decode cX5_init 41 = .ok (.aload_n 1, 1) := by decide +kernel
theorem dX5_init_42 : decode cX5_init 42 = .ok (.invokespecial 12, 3) := by decide +kernel
theorem dX5_init_45 : decode cX5_init 45 = .ok (.putfield 24, 3) := by decide +kernel
theorem dX5_init_48 : decode cX5_init 48 = .ok (.aload_n 0, 1) := by decide +kernel
theorem dX5_init_49 : decode cX5_init 49 = .ok (.new 27, 3) := by decide +kernel
theorem dX5_init_52 : decode cX5_init 52 = .ok (.dup, 1) := by decide +kernel
theorem dX5_init_53 : decode cX5_init 53 = .ok (.aload_n 1, 1) := by decide +kernel
theorem dX5_init_54 : decode cX5_init 54 = .ok (.invokespecial 29, 3) := by decide +kernel
theorem dX5_init_57 : decode cX5_init 57 = .ok (.putfield 30, 3) := by decide +kernel
theorem dX5_init_60 : decode cX5_init 60 = .ok (.aload_n 0, 1) := by decide +kernel
theorem dX5_init_61 : decode cX5_init 61 = .ok (.new 34, 3) := by decide +kernel
theorem dX5_init_64 : decode cX5_init 64 = .ok (.dup, 1) := by decide +kernel
theorem dX5_init_65 : decode cX5_init 65 = .ok (.invokespecial 36, 3) := by decide +kernel
theorem dX5_init_68 : decode cX5_init 68 = .ok (.putfield 37, 3) := by decide +kernel
theorem dX5_init_71 : decode cX5_init 71 = .ok (.aload_n 0, 1) := by decide +kernel
theorem dX5_init_72 : decode cX5_init 72 = .ok (.new 41, 3) := by decide +kernel
theorem dX5_init_75 : decode cX5_init 75 = .ok (.dup, 1) := by decide +kernel
theorem dX5_init_76 : decode cX5_init 76 = .ok (.invokespecial 43, 3) := by decide +kernel
theorem dX5_init_79 : decode cX5_init 79 = .ok (.putfield 44, 3) := by decide +kernel
theorem dX5_init_82 : decode cX5_init 82 = .ok (.aload_n 0, 1) := by decide +kernel
theorem dX5_init_83 : decode cX5_init 83 = .ok (.iconst 0, 1) := by decide +kernel
theorem dX5_init_84 : decode cX5_init 84 = .ok (.putfield 48, 3) := by decide +kernel
theorem dX5_init_87 : decode cX5_init 87 = .ok (.aload_n 0, 1) := by decide +kernel
theorem dX5_init_88 : decode cX5_init 88 = .ok (.iconst (-1), 1) := by decide +kernel
theorem dX5_init_89 : decode cX5_init 89 = .ok (.putfield 52, 3) := by decide +kernel
theorem dX5_init_92 : decode cX5_init 92 = .ok (.aload_n 0, 1) := by decide +kernel
theorem dX5_init_93 : decode cX5_init 93 = .ok (.iconst 0, 1) := by decide +kernel
theorem dX5_init_94 : decode cX5_init 94 = .ok (.putfield 56, 3) := by decide +kernel
theorem dX5_init_97 : decode cX5_init 97 = .ok (.aload_n 0, 1) := by decide +kernel
theorem dX5_init_98 : decode cX5_init 98 = .ok (.iconst 0, 1) := by decide +kernel
theorem dX5_init_99 : decode cX5_init 99 = .ok (.putfield 59, 3) := by decide +kernel
theorem dX5_init_102 : decode cX5_init 102 = .ok (.aload_n 0, 1) := by decide +kernel
theorem dX5_init_103 : decode cX5_init 103 = .ok (.iconst 0, 1) := by decide +kernel
theorem dX5_init_104 : decode cX5_init 104 = .ok (.putfield 62, 3) := by decide +kernel
theorem dX5_init_107 : decode cX5_init 107 = .ok (.return_, 1) := by decide +kernel
theorem dX5_castOn_0 : decode cX5_castOn 0 = .ok (.iload_n 1, 1) := by decide +kernel
theorem dX5_castOn_1 : decode cX5_castOn 1 = .ok (.invokestatic 65, 3) := by decide +kernel
theorem dX5_castOn_4 : decode cX5_castOn 4 = .ok (.iload_n 2, 1) := by decide +kernel
theorem dX5_castOn_5 : decode cX5_castOn 5 = .ok (.invokestatic 65, 3) := by decide +kernel
theorem dX5_castOn_8 : decode cX5_castOn 8 = .ok (.iload_n 1, 1) := by decide +kernel
theorem dX5_castOn_9 : decode cX5_castOn 9 = .ok (.iload_n 2, 1) := by decide +kernel
theorem dX5_castOn_10 : decode cX5_castOn 10 = .ok (.if_icmp .le 13, 3) := by decide +kernel
theorem dX5_castOn_13 : decode cX5_castOn 13 = .ok (.new 69, 3) := by decide +kernel
theorem dX5_castOn_16 : decode cX5_castOn 16 = .ok (.dup, 1) := by decide +kernel
theorem dX5_castOn_17 : decode cX5_castOn 17 = .ok (.ldc 71, 2) := by decide +kernel
theorem dX5_castOn_19 : decode cX5_castOn 19 = .ok (.invokespecial 73, 3) := by decide +kernel
theorem dX5_castOn_22 : decode cX5_castOn 22 = .ok (.athrow, 1) := by decide +kernel
theorem dX5_castOn_23 : decode cX5_castOn 23 = .ok (.aload_n 0, 1) := by decide +kernel
theorem dX5_castOn_24 : decode cX5_castOn 24 = .ok (.bipush 99, 2) := by decide +kernel
theorem dX5_castOn_26 : decode cX5_castOn 26 = .ok (.iload_n 1, 1) := by decide +kernel
theorem dX5_castOn_27 : decode cX5_castOn 27 = .ok (.iload_n 2, 1) := by decide +kernel
theorem dX5_castOn_28 : decode cX5_castOn 28 = .ok (.invokevirtual 76, 3) := by decide +kernel
theorem dX5_castOn_31 : decode cX5_castOn 31 = .ok (.ireturn, 1) := by decide +kernel
theorem dX5_castOff_0 : decode cX5_castOff 0 = .ok (.aload_n 0, 1) := by decide +kernel
theorem dX5_castOff_1 : decode cX5_castOff 1 = .ok (.bipush 120, 2) := by decide +kernel
theorem dX5_castOff_3 : decode cX5_castOff 3 = .ok (.iconst 0, 1) := by decide +kernel
theorem dX5_castOff_4 : decode cX5_castOff 4 = .ok (.iconst 0, 1) := by decide +kernel
theorem dX5_castOff_5 : decode cX5_castOff 5 = .ok (.invokevirtual 76, 3) := by decide +kernel
theorem dX5_castOff_8 : decode cX5_castOff 8 = .ok (.ireturn, 1) := by decide +kernel
theorem dX5_hold_0 : decode cX5_hold 0 = .ok (.iload_n 1, 1) := by decide +kernel
theorem dX5_hold_1 : decode cX5_hold 1 = .ok (.invokestatic 65, 3) := by decide +kernel
theorem dX5_hold_4 : decode cX5_hold 4 = .ok (.aload_n 0, 1) := by decide +kernel
theorem dX5_hold_5 : decode cX5_hold 5 = .ok (.bipush 104, 2) := by decide +kernel
theorem dX5_hold_7 : decode cX5_hold 7 = .ok (.iload_n 1, 1) := by decide +kernel
theorem dX5_hold_8 : decode cX5_hold 8 = .ok (.iconst 0, 1) := by decide +kernel
theorem dX5_hold_9 : decode cX5_hold 9 = .ok (.invokevirtual 76, 3) := by decide +kernel
theorem dX5_hold_12 : decode cX5_hold 12 = .ok (.ireturn, 1) := by decide +kernel
theorem dX5_release_0 : decode cX5_release 0 = .ok (.iload_n 1, 1) := by decide +kernel
theorem dX5_release_1 : decode cX5_release 1 = .ok (.invokestatic 65, 3) := by decide +kernel
theorem dX5_release_4 : decode cX5_release 4 = .ok (.aload_n 0, 1) := by decide +kernel
theorem dX5_release_5 : decode cX5_release 5 = .ok (.bipush 114, 2) := by decide +kernel
theorem dX5_release_7 : decode cX5_release 7 = .ok (.iload_n 1, 1) := by decide +kernel
theorem dX5_release_8 : decode cX5_release 8 = .ok (.iconst 0, 1) := by decide +kernel
theorem dX5_release_9 : decode cX5_release 9 = .ok (.invokevirtual 76, 3) := by decide +kernel
theorem dX5_release_12 : decode cX5_release 12 = .ok (.ireturn, 1) := by decide +kernel
theorem dX5_dropStitch_0 : decode cX5_dropStitch 0 = .ok (.iload_n 1, 1) := by decide +kernel
theorem dX5_dropStitch_1 : decode cX5_dropStitch 1 = .ok (.invokestatic 65, 3) := by decide +kernel
theorem dX5_dropStitch_4 : decode cX5_dropStitch 4 = .ok (.aload_n 0, 1) := by decide +kernel
theorem dX5_dropStitch_5 : decode cX5_dropStitch 5 = .ok (.bipush 100, 2) := by decide +kernel
theorem dX5_dropStitch_7 : decode cX5_dropStitch 7 = .ok (.iload_n 1, 1) := by decide +kernel
theorem dX5_dropStitch_8 : decode cX5_dropStitch 8 = .ok (.iconst 0, 1) := by decide +kernel
theorem dX5_dropStitch_9 : decode cX5_dropStitch 9 = .ok (.invokevirtual 76, 3) := by decide +kernel
theorem dX5_dropStitch_12 : decode cX5_dropStitch 12 = .ok (.ireturn, 1) := by decide +kernel
theorem dX5_pickUp_0 : decode cX5_pickUp 0 = .ok (.iload_n 1, 1) := by decide +kernel
theorem dX5_pickUp_1 : decode cX5_pickUp 1 = .ok (.invokestatic 65, 3) := by decide +kernel
theorem dX5_pickUp_4 : decode cX5_pickUp 4 = .ok (.aload_n 0, 1) := by decide +kernel
theorem dX5_pickUp_5 : decode cX5_pickUp 5 = .ok (.bipush 117, 2) := by decide +kernel
theorem dX5_pickUp_7 : decode cX5_pickUp 7 = .ok (.iload_n 1, 1) := by decide +kernel
theorem dX5_pickUp_8 : decode cX5_pickUp 8 = .ok (.iconst 0, 1) := by decide +kernel
theorem dX5_pickUp_9 : decode cX5_pickUp 9 = .ok (.invokevirtual 76, 3) := by decide +kernel
theorem dX5_pickUp_12 : decode cX5_pickUp 12 = .ok (.ireturn, 1) := by decide +kernel
theorem dX5_transfer_0 : decode cX5_transfer 0 = .ok (.iload_n 1, 1) := by decide +kernel
theorem dX5_transfer_1 : decode cX5_transfer 1 = .ok (.invokestatic 65, 3) := by decide +kernel
theorem dX5_transfer_4 : decode cX5_transfer 4 = .ok (.aload_n 0, 1) := by decide +kernel
theorem dX5_transfer_5 : decode cX5_transfer 5 = .ok (.iload_n 2, 1) := by decide +kernel
theorem dX5_transfer_6 : decode cX5_transfer 6 = .ok (.ifCond .eq 8, 3) := by decide +kernel
theorem dX5_transfer_9 : decode cX5_transfer 9 = .ok (.bipush 103, 2) := by decide +kernel
theorem dX5_transfer_11 : decode cX5_transfer 11 = .ok (.goto 5, 3) := by decide +kernel
theorem dX5_transfer_14 : decode cX5_transfer 14 = .ok (.bipush 108, 2) := by decide +kernel
theorem dX5_transfer_16 : decode cX5_transfer 16 = .ok (.iload_n 1, 1) := by decide +kernel
theorem dX5_transfer_17 : decode cX5_transfer 17 = .ok (.iconst 0, 1) := by decide +kernel
theorem dX5_transfer_18 : decode cX5_transfer 18 = .ok (.invokevirtual 76, 3) := by decide +kernel
theorem dX5_transfer_21 : decode cX5_transfer 21 = .ok (.ireturn, 1) := by decide +kernel
theorem dX5_isInWork_0 : decode cX5_isInWork 0 = .ok (.iload_n 1, 1) := by decide +kernel
theorem dX5_isInWork_1 : decode cX5_isInWork 1 = .ok (.invokestatic 65, 3) := by decide +kernel
theorem dX5_isInWork_4 : decode cX5_isInWork 4 = .ok (.aload_n 0, 1) := by decide +kernel
theorem dX5_isInWork_5 : decode cX5_isInWork 5 = .ok (.getfield 15, 3) := by decide +kernel
theorem dX5_isInWork_8 : decode cX5_isInWork 8 = .ok (.getfield 80, 3) := by decide +kernel
theorem dX5_isInWork_11 : decode cX5_isInWork 11 = .ok (.iload_n 1, 1) := by decide +kernel
theorem dX5_isInWork_12 : decode cX5_isInWork 12 = .ok (.invokevirtual 84, 3) := by decide +kernel
theorem dX5_isInWork_15 : decode cX5_isInWork 15 = .ok (.ireturn, 1) := by decide +kernel
theorem dX5_isOnHold_0 : decode cX5_isOnHold 0 = .ok (.iload_n 1, 1) := by decide +kernel
theorem dX5_isOnHold_1 : decode cX5_isOnHold 1 = .ok (.invokestatic 65, 3) := by decide +kernel
theorem dX5_isOnHold_4 : decode cX5_isOnHold 4 = .ok (.aload_n 0, 1) := by decide +kernel
theorem dX5_isOnHold_5 : decode cX5_isOnHold 5 = .ok (.getfield 15, 3) := by decide +kernel
theorem dX5_isOnHold_8 : decode cX5_isOnHold 8 = .ok (.getfield 80, 3) := by decide +kernel
theorem dX5_isOnHold_11 : decode cX5_isOnHold 11 = .ok (.iload_n 1, 1) := by decide +kernel
theorem dX5_isOnHold_12 : decode cX5_isOnHold 12 = .ok (.invokevirtual 88, 3) := by decide +kernel
theorem dX5_isOnHold_15 : decode cX5_isOnHold 15 = .ok (.ireturn, 1) := by decide +kernel
theorem dX5_loopsOn_0 : decode cX5_loopsOn 0 = .ok (.iload_n 1, 1) := by decide +kernel
theorem dX5_loopsOn_1 : decode cX5_loopsOn 1 = .ok (.invokestatic 65, 3) := by decide +kernel
theorem dX5_loopsOn_4 : decode cX5_loopsOn 4 = .ok (.aload_n 0, 1) := by decide +kernel
theorem dX5_loopsOn_5 : decode cX5_loopsOn 5 = .ok (.getfield 15, 3) := by decide +kernel
theorem dX5_loopsOn_8 : decode cX5_loopsOn 8 = .ok (.getfield 80, 3) := by decide +kernel
theorem dX5_loopsOn_11 : decode cX5_loopsOn 11 = .ok (.getfield 91, 3) := by decide +kernel
theorem dX5_loopsOn_14 : decode cX5_loopsOn 14 = .ok (.iload_n 1, 1) := by decide +kernel
theorem dX5_loopsOn_15 : decode cX5_loopsOn 15 = .ok (.iaload, 1) := by decide +kernel
theorem dX5_loopsOn_16 : decode cX5_loopsOn 16 = .ok (.ireturn, 1) := by decide +kernel
theorem dX5_ageOn_0 : decode cX5_ageOn 0 = .ok (.iload_n 1, 1) := by decide +kernel
theorem dX5_ageOn_1 : decode cX5_ageOn 1 = .ok (.invokestatic 65, 3) := by decide +kernel
theorem dX5_ageOn_4 : decode cX5_ageOn 4 = .ok (.aload_n 0, 1) := by decide +kernel
theorem dX5_ageOn_5 : decode cX5_ageOn 5 = .ok (.getfield 15, 3) := by decide +kernel
theorem dX5_ageOn_8 : decode cX5_ageOn 8 = .ok (.getfield 80, 3) := by decide +kernel
theorem dX5_ageOn_11 : decode cX5_ageOn 11 = .ok (.getfield 91, 3) := by decide +kernel
theorem dX5_ageOn_14 : decode cX5_ageOn 14 = .ok (.iload_n 1, 1) := by decide +kernel
theorem dX5_ageOn_15 : decode cX5_ageOn 15 = .ok (.iaload, 1) := by decide +kernel
theorem dX5_ageOn_16 : decode cX5_ageOn 16 = .ok (.ifCond .ne 13, 3) := by decide +kernel
theorem dX5_ageOn_19 : decode cX5_ageOn 19 = .ok (.new 95, 3) := by decide +kernel
theorem dX5_ageOn_22 : decode cX5_ageOn 22 = .ok (.dup, 1) := by decide +kernel
theorem dX5_ageOn_23 : decode cX5_ageOn 23 = .ok (.ldc 97, 2) := by decide +kernel
theorem dX5_ageOn_25 : decode cX5_ageOn 25 = .ok (.invokespecial 99, 3) := by decide +kernel
theorem dX5_ageOn_28 : decode cX5_ageOn 28 = .ok (.athrow, 1) := by decide +kernel
theorem dX5_ageOn_29 : decode cX5_ageOn 29 = .ok (.aload_n 0, 1) := by decide +kernel
theorem dX5_ageOn_30 : decode cX5_ageOn 30 = .ok (.getfield 15, 3) := by decide +kernel
theorem dX5_ageOn_33 : decode cX5_ageOn 33 = .ok (.getfield 80, 3) := by decide +kernel
theorem dX5_ageOn_36 : decode cX5_ageOn 36 = .ok (.getfield 100, 3) := by decide +kernel
theorem dX5_ageOn_39 : decode cX5_ageOn 39 = .ok (.iload_n 1, 1) := by decide +kernel
theorem dX5_ageOn_40 : decode cX5_ageOn 40 = .ok (.iaload, 1) := by decide +kernel
theorem dX5_ageOn_41 : decode cX5_ageOn 41 = .ok (.ireturn, 1) := by decide +kernel
theorem dX5_needlesInWork_0 : decode cX5_needlesInWork 0 = .ok (.aload_n 0, 1) := by decide +kernel
theorem dX5_needlesInWork_1 : decode cX5_needlesInWork 1 = .ok (.getfield 15, 3) := by decide +kernel
theorem dX5_needlesInWork_4 : decode cX5_needlesInWork 4 = .ok (.getfield 80, 3) := by decide +kernel
theorem dX5_needlesInWork_7 : decode cX5_needlesInWork 7 = .ok (.invokevirtual 103, 3) := by decide +kernel
theorem dX5_needlesInWork_10 : decode cX5_needlesInWork 10 = .ok (.ireturn, 1) := by decide +kernel
theorem dX5_needlesOnHold_0 : decode cX5_needlesOnHold 0 = .ok (.aload_n 0, 1) := by decide +kernel
theorem dX5_needlesOnHold_1 : decode cX5_needlesOnHold 1 = .ok (.getfield 15, 3) := by decide +kernel
theorem dX5_needlesOnHold_4 : decode cX5_needlesOnHold 4 = .ok (.getfield 80, 3) := by decide +kernel
theorem dX5_needlesOnHold_7 : decode cX5_needlesOnHold 7 = .ok (.invokevirtual 107, 3) := by decide +kernel
theorem dX5_needlesOnHold_10 : decode cX5_needlesOnHold 10 = .ok (.ireturn, 1) := by decide +kernel
theorem dX5_loopCount_0 : decode cX5_loopCount 0 = .ok (.aload_n 0, 1) := by decide +kernel
theorem dX5_loopCount_1 : decode cX5_loopCount 1 = .ok (.getfield 15, 3) := by decide +kernel
theorem dX5_loopCount_4 : decode cX5_loopCount 4 = .ok (.getfield 80, 3) := by decide +kernel
theorem dX5_loopCount_7 : decode cX5_loopCount 7 = .ok (.invokevirtual 110, 3) := by decide +kernel
theorem dX5_loopCount_10 : decode cX5_loopCount 10 = .ok (.ireturn, 1) := by decide +kernel
theorem dX5_longestRun_0 : decode cX5_longestRun 0 = .ok (.aload_n 0, 1) := by decide +kernel
theorem dX5_longestRun_1 : decode cX5_longestRun 1 = .ok (.getfield 15, 3) := by decide +kernel
theorem dX5_longestRun_4 : decode cX5_longestRun 4 = .ok (.getfield 80, 3) := by decide +kernel
theorem dX5_longestRun_7 : decode cX5_longestRun 7 = .ok (.invokevirtual 113, 3) := by decide +kernel
theorem dX5_longestRun_10 : decode cX5_longestRun 10 = .ok (.ireturn, 1) := by decide +kernel
theorem dX5_longestRunByMask_0 : decode cX5_longestRunByMask 0 = .ok (.aload_n 0, 1) := by decide +kernel
theorem dX5_longestRunByMask_1 : decode cX5_longestRunByMask 1 = .ok (.getfield 15, 3) := by decide +kernel
theorem dX5_longestRunByMask_4 : decode cX5_longestRunByMask 4 = .ok (.getfield 80, 3) := by decide +kernel
theorem dX5_longestRunByMask_7 : decode cX5_longestRunByMask 7 = .ok (.invokevirtual 116, 3) := by decide +kernel
theorem dX5_longestRunByMask_10 : decode cX5_longestRunByMask 10 = .ok (.ireturn, 1) := by decide +kernel
theorem dX5_nextDropped_0 : decode cX5_nextDropped 0 = .ok (.iload_n 1, 1) := by decide +kernel
theorem dX5_nextDropped_1 : decode cX5_nextDropped 1 = .ok (.invokestatic 65, 3) := by decide +kernel
theorem dX5_nextDropped_4 : decode cX5_nextDropped 4 = .ok (.aload_n 0, 1) := by decide +kernel
theorem dX5_nextDropped_5 : decode cX5_nextDropped 5 = .ok (.getfield 15, 3) := by decide +kernel
theorem dX5_nextDropped_8 : decode cX5_nextDropped 8 = .ok (.getfield 80, 3) := by decide +kernel
theorem dX5_nextDropped_11 : decode cX5_nextDropped 11 = .ok (.iload_n 1, 1) := by decide +kernel
theorem dX5_nextDropped_12 : decode cX5_nextDropped 12 = .ok (.invokevirtual 119, 3) := by decide +kernel
theorem dX5_nextDropped_15 : decode cX5_nextDropped 15 = .ok (.istore_n 2, 1) := by decide +kernel
theorem dX5_nextDropped_16 : decode cX5_nextDropped 16 = .ok (.iload_n 2, 1) := by decide +kernel
theorem dX5_nextDropped_17 : decode cX5_nextDropped 17 = .ok (.iconst (-1), 1) := by decide +kernel
theorem dX5_nextDropped_18 : decode cX5_nextDropped 18 = .ok (.if_icmp .ne 13, 3) := by decide +kernel
theorem dX5_nextDropped_21 : decode cX5_nextDropped 21 = .ok (.new 95, 3) := by decide +kernel
theorem dX5_nextDropped_24 : decode cX5_nextDropped 24 = .ok (.dup, 1) := by decide +kernel
theorem dX5_nextDropped_25 : decode cX5_nextDropped 25 = .ok (.ldc 123, 2) := by decide +kernel
theorem dX5_nextDropped_27 : decode cX5_nextDropped 27 = .ok (.invokespecial 99, 3) := by decide +kernel
theorem dX5_nextDropped_30 : decode cX5_nextDropped 30 = .ok (.athrow, 1) := by decide +kernel
theorem dX5_nextDropped_31 : decode cX5_nextDropped 31 = .ok (.iload_n 2, 1) := by decide +kernel
theorem dX5_nextDropped_32 : decode cX5_nextDropped 32 = .ok (.ireturn, 1) := by decide +kernel
theorem dX5_addYarn_0 : decode cX5_addYarn 0 = .ok (.iload_n 1, 1) := by decide +kernel
theorem dX5_addYarn_1 : decode cX5_addYarn 1 = .ok (.invokestatic 125, 3) := by decide +kernel
theorem dX5_addYarn_4 : decode cX5_addYarn 4 = .ok (.iload_n 2, 1) := by decide +kernel
theorem dX5_addYarn_5 : decode cX5_addYarn 5 = .ok (.invokestatic 128, 3) := by decide +kernel
theorem dX5_addYarn_8 : decode cX5_addYarn 8 = .ok (.ifCond .ne 13, 3) := by decide +kernel
theorem dX5_addYarn_11 : decode cX5_addYarn 11 = .ok (.new 69, 3) := by decide +kernel
theorem dX5_addYarn_14 : decode cX5_addYarn 14 = .ok (.dup, 1) := by decide +kernel
theorem dX5_addYarn_15 : decode cX5_addYarn 15 = .ok (.ldc 131, 2) := by decide +kernel
theorem dX5_addYarn_17 : decode cX5_addYarn 17 = .ok (.invokespecial 73, 3) := by decide +kernel
theorem dX5_addYarn_20 : decode cX5_addYarn 20 = .ok (.athrow, 1) := by decide +kernel
theorem dX5_addYarn_21 : decode cX5_addYarn 21 = .ok (.aload_n 0, 1) := by decide +kernel
theorem dX5_addYarn_22 : decode cX5_addYarn 22 = .ok (.bipush 121, 2) := by decide +kernel
theorem dX5_addYarn_24 : decode cX5_addYarn 24 = .ok (.iload_n 1, 1) := by decide +kernel
theorem dX5_addYarn_25 : decode cX5_addYarn 25 = .ok (.iload_n 2, 1) := by decide +kernel
theorem dX5_addYarn_26 : decode cX5_addYarn 26 = .ok (.invokevirtual 76, 3) := by decide +kernel
theorem dX5_addYarn_29 : decode cX5_addYarn 29 = .ok (.ireturn, 1) := by decide +kernel
theorem dX5_selectFeeder_0 : decode cX5_selectFeeder 0 = .ok (.iload_n 1, 1) := by decide +kernel
theorem dX5_selectFeeder_1 : decode cX5_selectFeeder 1 = .ok (.invokestatic 125, 3) := by decide +kernel
theorem dX5_selectFeeder_4 : decode cX5_selectFeeder 4 = .ok (.aload_n 0, 1) := by decide +kernel
theorem dX5_selectFeeder_5 : decode cX5_selectFeeder 5 = .ok (.bipush 102, 2) := by decide +kernel
theorem dX5_selectFeeder_7 : decode cX5_selectFeeder 7 = .ok (.iload_n 1, 1) := by decide +kernel
theorem dX5_selectFeeder_8 : decode cX5_selectFeeder 8 = .ok (.iconst 0, 1) := by decide +kernel
theorem dX5_selectFeeder_9 : decode cX5_selectFeeder 9 = .ok (.invokevirtual 76, 3) := by decide +kernel
theorem dX5_selectFeeder_12 : decode cX5_selectFeeder 12 = .ok (.ireturn, 1) := by decide +kernel
theorem dX5_setTension_0 : decode cX5_setTension 0 = .ok (.iload_n 1, 1) := by decide +kernel
theorem dX5_setTension_1 : decode cX5_setTension 1 = .ok (.invokestatic 133, 3) := by decide +kernel
theorem dX5_setTension_4 : decode cX5_setTension 4 = .ok (.ifCond .ne 13, 3) := by decide +kernel
theorem dX5_setTension_7 : decode cX5_setTension 7 = .ok (.new 69, 3) := by decide +kernel
theorem dX5_setTension_10 : decode cX5_setTension 10 = .ok (.dup, 1) := by decide +kernel
theorem dX5_setTension_11 : decode cX5_setTension 11 = .ok (.ldc 136, 2) := by decide +kernel
theorem dX5_setTension_13 : decode cX5_setTension 13 = .ok (.invokespecial 73, 3) := by decide +kernel
theorem dX5_setTension_16 : decode cX5_setTension 16 = .ok (.athrow, 1) := by decide +kernel
theorem dX5_setTension_17 : decode cX5_setTension 17 = .ok (.aload_n 0, 1) := by decide +kernel
theorem dX5_setTension_18 : decode cX5_setTension 18 = .ok (.bipush 116, 2) := by decide +kernel
theorem dX5_setTension_20 : decode cX5_setTension 20 = .ok (.iload_n 1, 1) := by decide +kernel
theorem dX5_setTension_21 : decode cX5_setTension 21 = .ok (.iconst 0, 1) := by decide +kernel
theorem dX5_setTension_22 : decode cX5_setTension 22 = .ok (.invokevirtual 76, 3) := by decide +kernel
theorem dX5_setTension_25 : decode cX5_setTension 25 = .ok (.ireturn, 1) := by decide +kernel
theorem dX5_addPatternRow_0 : decode cX5_addPatternRow 0 = .ok (.iload_n 1, 1) := by decide +kernel
theorem dX5_addPatternRow_1 : decode cX5_addPatternRow 1 = .ok (.ifCond .lt 10, 3) := by decide +kernel
theorem dX5_addPatternRow_4 : decode cX5_addPatternRow 4 = .ok (.iload_n 1, 1) := by decide +kernel
theorem dX5_addPatternRow_5 : decode cX5_addPatternRow 5 = .ok (.sipush 255, 3) := by decide +kernel
theorem dX5_addPatternRow_8 : decode cX5_addPatternRow 8 = .ok (.if_icmp .le 13, 3) := by decide +kernel
theorem dX5_addPatternRow_11 : decode cX5_addPatternRow 11 = .ok (.new 69, 3) := by decide +kernel
theorem dX5_addPatternRow_14 : decode cX5_addPatternRow 14 = .ok (.dup, 1) := by decide +kernel
theorem dX5_addPatternRow_15 : decode cX5_addPatternRow 15 = .ok (.ldc 138, 2) := by decide +kernel
theorem dX5_addPatternRow_17 : decode cX5_addPatternRow 17 = .ok (.invokespecial 73, 3) := by decide +kernel
theorem dX5_addPatternRow_20 : decode cX5_addPatternRow 20 = .ok (.athrow, 1) := by decide +kernel
theorem dX5_addPatternRow_21 : decode cX5_addPatternRow 21 = .ok (.aload_n 0, 1) := by decide +kernel
theorem dX5_addPatternRow_22 : decode cX5_addPatternRow 22 = .ok (.bipush 112, 2) := by decide +kernel
theorem dX5_addPatternRow_24 : decode cX5_addPatternRow 24 = .ok (.iload_n 1, 1) := by decide +kernel
theorem dX5_addPatternRow_25 : decode cX5_addPatternRow 25 = .ok (.iconst 0, 1) := by decide +kernel
theorem dX5_addPatternRow_26 : decode cX5_addPatternRow 26 = .ok (.invokevirtual 76, 3) := by decide +kernel
theorem dX5_addPatternRow_29 : decode cX5_addPatternRow 29 = .ok (.ireturn, 1) := by decide +kernel
theorem dX5_clearPattern_0 : decode cX5_clearPattern 0 = .ok (.aload_n 0, 1) := by decide +kernel
theorem dX5_clearPattern_1 : decode cX5_clearPattern 1 = .ok (.bipush 113, 2) := by decide +kernel
theorem dX5_clearPattern_3 : decode cX5_clearPattern 3 = .ok (.iconst 0, 1) := by decide +kernel
theorem dX5_clearPattern_4 : decode cX5_clearPattern 4 = .ok (.iconst 0, 1) := by decide +kernel
theorem dX5_clearPattern_5 : decode cX5_clearPattern 5 = .ok (.invokevirtual 76, 3) := by decide +kernel
theorem dX5_clearPattern_8 : decode cX5_clearPattern 8 = .ok (.ireturn, 1) := by decide +kernel
theorem dX5_yarnIn_0 : decode cX5_yarnIn 0 = .ok (.iload_n 1, 1) := by decide +kernel
theorem dX5_yarnIn_1 : decode cX5_yarnIn 1 = .ok (.invokestatic 125, 3) := by decide +kernel
theorem dX5_yarnIn_4 : decode cX5_yarnIn 4 = .ok (.aload_n 0, 1) := by decide +kernel
theorem dX5_yarnIn_5 : decode cX5_yarnIn 5 = .ok (.getfield 15, 3) := by decide +kernel
theorem dX5_yarnIn_8 : decode cX5_yarnIn 8 = .ok (.getfield 140, 3) := by decide +kernel
theorem dX5_yarnIn_11 : decode cX5_yarnIn 11 = .ok (.iload_n 1, 1) := by decide +kernel
theorem dX5_yarnIn_12 : decode cX5_yarnIn 12 = .ok (.iaload, 1) := by decide +kernel
theorem dX5_yarnIn_13 : decode cX5_yarnIn 13 = .ok (.ireturn, 1) := by decide +kernel
theorem dX5_activeFeeder_0 : decode cX5_activeFeeder 0 = .ok (.aload_n 0, 1) := by decide +kernel
theorem dX5_activeFeeder_1 : decode cX5_activeFeeder 1 = .ok (.getfield 15, 3) := by decide +kernel
theorem dX5_activeFeeder_4 : decode cX5_activeFeeder 4 = .ok (.getfield 143, 3) := by decide +kernel
theorem dX5_activeFeeder_7 : decode cX5_activeFeeder 7 = .ok (.ireturn, 1) := by decide +kernel
theorem dX5_tension_0 : decode cX5_tension 0 = .ok (.aload_n 0, 1) := by decide +kernel
theorem dX5_tension_1 : decode cX5_tension 1 = .ok (.getfield 15, 3) := by decide +kernel
theorem dX5_tension_4 : decode cX5_tension 4 = .ok (.getfield 146, 3) := by decide +kernel
theorem dX5_tension_7 : decode cX5_tension 7 = .ok (.ireturn, 1) := by decide +kernel
theorem dX5_patternRows_0 : decode cX5_patternRows 0 = .ok (.aload_n 0, 1) := by decide +kernel
theorem dX5_patternRows_1 : decode cX5_patternRows 1 = .ok (.getfield 15, 3) := by decide +kernel
theorem dX5_patternRows_4 : decode cX5_patternRows 4 = .ok (.getfield 149, 3) := by decide +kernel
theorem dX5_patternRows_7 : decode cX5_patternRows 7 = .ok (.ireturn, 1) := by decide +kernel
theorem dX5_isKnit_0 : decode cX5_isKnit 0 = .ok (.iload_n 1, 1) := by decide +kernel
theorem dX5_isKnit_1 : decode cX5_isKnit 1 = .ok (.ifCond .lt 24, 3) := by decide +kernel
theorem dX5_isKnit_4 : decode cX5_isKnit 4 = .ok (.iload_n 1, 1) := by decide +kernel
theorem dX5_isKnit_5 : decode cX5_isKnit 5 = .ok (.aload_n 0, 1) := by decide +kernel
theorem dX5_isKnit_6 : decode cX5_isKnit 6 = .ok (.getfield 15, 3) := by decide +kernel
theorem dX5_isKnit_9 : decode cX5_isKnit 9 = .ok (.getfield 149, 3) := by decide +kernel
theorem dX5_isKnit_12 : decode cX5_isKnit 12 = .ok (.if_icmp .ge 13, 3) := by decide +kernel
theorem dX5_isKnit_15 : decode cX5_isKnit 15 = .ok (.iload_n 2, 1) := by decide +kernel
theorem dX5_isKnit_16 : decode cX5_isKnit 16 = .ok (.ifCond .lt 9, 3) := by decide +kernel
theorem dX5_isKnit_19 : decode cX5_isKnit 19 = .ok (.iload_n 2, 1) := by decide +kernel
theorem dX5_isKnit_20 : decode cX5_isKnit 20 = .ok (.bipush 8, 2) := by decide +kernel
theorem dX5_isKnit_22 : decode cX5_isKnit 22 = .ok (.if_icmp .lt 13, 3) := by decide +kernel
theorem dX5_isKnit_25 : decode cX5_isKnit 25 = .ok (.new 152, 3) := by decide +kernel
theorem dX5_isKnit_28 : decode cX5_isKnit 28 = .ok (.dup, 1) := by decide +kernel
theorem dX5_isKnit_29 : decode cX5_isKnit 29 = .ok (.ldc 154, 2) := by decide +kernel
theorem dX5_isKnit_31 : decode cX5_isKnit 31 = .ok (.invokespecial 156, 3) := by decide +kernel
theorem dX5_isKnit_34 : decode cX5_isKnit 34 = .ok (.athrow, 1) := by decide +kernel
theorem dX5_isKnit_35 : decode cX5_isKnit 35 = .ok (.aload_n 0, 1) := by decide +kernel
theorem dX5_isKnit_36 : decode cX5_isKnit 36 = .ok (.getfield 15, 3) := by decide +kernel
theorem dX5_isKnit_39 : decode cX5_isKnit 39 = .ok (.getfield 157, 3) := by decide +kernel
theorem dX5_isKnit_42 : decode cX5_isKnit 42 = .ok (.iload_n 1, 1) := by decide +kernel
theorem dX5_isKnit_43 : decode cX5_isKnit 43 = .ok (.iaload, 1) := by decide +kernel
theorem dX5_isKnit_44 : decode cX5_isKnit 44 = .ok (.iload_n 2, 1) := by decide +kernel
theorem dX5_isKnit_45 : decode cX5_isKnit 45 = .ok (.invokestatic 160, 3) := by decide +kernel
theorem dX5_isKnit_48 : decode cX5_isKnit 48 = .ok (.ireturn, 1) := by decide +kernel
theorem dX5_knit_0 : decode cX5_knit 0 = .ok (.iload_n 1, 1) := by decide +kernel
theorem dX5_knit_1 : decode cX5_knit 1 = .ok (.invokestatic 164, 3) := by decide +kernel
theorem dX5_knit_4 : decode cX5_knit 4 = .ok (.aload_n 0, 1) := by decide +kernel
theorem dX5_knit_5 : decode cX5_knit 5 = .ok (.bipush 107, 2) := by decide +kernel
theorem dX5_knit_7 : decode cX5_knit 7 = .ok (.iload_n 1, 1) := by decide +kernel
theorem dX5_knit_8 : decode cX5_knit 8 = .ok (.iconst 0, 1) := by decide +kernel
theorem dX5_knit_9 : decode cX5_knit 9 = .ok (.invokevirtual 76, 3) := by decide +kernel
theorem dX5_knit_12 : decode cX5_knit 12 = .ok (.ireturn, 1) := by decide +kernel
theorem dX5_willKnit_0 : decode cX5_willKnit 0 = .ok (.iload_n 1, 1) := by decide +kernel
theorem dX5_willKnit_1 : decode cX5_willKnit 1 = .ok (.invokestatic 65, 3) := by decide +kernel
theorem dX5_willKnit_4 : decode cX5_willKnit 4 = .ok (.aload_n 0, 1) := by decide +kernel
theorem dX5_willKnit_5 : decode cX5_willKnit 5 = .ok (.getfield 15, 3) := by decide +kernel
theorem dX5_willKnit_8 : decode cX5_willKnit 8 = .ok (.getfield 80, 3) := by decide +kernel
theorem dX5_willKnit_11 : decode cX5_willKnit 11 = .ok (.iload_n 1, 1) := by decide +kernel
theorem dX5_willKnit_12 : decode cX5_willKnit 12 = .ok (.aload_n 0, 1) := by decide +kernel
theorem dX5_willKnit_13 : decode cX5_willKnit 13 = .ok (.getfield 15, 3) := by decide +kernel
theorem dX5_willKnit_16 : decode cX5_willKnit 16 = .ok (.invokevirtual 167, 3) := by decide +kernel
theorem dX5_willKnit_19 : decode cX5_willKnit 19 = .ok (.invokevirtual 170, 3) := by decide +kernel
theorem dX5_willKnit_22 : decode cX5_willKnit 22 = .ok (.ireturn, 1) := by decide +kernel
theorem dX5_nextWidth_0 : decode cX5_nextWidth 0 = .ok (.aload_n 0, 1) := by decide +kernel
theorem dX5_nextWidth_1 : decode cX5_nextWidth 1 = .ok (.getfield 15, 3) := by decide +kernel
theorem dX5_nextWidth_4 : decode cX5_nextWidth 4 = .ok (.getfield 80, 3) := by decide +kernel
theorem dX5_nextWidth_7 : decode cX5_nextWidth 7 = .ok (.aload_n 0, 1) := by decide +kernel
theorem dX5_nextWidth_8 : decode cX5_nextWidth 8 = .ok (.getfield 15, 3) := by decide +kernel
theorem dX5_nextWidth_11 : decode cX5_nextWidth 11 = .ok (.invokevirtual 167, 3) := by decide +kernel
theorem dX5_nextWidth_14 : decode cX5_nextWidth 14 = .ok (.invokevirtual 173, 3) := by decide +kernel
theorem dX5_nextWidth_17 : decode cX5_nextWidth 17 = .ok (.ireturn, 1) := by decide +kernel
theorem dX5_nextWidthByMask_0 : decode cX5_nextWidthByMask 0 = .ok (.aload_n 0, 1) := by decide +kernel
theorem dX5_nextWidthByMask_1 : decode cX5_nextWidthByMask 1 = .ok (.getfield 15, 3) := by decide +kernel
theorem dX5_nextWidthByMask_4 : decode cX5_nextWidthByMask 4 = .ok (.getfield 80, 3) := by decide +kernel
theorem dX5_nextWidthByMask_7 : decode cX5_nextWidthByMask 7 = .ok (.aload_n 0, 1) := by decide +kernel
theorem dX5_nextWidthByMask_8 : decode cX5_nextWidthByMask 8 = .ok (.getfield 15, 3) := by decide +kernel
theorem dX5_nextWidthByMask_11 : decode cX5_nextWidthByMask 11 = .ok (.invokevirtual 167, 3) := by decide +kernel
theorem dX5_nextWidthByMask_14 : decode cX5_nextWidthByMask 14 = .ok (.invokevirtual 176, 3) := by decide +kernel
theorem dX5_nextWidthByMask_17 : decode cX5_nextWidthByMask 17 = .ok (.ireturn, 1) := by decide +kernel
theorem dX5_stitchesIn_0 : decode cX5_stitchesIn 0 = .ok (.iload_n 1, 1) := by decide +kernel
theorem dX5_stitchesIn_1 : decode cX5_stitchesIn 1 = .ok (.invokestatic 164, 3) := by decide +kernel
theorem dX5_stitchesIn_4 : decode cX5_stitchesIn 4 = .ok (.aload_n 0, 1) := by decide +kernel
theorem dX5_stitchesIn_5 : decode cX5_stitchesIn 5 = .ok (.getfield 15, 3) := by decide +kernel
theorem dX5_stitchesIn_8 : decode cX5_stitchesIn 8 = .ok (.iload_n 1, 1) := by decide +kernel
theorem dX5_stitchesIn_9 : decode cX5_stitchesIn 9 = .ok (.invokevirtual 179, 3) := by decide +kernel
theorem dX5_stitchesIn_12 : decode cX5_stitchesIn 12 = .ok (.ireturn, 1) := by decide +kernel
theorem dX5_dropsIn_0 : decode cX5_dropsIn 0 = .ok (.iload_n 1, 1) := by decide +kernel
theorem dX5_dropsIn_1 : decode cX5_dropsIn 1 = .ok (.invokestatic 164, 3) := by decide +kernel
theorem dX5_dropsIn_4 : decode cX5_dropsIn 4 = .ok (.aload_n 0, 1) := by decide +kernel
theorem dX5_dropsIn_5 : decode cX5_dropsIn 5 = .ok (.getfield 15, 3) := by decide +kernel
theorem dX5_dropsIn_8 : decode cX5_dropsIn 8 = .ok (.iload_n 1, 1) := by decide +kernel
theorem dX5_dropsIn_9 : decode cX5_dropsIn 9 = .ok (.invokevirtual 182, 3) := by decide +kernel
theorem dX5_dropsIn_12 : decode cX5_dropsIn 12 = .ok (.ireturn, 1) := by decide +kernel
theorem dX5_coursesPossible_0 : decode cX5_coursesPossible 0 = .ok (.aload_n 0, 1) := by decide +kernel
theorem dX5_coursesPossible_1 : decode cX5_coursesPossible 1 = .ok (.getfield 15, 3) := by decide +kernel
theorem dX5_coursesPossible_4 : decode cX5_coursesPossible 4 = .ok (.bipush 30, 2) := by decide +kernel
theorem dX5_coursesPossible_6 : decode cX5_coursesPossible 6 = .ok (.invokevirtual 185, 3) := by decide +kernel
theorem dX5_coursesPossible_9 : decode cX5_coursesPossible 9 = .ok (.ireturn, 1) := by decide +kernel
theorem dX5_courseCount_0 : decode cX5_courseCount 0 = .ok (.aload_n 0, 1) := by decide +kernel
theorem dX5_courseCount_1 : decode cX5_courseCount 1 = .ok (.getfield 15, 3) := by decide +kernel
theorem dX5_courseCount_4 : decode cX5_courseCount 4 = .ok (.getfield 188, 3) := by decide +kernel
theorem dX5_courseCount_7 : decode cX5_courseCount 7 = .ok (.getfield 192, 3) := by decide +kernel
theorem dX5_courseCount_10 : decode cX5_courseCount 10 = .ok (.ireturn, 1) := by decide +kernel
theorem dX5_widthOf_0 : decode cX5_widthOf 0 = .ok (.aload_n 0, 1) := by decide +kernel
theorem dX5_widthOf_1 : decode cX5_widthOf 1 = .ok (.iload_n 1, 1) := by decide +kernel
theorem dX5_widthOf_2 : decode cX5_widthOf 2 = .ok (.invokevirtual 197, 3) := by decide +kernel
theorem dX5_widthOf_5 : decode cX5_widthOf 5 = .ok (.aload_n 0, 1) := by decide +kernel
theorem dX5_widthOf_6 : decode cX5_widthOf 6 = .ok (.getfield 15, 3) := by decide +kernel
theorem dX5_widthOf_9 : decode cX5_widthOf 9 = .ok (.getfield 188, 3) := by decide +kernel
theorem dX5_widthOf_12 : decode cX5_widthOf 12 = .ok (.getfield 200, 3) := by decide +kernel
theorem dX5_widthOf_15 : decode cX5_widthOf 15 = .ok (.iload_n 1, 1) := by decide +kernel
theorem dX5_widthOf_16 : decode cX5_widthOf 16 = .ok (.iaload, 1) := by decide +kernel
theorem dX5_widthOf_17 : decode cX5_widthOf 17 = .ok (.ireturn, 1) := by decide +kernel
theorem dX5_yarnOf_0 : decode cX5_yarnOf 0 = .ok (.aload_n 0, 1) := by decide +kernel
theorem dX5_yarnOf_1 : decode cX5_yarnOf 1 = .ok (.iload_n 1, 1) := by decide +kernel
theorem dX5_yarnOf_2 : decode cX5_yarnOf 2 = .ok (.invokevirtual 197, 3) := by decide +kernel
theorem dX5_yarnOf_5 : decode cX5_yarnOf 5 = .ok (.aload_n 0, 1) := by decide +kernel
theorem dX5_yarnOf_6 : decode cX5_yarnOf 6 = .ok (.getfield 15, 3) := by decide +kernel
theorem dX5_yarnOf_9 : decode cX5_yarnOf 9 = .ok (.getfield 188, 3) := by decide +kernel
theorem dX5_yarnOf_12 : decode cX5_yarnOf 12 = .ok (.getfield 203, 3) := by decide +kernel
theorem dX5_yarnOf_15 : decode cX5_yarnOf 15 = .ok (.iload_n 1, 1) := by decide +kernel
theorem dX5_yarnOf_16 : decode cX5_yarnOf 16 = .ok (.iaload, 1) := by decide +kernel
theorem dX5_yarnOf_17 : decode cX5_yarnOf 17 = .ok (.ireturn, 1) := by decide +kernel
theorem dX5_feederOf_0 : decode cX5_feederOf 0 = .ok (.aload_n 0, 1) := by decide +kernel
theorem dX5_feederOf_1 : decode cX5_feederOf 1 = .ok (.iload_n 1, 1) := by decide +kernel
theorem dX5_feederOf_2 : decode cX5_feederOf 2 = .ok (.invokevirtual 197, 3) := by decide +kernel
theorem dX5_feederOf_5 : decode cX5_feederOf 5 = .ok (.aload_n 0, 1) := by decide +kernel
theorem dX5_feederOf_6 : decode cX5_feederOf 6 = .ok (.getfield 15, 3) := by decide +kernel
theorem dX5_feederOf_9 : decode cX5_feederOf 9 = .ok (.getfield 188, 3) := by decide +kernel
theorem dX5_feederOf_12 : decode cX5_feederOf 12 = .ok (.getfield 206, 3) := by decide +kernel
theorem dX5_feederOf_15 : decode cX5_feederOf 15 = .ok (.iload_n 1, 1) := by decide +kernel
theorem dX5_feederOf_16 : decode cX5_feederOf 16 = .ok (.iaload, 1) := by decide +kernel
theorem dX5_feederOf_17 : decode cX5_feederOf 17 = .ok (.ireturn, 1) := by decide +kernel
theorem dX5_dropsOf_0 : decode cX5_dropsOf 0 = .ok (.aload_n 0, 1) := by decide +kernel
theorem dX5_dropsOf_1 : decode cX5_dropsOf 1 = .ok (.iload_n 1, 1) := by decide +kernel
theorem dX5_dropsOf_2 : decode cX5_dropsOf 2 = .ok (.invokevirtual 197, 3) := by decide +kernel
theorem dX5_dropsOf_5 : decode cX5_dropsOf 5 = .ok (.aload_n 0, 1) := by decide +kernel
theorem dX5_dropsOf_6 : decode cX5_dropsOf 6 = .ok (.getfield 15, 3) := by decide +kernel
theorem dX5_dropsOf_9 : decode cX5_dropsOf 9 = .ok (.getfield 188, 3) := by decide +kernel
theorem dX5_dropsOf_12 : decode cX5_dropsOf 12 = .ok (.getfield 209, 3) := by decide +kernel
theorem dX5_dropsOf_15 : decode cX5_dropsOf 15 = .ok (.iload_n 1, 1) := by decide +kernel
theorem dX5_dropsOf_16 : decode cX5_dropsOf 16 = .ok (.iaload, 1) := by decide +kernel
theorem dX5_dropsOf_17 : decode cX5_dropsOf 17 = .ok (.ireturn, 1) := by decide +kernel
theorem dX5_courseByWidth_0 : decode cX5_courseByWidth 0 = .ok (.aload_n 0, 1) := by decide +kernel
theorem dX5_courseByWidth_1 : decode cX5_courseByWidth 1 = .ok (.getfield 15, 3) := by decide +kernel
theorem dX5_courseByWidth_4 : decode cX5_courseByWidth 4 = .ok (.getfield 188, 3) := by decide +kernel
theorem dX5_courseByWidth_7 : decode cX5_courseByWidth 7 = .ok (.iload_n 1, 1) := by decide +kernel
theorem dX5_courseByWidth_8 : decode cX5_courseByWidth 8 = .ok (.invokevirtual 212, 3) := by decide +kernel
theorem dX5_courseByWidth_11 : decode cX5_courseByWidth 11 = .ok (.istore_n 2, 1) := by decide +kernel
theorem dX5_courseByWidth_12 : decode cX5_courseByWidth 12 = .ok (.iload_n 2, 1) := by decide +kernel
theorem dX5_courseByWidth_13 : decode cX5_courseByWidth 13 = .ok (.iconst (-1), 1) := by decide +kernel
theorem dX5_courseByWidth_14 : decode cX5_courseByWidth 14 = .ok (.if_icmp .ne 13, 3) := by decide +kernel
theorem dX5_courseByWidth_17 : decode cX5_courseByWidth 17 = .ok (.new 95, 3) := by decide +kernel
theorem dX5_courseByWidth_20 : decode cX5_courseByWidth 20 = .ok (.dup, 1) := by decide +kernel
theorem dX5_courseByWidth_21 : decode cX5_courseByWidth 21 = .ok (.ldc 215, 2) := by decide +kernel
theorem dX5_courseByWidth_23 : decode cX5_courseByWidth 23 = .ok (.invokespecial 99, 3) := by decide +kernel
theorem dX5_courseByWidth_26 : decode cX5_courseByWidth 26 = .ok (.athrow, 1) := by decide +kernel
theorem dX5_courseByWidth_27 : decode cX5_courseByWidth 27 = .ok (.iload_n 2, 1) := by decide +kernel
theorem dX5_courseByWidth_28 : decode cX5_courseByWidth 28 = .ok (.ireturn, 1) := by decide +kernel
theorem dX5_feederByYarn_0 : decode cX5_feederByYarn 0 = .ok (.aload_n 0, 1) := by decide +kernel
theorem dX5_feederByYarn_1 : decode cX5_feederByYarn 1 = .ok (.getfield 15, 3) := by decide +kernel
theorem dX5_feederByYarn_4 : decode cX5_feederByYarn 4 = .ok (.iload_n 1, 1) := by decide +kernel
theorem dX5_feederByYarn_5 : decode cX5_feederByYarn 5 = .ok (.invokevirtual 217, 3) := by decide +kernel
theorem dX5_feederByYarn_8 : decode cX5_feederByYarn 8 = .ok (.istore_n 2, 1) := by decide +kernel
theorem dX5_feederByYarn_9 : decode cX5_feederByYarn 9 = .ok (.iload_n 2, 1) := by decide +kernel
theorem dX5_feederByYarn_10 : decode cX5_feederByYarn 10 = .ok (.iconst (-1), 1) := by decide +kernel
theorem dX5_feederByYarn_11 : decode cX5_feederByYarn 11 = .ok (.if_icmp .ne 13, 3) := by decide +kernel
theorem dX5_feederByYarn_14 : decode cX5_feederByYarn 14 = .ok (.new 95, 3) := by decide +kernel
theorem dX5_feederByYarn_17 : decode cX5_feederByYarn 17 = .ok (.dup, 1) := by decide +kernel
theorem dX5_feederByYarn_18 : decode cX5_feederByYarn 18 = .ok (.ldc 220, 2) := by decide +kernel
theorem dX5_feederByYarn_20 : decode cX5_feederByYarn 20 = .ok (.invokespecial 99, 3) := by decide +kernel
theorem dX5_feederByYarn_23 : decode cX5_feederByYarn 23 = .ok (.athrow, 1) := by decide +kernel
theorem dX5_feederByYarn_24 : decode cX5_feederByYarn 24 = .ok (.iload_n 2, 1) := by decide +kernel
theorem dX5_feederByYarn_25 : decode cX5_feederByYarn 25 = .ok (.ireturn, 1) := by decide +kernel
theorem dX5_stitchCount_0 : decode cX5_stitchCount 0 = .ok (.aload_n 0, 1) := by decide +kernel
theorem dX5_stitchCount_1 : decode cX5_stitchCount 1 = .ok (.getfield 15, 3) := by decide +kernel
theorem dX5_stitchCount_4 : decode cX5_stitchCount 4 = .ok (.getfield 188, 3) := by decide +kernel
theorem dX5_stitchCount_7 : decode cX5_stitchCount 7 = .ok (.invokevirtual 222, 3) := by decide +kernel
theorem dX5_stitchCount_10 : decode cX5_stitchCount 10 = .ok (.ireturn, 1) := by decide +kernel
theorem dX5_finishedShawls_0 : decode cX5_finishedShawls 0 = .ok (.aload_n 0, 1) := by decide +kernel
theorem dX5_finishedShawls_1 : decode cX5_finishedShawls 1 = .ok (.getfield 15, 3) := by decide +kernel
theorem dX5_finishedShawls_4 : decode cX5_finishedShawls 4 = .ok (.getfield 225, 3) := by decide +kernel
theorem dX5_finishedShawls_7 : decode cX5_finishedShawls 7 = .ok (.ireturn, 1) := by decide +kernel
theorem dX5_yarnAdded_0 : decode cX5_yarnAdded 0 = .ok (.aload_n 0, 1) := by decide +kernel
theorem dX5_yarnAdded_1 : decode cX5_yarnAdded 1 = .ok (.getfield 15, 3) := by decide +kernel
theorem dX5_yarnAdded_4 : decode cX5_yarnAdded 4 = .ok (.getfield 228, 3) := by decide +kernel
theorem dX5_yarnAdded_7 : decode cX5_yarnAdded 7 = .ok (.ireturn, 1) := by decide +kernel
theorem dX5_yarnUsed_0 : decode cX5_yarnUsed 0 = .ok (.aload_n 0, 1) := by decide +kernel
theorem dX5_yarnUsed_1 : decode cX5_yarnUsed 1 = .ok (.getfield 15, 3) := by decide +kernel
theorem dX5_yarnUsed_4 : decode cX5_yarnUsed 4 = .ok (.getfield 231, 3) := by decide +kernel
theorem dX5_yarnUsed_7 : decode cX5_yarnUsed 7 = .ok (.ireturn, 1) := by decide +kernel
theorem dX5_droppedLoops_0 : decode cX5_droppedLoops 0 = .ok (.aload_n 0, 1) := by decide +kernel
theorem dX5_droppedLoops_1 : decode cX5_droppedLoops 1 = .ok (.getfield 15, 3) := by decide +kernel
theorem dX5_droppedLoops_4 : decode cX5_droppedLoops 4 = .ok (.getfield 234, 3) := by decide +kernel
theorem dX5_droppedLoops_7 : decode cX5_droppedLoops 7 = .ok (.ireturn, 1) := by decide +kernel
theorem dX5_meanWidth_0 : decode cX5_meanWidth 0 = .ok (.aload_n 0, 1) := by decide +kernel
theorem dX5_meanWidth_1 : decode cX5_meanWidth 1 = .ok (.getfield 15, 3) := by decide +kernel
theorem dX5_meanWidth_4 : decode cX5_meanWidth 4 = .ok (.getfield 188, 3) := by decide +kernel
theorem dX5_meanWidth_7 : decode cX5_meanWidth 7 = .ok (.getfield 192, 3) := by decide +kernel
theorem dX5_meanWidth_10 : decode cX5_meanWidth 10 = .ok (.istore_n 1, 1) := by decide +kernel
theorem dX5_meanWidth_11 : decode cX5_meanWidth 11 = .ok (.iload_n 1, 1) := by decide +kernel
theorem dX5_meanWidth_12 : decode cX5_meanWidth 12 = .ok (.ifCond .ne 13, 3) := by decide +kernel
theorem dX5_meanWidth_15 : decode cX5_meanWidth 15 = .ok (.new 237, 3) := by decide +kernel
theorem dX5_meanWidth_18 : decode cX5_meanWidth 18 = .ok (.dup, 1) := by decide +kernel
theorem dX5_meanWidth_19 : decode cX5_meanWidth 19 = .ok (.ldc 239, 2) := by decide +kernel
theorem dX5_meanWidth_21 : decode cX5_meanWidth 21 = .ok (.invokespecial 241, 3) := by decide +kernel
theorem dX5_meanWidth_24 : decode cX5_meanWidth 24 = .ok (.athrow, 1) := by decide +kernel
theorem dX5_meanWidth_25 : decode cX5_meanWidth 25 = .ok (.aload_n 0, 1) := by decide +kernel
theorem dX5_meanWidth_26 : decode cX5_meanWidth 26 = .ok (.getfield 15, 3) := by decide +kernel
theorem dX5_meanWidth_29 : decode cX5_meanWidth 29 = .ok (.getfield 188, 3) := by decide +kernel
theorem dX5_meanWidth_32 : decode cX5_meanWidth 32 = .ok (.invokevirtual 222, 3) := by decide +kernel
theorem dX5_meanWidth_35 : decode cX5_meanWidth 35 = .ok (.i2d, 1) := by decide +kernel
theorem dX5_meanWidth_36 : decode cX5_meanWidth 36 = .ok (.iload_n 1, 1) := by decide +kernel
theorem dX5_meanWidth_37 : decode cX5_meanWidth 37 = .ok (.i2d, 1) := by decide +kernel
theorem dX5_meanWidth_38 : decode cX5_meanWidth 38 = .ok (.ddiv, 1) := by decide +kernel
theorem dX5_meanWidth_39 : decode cX5_meanWidth 39 = .ok (.dreturn, 1) := by decide +kernel
theorem dX5_droppedShare_0 : decode cX5_droppedShare 0 = .ok (.aload_n 0, 1) := by decide +kernel
theorem dX5_droppedShare_1 : decode cX5_droppedShare 1 = .ok (.getfield 15, 3) := by decide +kernel
theorem dX5_droppedShare_4 : decode cX5_droppedShare 4 = .ok (.getfield 80, 3) := by decide +kernel
theorem dX5_droppedShare_7 : decode cX5_droppedShare 7 = .ok (.invokevirtual 103, 3) := by decide +kernel
theorem dX5_droppedShare_10 : decode cX5_droppedShare 10 = .ok (.istore_n 1, 1) := by decide +kernel
theorem dX5_droppedShare_11 : decode cX5_droppedShare 11 = .ok (.iload_n 1, 1) := by decide +kernel
theorem dX5_droppedShare_12 : decode cX5_droppedShare 12 = .ok (.ifCond .ne 13, 3) := by decide +kernel
theorem dX5_droppedShare_15 : decode cX5_droppedShare 15 = .ok (.new 237, 3) := by decide +kernel
theorem dX5_droppedShare_18 : decode cX5_droppedShare 18 = .ok (.dup, 1) := by decide +kernel
theorem dX5_droppedShare_19 : decode cX5_droppedShare 19 = .ok (.ldc 242, 2) := by decide +kernel
theorem dX5_droppedShare_21 : decode cX5_droppedShare 21 = .ok (.invokespecial 241, 3) := by decide +kernel
theorem dX5_droppedShare_24 : decode cX5_droppedShare 24 = .ok (.athrow, 1) := by decide +kernel
theorem dX5_droppedShare_25 : decode cX5_droppedShare 25 = .ok (.aload_n 0, 1) := by decide +kernel
theorem dX5_droppedShare_26 : decode cX5_droppedShare 26 = .ok (.getfield 15, 3) := by decide +kernel
theorem dX5_droppedShare_29 : decode cX5_droppedShare 29 = .ok (.getfield 80, 3) := by decide +kernel
theorem dX5_droppedShare_32 : decode cX5_droppedShare 32 = .ok (.invokevirtual 244, 3) := by decide +kernel
theorem dX5_droppedShare_35 : decode cX5_droppedShare 35 = .ok (.i2f, 1) := by decide +kernel
theorem dX5_droppedShare_36 : decode cX5_droppedShare 36 = .ok (.iload_n 1, 1) := by decide +kernel
theorem dX5_droppedShare_37 : decode cX5_droppedShare 37 = .ok (.i2f, 1) := by decide +kernel
theorem dX5_droppedShare_38 : decode cX5_droppedShare 38 = .ok (.fdiv, 1) := by decide +kernel
theorem dX5_droppedShare_39 : decode cX5_droppedShare 39 = .ok (.freturn, 1) := by decide +kernel
theorem dX5_isConsistent_0 : decode cX5_isConsistent 0 = .ok (.aload_n 0, 1) := by decide +kernel
theorem dX5_isConsistent_1 : decode cX5_isConsistent 1 = .ok (.getfield 15, 3) := by decide +kernel
theorem dX5_isConsistent_4 : decode cX5_isConsistent 4 = .ok (.invokevirtual 167, 3) := by decide +kernel
theorem dX5_isConsistent_7 : decode cX5_isConsistent 7 = .ok (.istore_n 1, 1) := by decide +kernel
theorem dX5_isConsistent_8 : decode cX5_isConsistent 8 = .ok (.aload_n 0, 1) := by decide +kernel
theorem dX5_isConsistent_9 : decode cX5_isConsistent 9 = .ok (.getfield 15, 3) := by decide +kernel
theorem dX5_isConsistent_12 : decode cX5_isConsistent 12 = .ok (.getfield 80, 3) := by decide +kernel
theorem dX5_isConsistent_15 : decode cX5_isConsistent 15 = .ok (.invokevirtual 113, 3) := by decide +kernel
theorem dX5_isConsistent_18 : decode cX5_isConsistent 18 = .ok (.aload_n 0, 1) := by decide +kernel
theorem dX5_isConsistent_19 : decode cX5_isConsistent 19 = .ok (.getfield 15, 3) := by decide +kernel
theorem dX5_isConsistent_22 : decode cX5_isConsistent 22 = .ok (.getfield 80, 3) := by decide +kernel
theorem dX5_isConsistent_25 : decode cX5_isConsistent 25 = .ok (.invokevirtual 116, 3) := by decide +kernel
theorem dX5_isConsistent_28 : decode cX5_isConsistent 28 = .ok (.if_icmp .ne 70, 3) := by decide +kernel
theorem dX5_isConsistent_31 : decode cX5_isConsistent 31 = .ok (.aload_n 0, 1) := by decide +kernel
theorem dX5_isConsistent_32 : decode cX5_isConsistent 32 = .ok (.getfield 15, 3) := by decide +kernel
theorem dX5_isConsistent_35 : decode cX5_isConsistent 35 = .ok (.getfield 80, 3) := by decide +kernel
theorem dX5_isConsistent_38 : decode cX5_isConsistent 38 = .ok (.iload_n 1, 1) := by decide +kernel
theorem dX5_isConsistent_39 : decode cX5_isConsistent 39 = .ok (.invokevirtual 173, 3) := by decide +kernel
theorem dX5_isConsistent_42 : decode cX5_isConsistent 42 = .ok (.aload_n 0, 1) := by decide +kernel
theorem dX5_isConsistent_43 : decode cX5_isConsistent 43 = .ok (.getfield 15, 3) := by decide +kernel
theorem dX5_isConsistent_46 : decode cX5_isConsistent 46 = .ok (.getfield 80, 3) := by decide +kernel
theorem dX5_isConsistent_49 : decode cX5_isConsistent 49 = .ok (.iload_n 1, 1) := by decide +kernel
theorem dX5_isConsistent_50 : decode cX5_isConsistent 50 = .ok (.invokevirtual 176, 3) := by decide +kernel
theorem dX5_isConsistent_53 : decode cX5_isConsistent 53 = .ok (.if_icmp .ne 45, 3) := by decide +kernel
theorem dX5_isConsistent_56 : decode cX5_isConsistent 56 = .ok (.aload_n 0, 1) := by decide +kernel
theorem dX5_isConsistent_57 : decode cX5_isConsistent 57 = .ok (.getfield 15, 3) := by decide +kernel
theorem dX5_isConsistent_60 : decode cX5_isConsistent 60 = .ok (.getfield 228, 3) := by decide +kernel
theorem dX5_isConsistent_63 : decode cX5_isConsistent 63 = .ok (.aload_n 0, 1) := by decide +kernel
theorem dX5_isConsistent_64 : decode cX5_isConsistent 64 = .ok (.getfield 15, 3) := by decide +kernel
theorem dX5_isConsistent_67 : decode cX5_isConsistent 67 = .ok (.invokevirtual 247, 3) := by decide +kernel
theorem dX5_isConsistent_70 : decode cX5_isConsistent 70 = .ok (.aload_n 0, 1) := by decide +kernel
theorem dX5_isConsistent_71 : decode cX5_isConsistent 71 = .ok (.getfield 15, 3) := by decide +kernel
theorem dX5_isConsistent_74 : decode cX5_isConsistent 74 = .ok (.getfield 231, 3) := by decide +kernel
theorem dX5_isConsistent_77 : decode cX5_isConsistent 77 = .ok (.iadd, 1) := by decide +kernel
theorem dX5_isConsistent_78 : decode cX5_isConsistent 78 = .ok (.if_icmp .ne 20, 3) := by decide +kernel
theorem dX5_isConsistent_81 : decode cX5_isConsistent 81 = .ok (.aload_n 0, 1) := by decide +kernel
theorem dX5_isConsistent_82 : decode cX5_isConsistent 82 = .ok (.getfield 15, 3) := by decide +kernel
theorem dX5_isConsistent_85 : decode cX5_isConsistent 85 = .ok (.getfield 80, 3) := by decide +kernel
theorem dX5_isConsistent_88 : decode cX5_isConsistent 88 = .ok (.invokevirtual 250, 3) := by decide +kernel
theorem dX5_isConsistent_91 : decode cX5_isConsistent 91 = .ok (.ifCond .eq 7, 3) := by decide +kernel
theorem dX5_isConsistent_94 : decode cX5_isConsistent 94 = .ok (.iconst 1, 1) := by decide +kernel
theorem dX5_isConsistent_95 : decode cX5_isConsistent 95 = .ok (.goto 4, 3) := by decide +kernel
theorem dX5_isConsistent_98 : decode cX5_isConsistent 98 = .ok (.iconst 0, 1) := by decide +kernel
theorem dX5_isConsistent_99 : decode cX5_isConsistent 99 = .ok (.ireturn, 1) := by decide +kernel
theorem dX5_writeBed_0 : decode cX5_writeBed 0 = .ok (.aload_n 0, 1) := by decide +kernel
theorem dX5_writeBed_1 : decode cX5_writeBed 1 = .ok (.getfield 44, 3) := by decide +kernel
theorem dX5_writeBed_4 : decode cX5_writeBed 4 = .ok (.iconst 0, 1) := by decide +kernel
theorem dX5_writeBed_5 : decode cX5_writeBed 5 = .ok (.invokevirtual 254, 3) := by decide +kernel
theorem dX5_writeBed_8 : decode cX5_writeBed 8 = .ok (.iconst 0, 1) := by decide +kernel
theorem dX5_writeBed_9 : decode cX5_writeBed 9 = .ok (.istore_n 1, 1) := by decide +kernel
theorem dX5_writeBed_10 : decode cX5_writeBed 10 = .ok (.iload_n 1, 1) := by decide +kernel
theorem dX5_writeBed_11 : decode cX5_writeBed 11 = .ok (.bipush 24, 2) := by decide +kernel
theorem dX5_writeBed_13 : decode cX5_writeBed 13 = .ok (.if_icmp .ge 28, 3) := by decide +kernel
theorem dX5_writeBed_16 : decode cX5_writeBed 16 = .ok (.aload_n 0, 1) := by decide +kernel
theorem dX5_writeBed_17 : decode cX5_writeBed 17 = .ok (.getfield 44, 3) := by decide +kernel
theorem dX5_writeBed_20 : decode cX5_writeBed 20 = .ok (.aload_n 0, 1) := by decide +kernel
theorem dX5_writeBed_21 : decode cX5_writeBed 21 = .ok (.getfield 15, 3) := by decide +kernel
theorem dX5_writeBed_24 : decode cX5_writeBed 24 = .ok (.getfield 80, 3) := by decide +kernel
theorem dX5_writeBed_27 : decode cX5_writeBed 27 = .ok (.iload_n 1, 1) := by decide +kernel
theorem dX5_writeBed_28 : decode cX5_writeBed 28 = .ok (.invokevirtual 257, 3) := by decide +kernel
theorem dX5_writeBed_31 : decode cX5_writeBed 31 = .ok (.invokevirtual 261, 3) := by decide +kernel
theorem dX5_writeBed_34 : decode cX5_writeBed 34 = .ok (.pop, 1) := by decide +kernel
theorem dX5_writeBed_35 : decode cX5_writeBed 35 = .ok (.iinc 1 1, 3) := by decide +kernel
theorem dX5_writeBed_38 : decode cX5_writeBed 38 = .ok (.goto (-28), 3) := by decide +kernel
theorem dX5_writeBed_41 : decode cX5_writeBed 41 = .ok (.aload_n 0, 1) := by decide +kernel
theorem dX5_writeBed_42 : decode cX5_writeBed 42 = .ok (.getfield 44, 3) := by decide +kernel
theorem dX5_writeBed_45 : decode cX5_writeBed 45 = .ok (.invokevirtual 265, 3) := by decide +kernel
theorem dX5_writeBed_48 : decode cX5_writeBed 48 = .ok (.ireturn, 1) := by decide +kernel
theorem dX5_writeCourse_0 : decode cX5_writeCourse 0 = .ok (.aload_n 0, 1) := by decide +kernel
theorem dX5_writeCourse_1 : decode cX5_writeCourse 1 = .ok (.iload_n 1, 1) := by decide +kernel
theorem dX5_writeCourse_2 : decode cX5_writeCourse 2 = .ok (.invokevirtual 197, 3) := by decide +kernel
theorem dX5_writeCourse_5 : decode cX5_writeCourse 5 = .ok (.aload_n 0, 1) := by decide +kernel
theorem dX5_writeCourse_6 : decode cX5_writeCourse 6 = .ok (.getfield 15, 3) := by decide +kernel
theorem dX5_writeCourse_9 : decode cX5_writeCourse 9 = .ok (.getfield 188, 3) := by decide +kernel
theorem dX5_writeCourse_12 : decode cX5_writeCourse 12 = .ok (.astore_n 2, 1) := by decide +kernel
theorem dX5_writeCourse_13 : decode cX5_writeCourse 13 = .ok (.aload_n 0, 1) := by decide +kernel
theorem dX5_writeCourse_14 : decode cX5_writeCourse 14 = .ok (.getfield 44, 3) := by decide +kernel
theorem dX5_writeCourse_17 : decode cX5_writeCourse 17 = .ok (.iconst 0, 1) := by decide +kernel
theorem dX5_writeCourse_18 : decode cX5_writeCourse 18 = .ok (.invokevirtual 254, 3) := by decide +kernel
theorem dX5_writeCourse_21 : decode cX5_writeCourse 21 = .ok (.aload_n 0, 1) := by decide +kernel
theorem dX5_writeCourse_22 : decode cX5_writeCourse 22 = .ok (.getfield 44, 3) := by decide +kernel
theorem dX5_writeCourse_25 : decode cX5_writeCourse 25 = .ok (.iload_n 1, 1) := by decide +kernel
theorem dX5_writeCourse_26 : decode cX5_writeCourse 26 = .ok (.invokevirtual 268, 3) := by decide +kernel
theorem dX5_writeCourse_29 : decode cX5_writeCourse 29 = .ok (.bipush 58, 2) := by decide +kernel
theorem dX5_writeCourse_31 : decode cX5_writeCourse 31 = .ok (.invokevirtual 261, 3) := by decide +kernel
theorem dX5_writeCourse_34 : decode cX5_writeCourse 34 = .ok (.aload_n 2, 1) := by decide +kernel
theorem dX5_writeCourse_35 : decode cX5_writeCourse 35 = .ok (.getfield 200, 3) := by decide +kernel
theorem dX5_writeCourse_38 : decode cX5_writeCourse 38 = .ok (.iload_n 1, 1) := by decide +kernel
theorem dX5_writeCourse_39 : decode cX5_writeCourse 39 = .ok (.iaload, 1) := by decide +kernel
theorem dX5_writeCourse_40 : decode cX5_writeCourse 40 = .ok (.invokevirtual 268, 3) := by decide +kernel
theorem dX5_writeCourse_43 : decode cX5_writeCourse 43 = .ok (.pop, 1) := by decide +kernel
theorem dX5_writeCourse_44 : decode cX5_writeCourse 44 = .ok (.aload_n 0, 1) := by decide +kernel
theorem dX5_writeCourse_45 : decode cX5_writeCourse 45 = .ok (.getfield 44, 3) := by decide +kernel
theorem dX5_writeCourse_48 : decode cX5_writeCourse 48 = .ok (.bipush 102, 2) := by decide +kernel
theorem dX5_writeCourse_50 : decode cX5_writeCourse 50 = .ok (.invokevirtual 261, 3) := by decide +kernel
theorem dX5_writeCourse_53 : decode cX5_writeCourse 53 = .ok (.aload_n 2, 1) := by decide +kernel
theorem dX5_writeCourse_54 : decode cX5_writeCourse 54 = .ok (.getfield 206, 3) := by decide +kernel
theorem dX5_writeCourse_57 : decode cX5_writeCourse 57 = .ok (.iload_n 1, 1) := by decide +kernel
theorem dX5_writeCourse_58 : decode cX5_writeCourse 58 = .ok (.iaload, 1) := by decide +kernel
theorem dX5_writeCourse_59 : decode cX5_writeCourse 59 = .ok (.invokevirtual 268, 3) := by decide +kernel
theorem dX5_writeCourse_62 : decode cX5_writeCourse 62 = .ok (.pop, 1) := by decide +kernel
theorem dX5_writeCourse_63 : decode cX5_writeCourse 63 = .ok (.aload_n 0, 1) := by decide +kernel
theorem dX5_writeCourse_64 : decode cX5_writeCourse 64 = .ok (.getfield 44, 3) := by decide +kernel
theorem dX5_writeCourse_67 : decode cX5_writeCourse 67 = .ok (.bipush 121, 2) := by decide +kernel
theorem dX5_writeCourse_69 : decode cX5_writeCourse 69 = .ok (.invokevirtual 261, 3) := by decide +kernel
theorem dX5_writeCourse_72 : decode cX5_writeCourse 72 = .ok (.aload_n 2, 1) := by decide +kernel
theorem dX5_writeCourse_73 : decode cX5_writeCourse 73 = .ok (.getfield 203, 3) := by decide +kernel
theorem dX5_writeCourse_76 : decode cX5_writeCourse 76 = .ok (.iload_n 1, 1) := by decide +kernel
theorem dX5_writeCourse_77 : decode cX5_writeCourse 77 = .ok (.iaload, 1) := by decide +kernel
theorem dX5_writeCourse_78 : decode cX5_writeCourse 78 = .ok (.invokevirtual 268, 3) := by decide +kernel
theorem dX5_writeCourse_81 : decode cX5_writeCourse 81 = .ok (.pop, 1) := by decide +kernel
theorem dX5_writeCourse_82 : decode cX5_writeCourse 82 = .ok (.aload_n 2, 1) := by decide +kernel
theorem dX5_writeCourse_83 : decode cX5_writeCourse 83 = .ok (.getfield 209, 3) := by decide +kernel
theorem dX5_writeCourse_86 : decode cX5_writeCourse 86 = .ok (.iload_n 1, 1) := by decide +kernel
theorem dX5_writeCourse_87 : decode cX5_writeCourse 87 = .ok (.iaload, 1) := by decide +kernel
theorem dX5_writeCourse_88 : decode cX5_writeCourse 88 = .ok (.ifCond .le 22, 3) := by decide +kernel
theorem dX5_writeCourse_91 : decode cX5_writeCourse 91 = .ok (.aload_n 0, 1) := by decide +kernel
theorem dX5_writeCourse_92 : decode cX5_writeCourse 92 = .ok (.getfield 44, 3) := by decide +kernel
theorem dX5_writeCourse_95 : decode cX5_writeCourse 95 = .ok (.bipush 33, 2) := by decide +kernel
theorem dX5_writeCourse_97 : decode cX5_writeCourse 97 = .ok (.invokevirtual 261, 3) := by decide +kernel
theorem dX5_writeCourse_100 : decode cX5_writeCourse 100 = .ok (.aload_n 2, 1) := by decide +kernel
theorem dX5_writeCourse_101 : decode cX5_writeCourse 101 = .ok (.getfield 209, 3) := by decide +kernel
theorem dX5_writeCourse_104 : decode cX5_writeCourse 104 = .ok (.iload_n 1, 1) := by decide +kernel
theorem dX5_writeCourse_105 : decode cX5_writeCourse 105 = .ok (.iaload, 1) := by decide +kernel
theorem dX5_writeCourse_106 : decode cX5_writeCourse 106 = .ok (.invokevirtual 268, 3) := by decide +kernel
theorem dX5_writeCourse_109 : decode cX5_writeCourse 109 = .ok (.pop, 1) := by decide +kernel
theorem dX5_writeCourse_110 : decode cX5_writeCourse 110 = .ok (.aload_n 0, 1) := by decide +kernel
theorem dX5_writeCourse_111 : decode cX5_writeCourse 111 = .ok (.getfield 44, 3) := by decide +kernel
theorem dX5_writeCourse_114 : decode cX5_writeCourse 114 = .ok (.invokevirtual 265, 3) := by decide +kernel
theorem dX5_writeCourse_117 : decode cX5_writeCourse 117 = .ok (.ireturn, 1) := by decide +kernel
theorem dX5_outputAt_0 : decode cX5_outputAt 0 = .ok (.iload_n 1, 1) := by decide +kernel
theorem dX5_outputAt_1 : decode cX5_outputAt 1 = .ok (.ifCond .lt 14, 3) := by decide +kernel
theorem dX5_outputAt_4 : decode cX5_outputAt 4 = .ok (.iload_n 1, 1) := by decide +kernel
theorem dX5_outputAt_5 : decode cX5_outputAt 5 = .ok (.aload_n 0, 1) := by decide +kernel
theorem dX5_outputAt_6 : decode cX5_outputAt 6 = .ok (.getfield 44, 3) := by decide +kernel
theorem dX5_outputAt_9 : decode cX5_outputAt 9 = .ok (.invokevirtual 265, 3) := by decide +kernel
theorem dX5_outputAt_12 : decode cX5_outputAt 12 = .ok (.if_icmp .lt 14, 3) := by decide +kernel
theorem dX5_outputAt_15 : decode cX5_outputAt 15 = .ok (.new 152, 3) := by decide +kernel
theorem dX5_outputAt_18 : decode cX5_outputAt 18 = .ok (.dup, 1) := by decide +kernel
theorem dX5_outputAt_19 : decode cX5_outputAt 19 = .ok (.ldc_w 271, 3) := by decide +kernel
theorem dX5_outputAt_22 : decode cX5_outputAt 22 = .ok (.invokespecial 156, 3) := by decide +kernel
theorem dX5_outputAt_25 : decode cX5_outputAt 25 = .ok (.athrow, 1) := by decide +kernel
theorem dX5_outputAt_26 : decode cX5_outputAt 26 = .ok (.aload_n 0, 1) := by decide +kernel
theorem dX5_outputAt_27 : decode cX5_outputAt 27 = .ok (.getfield 44, 3) := by decide +kernel
theorem dX5_outputAt_30 : decode cX5_outputAt 30 = .ok (.iload_n 1, 1) := by decide +kernel
theorem dX5_outputAt_31 : decode cX5_outputAt 31 = .ok (.invokevirtual 273, 3) := by decide +kernel
theorem dX5_outputAt_34 : decode cX5_outputAt 34 = .ok (.ireturn, 1) := by decide +kernel
theorem dX5_appendInput_0 : decode cX5_appendInput 0 = .ok (.iload_n 1, 1) := by decide +kernel
theorem dX5_appendInput_1 : decode cX5_appendInput 1 = .ok (.bipush 32, 2) := by decide +kernel
theorem dX5_appendInput_3 : decode cX5_appendInput 3 = .ok (.if_icmp .lt 9, 3) := by decide +kernel
theorem dX5_appendInput_6 : decode cX5_appendInput 6 = .ok (.iload_n 1, 1) := by decide +kernel
theorem dX5_appendInput_7 : decode cX5_appendInput 7 = .ok (.bipush 126, 2) := by decide +kernel
theorem dX5_appendInput_9 : decode cX5_appendInput 9 = .ok (.if_icmp .le 14, 3) := by decide +kernel
theorem dX5_appendInput_12 : decode cX5_appendInput 12 = .ok (.new 69, 3) := by decide +kernel
theorem dX5_appendInput_15 : decode cX5_appendInput 15 = .ok (.dup, 1) := by decide +kernel
theorem dX5_appendInput_16 : decode cX5_appendInput 16 = .ok (.ldc_w 276, 3) := by decide +kernel
theorem dX5_appendInput_19 : decode cX5_appendInput 19 = .ok (.invokespecial 73, 3) := by decide +kernel
theorem dX5_appendInput_22 : decode cX5_appendInput 22 = .ok (.athrow, 1) := by decide +kernel
theorem dX5_appendInput_23 : decode cX5_appendInput 23 = .ok (.aload_n 0, 1) := by decide +kernel
theorem dX5_appendInput_24 : decode cX5_appendInput 24 = .ok (.getfield 37, 3) := by decide +kernel
theorem dX5_appendInput_27 : decode cX5_appendInput 27 = .ok (.getfield 278, 3) := by decide +kernel
theorem dX5_appendInput_30 : decode cX5_appendInput 30 = .ok (.invokevirtual 265, 3) := by decide +kernel
theorem dX5_appendInput_33 : decode cX5_appendInput 33 = .ok (.bipush 60, 2) := by decide +kernel
theorem dX5_appendInput_35 : decode cX5_appendInput 35 = .ok (.if_icmp .lt 14, 3) := by decide +kernel
theorem dX5_appendInput_38 : decode cX5_appendInput 38 = .ok (.new 281, 3) := by decide +kernel
theorem dX5_appendInput_41 : decode cX5_appendInput 41 = .ok (.dup, 1) := by decide +kernel
theorem dX5_appendInput_42 : decode cX5_appendInput 42 = .ok (.ldc_w 283, 3) := by decide +kernel
theorem dX5_appendInput_45 : decode cX5_appendInput 45 = .ok (.invokespecial 285, 3) := by decide +kernel
theorem dX5_appendInput_48 : decode cX5_appendInput 48 = .ok (.athrow, 1) := by decide +kernel
theorem dX5_appendInput_49 : decode cX5_appendInput 49 = .ok (.aload_n 0, 1) := by decide +kernel
theorem dX5_appendInput_50 : decode cX5_appendInput 50 = .ok (.getfield 37, 3) := by decide +kernel
theorem dX5_appendInput_53 : decode cX5_appendInput 53 = .ok (.getfield 278, 3) := by decide +kernel
theorem dX5_appendInput_56 : decode cX5_appendInput 56 = .ok (.iload_n 1, 1) := by decide +kernel
theorem dX5_appendInput_57 : decode cX5_appendInput 57 = .ok (.invokevirtual 261, 3) := by decide +kernel
theorem dX5_appendInput_60 : decode cX5_appendInput 60 = .ok (.pop, 1) := by decide +kernel
theorem dX5_appendInput_61 : decode cX5_appendInput 61 = .ok (.aload_n 0, 1) := by decide +kernel
theorem dX5_appendInput_62 : decode cX5_appendInput 62 = .ok (.getfield 37, 3) := by decide +kernel
theorem dX5_appendInput_65 : decode cX5_appendInput 65 = .ok (.getfield 278, 3) := by decide +kernel
theorem dX5_appendInput_68 : decode cX5_appendInput 68 = .ok (.invokevirtual 265, 3) := by decide +kernel
theorem dX5_appendInput_71 : decode cX5_appendInput 71 = .ok (.ireturn, 1) := by decide +kernel
theorem dX5_execute_0 : decode cX5_execute 0 = .ok (.aload_n 0, 1) := by decide +kernel
theorem dX5_execute_1 : decode cX5_execute 1 = .ok (.getfield 37, 3) := by decide +kernel
theorem dX5_execute_4 : decode cX5_execute 4 = .ok (.invokevirtual 286, 3) := by decide +kernel
theorem dX5_execute_7 : decode cX5_execute 7 = .ok (.istore_n 1, 1) := by decide +kernel
theorem dX5_execute_8 : decode cX5_execute 8 = .ok (.aload_n 0, 1) := by decide +kernel
theorem dX5_execute_9 : decode cX5_execute 9 = .ok (.getfield 37, 3) := by decide +kernel
theorem dX5_execute_12 : decode cX5_execute 12 = .ok (.getfield 278, 3) := by decide +kernel
theorem dX5_execute_15 : decode cX5_execute 15 = .ok (.iconst 0, 1) := by decide +kernel
theorem dX5_execute_16 : decode cX5_execute 16 = .ok (.invokevirtual 254, 3) := by decide +kernel
theorem dX5_execute_19 : decode cX5_execute 19 = .ok (.iload_n 1, 1) := by decide +kernel
theorem dX5_execute_20 : decode cX5_execute 20 = .ok (.ifCond .ne 25, 3) := by decide +kernel
theorem dX5_execute_23 : decode cX5_execute 23 = .ok (.aload_n 0, 1) := by decide +kernel
theorem dX5_execute_24 : decode cX5_execute 24 = .ok (.aload_n 0, 1) := by decide +kernel
theorem dX5_execute_25 : decode cX5_execute 25 = .ok (.getfield 37, 3) := by decide +kernel
theorem dX5_execute_28 : decode cX5_execute 28 = .ok (.getfield 289, 3) := by decide +kernel
theorem dX5_execute_31 : decode cX5_execute 31 = .ok (.putfield 52, 3) := by decide +kernel
theorem dX5_execute_34 : decode cX5_execute 34 = .ok (.new 69, 3) := by decide +kernel
theorem dX5_execute_37 : decode cX5_execute 37 = .ok (.dup, 1) := by decide +kernel
theorem dX5_execute_38 : decode cX5_execute 38 = .ok (.ldc_w 292, 3) := by decide +kernel
theorem dX5_execute_41 : decode cX5_execute 41 = .ok (.invokespecial 73, 3) := by decide +kernel
theorem dX5_execute_44 : decode cX5_execute 44 = .ok (.athrow, 1) := by decide +kernel
theorem dX5_execute_45 : decode cX5_execute 45 = .ok (.aload_n 0, 1) := by decide +kernel
theorem dX5_execute_46 : decode cX5_execute 46 = .ok (.getfield 21, 3) := by decide +kernel
theorem dX5_execute_49 : decode cX5_execute 49 = .ok (.aload_n 0, 1) := by decide +kernel
theorem dX5_execute_50 : decode cX5_execute 50 = .ok (.getfield 15, 3) := by decide +kernel
theorem dX5_execute_53 : decode cX5_execute 53 = .ok (.invokevirtual 294, 3) := by decide +kernel
theorem dX5_execute_56 : decode cX5_execute 56 = .ok (.iconst 0, 1) := by decide +kernel
theorem dX5_execute_57 : decode cX5_execute 57 = .ok (.istore_n 2, 1) := by decide +kernel
theorem dX5_execute_58 : decode cX5_execute 58 = .ok (.iload_n 2, 1) := by decide +kernel
theorem dX5_execute_59 : decode cX5_execute 59 = .ok (.aload_n 0, 1) := by decide +kernel
theorem dX5_execute_60 : decode cX5_execute 60 = .ok (.getfield 37, 3) := by decide +kernel
theorem dX5_execute_63 : decode cX5_execute 63 = .ok (.getfield 298, 3) := by decide +kernel
theorem dX5_execute_66 : decode cX5_execute 66 = .ok (.if_icmp .ge 14, 3) := by decide +kernel
theorem dX5_execute_69 : decode cX5_execute 69 = .ok (.aload_n 0, 1) := by decide +kernel
theorem dX5_execute_70 : decode cX5_execute 70 = .ok (.iload_n 2, 1) := by decide +kernel
theorem dX5_execute_71 : decode cX5_execute 71 = .ok (.invokevirtual 299, 3) := by decide +kernel
theorem dX5_execute_74 : decode cX5_execute 74 = .ok (.iinc 2 1, 3) := by decide +kernel
theorem dX5_execute_77 : decode cX5_execute 77 = .ok (.goto (-19), 3) := by decide +kernel
theorem dX5_execute_80 : decode cX5_execute 80 = .ok (.aload_n 0, 1) := by decide +kernel
theorem dX5_execute_81 : decode cX5_execute 81 = .ok (.getfield 30, 3) := by decide +kernel
theorem dX5_execute_84 : decode cX5_execute 84 = .ok (.aload_n 0, 1) := by decide +kernel
theorem dX5_execute_85 : decode cX5_execute 85 = .ok (.getfield 15, 3) := by decide +kernel
theorem dX5_execute_88 : decode cX5_execute 88 = .ok (.invokevirtual 302, 3) := by decide +kernel
theorem dX5_execute_91 : decode cX5_execute 91 = .ok (.aload_n 0, 1) := by decide +kernel
theorem dX5_execute_92 : decode cX5_execute 92 = .ok (.getfield 15, 3) := by decide +kernel
theorem dX5_execute_95 : decode cX5_execute 95 = .ok (.aload_n 0, 1) := by decide +kernel
theorem dX5_execute_96 : decode cX5_execute 96 = .ok (.getfield 21, 3) := by decide +kernel
theorem dX5_execute_99 : decode cX5_execute 99 = .ok (.invokevirtual 294, 3) := by decide +kernel
theorem dX5_execute_102 : decode cX5_execute 102 = .ok (.aload_n 0, 1) := by decide +kernel
theorem dX5_execute_103 : decode cX5_execute 103 = .ok (.getfield 37, 3) := by decide +kernel
theorem dX5_execute_106 : decode cX5_execute 106 = .ok (.getfield 298, 3) := by decide +kernel
theorem dX5_execute_109 : decode cX5_execute 109 = .ok (.ireturn, 1) := by decide +kernel
theorem dX5_syntaxErrorOffset_0 : decode cX5_syntaxErrorOffset 0 = .ok (.aload_n 0, 1) := by decide +kernel
theorem dX5_syntaxErrorOffset_1 : decode cX5_syntaxErrorOffset 1 = .ok (.getfield 52, 3) := by decide +kernel
theorem dX5_syntaxErrorOffset_4 : decode cX5_syntaxErrorOffset 4 = .ok (.iconst (-1), 1) := by decide +kernel
theorem dX5_syntaxErrorOffset_5 : decode cX5_syntaxErrorOffset 5 = .ok (.if_icmp .ne 14, 3) := by decide +kernel
theorem dX5_syntaxErrorOffset_8 : decode cX5_syntaxErrorOffset 8 = .ok (.new 95, 3) := by decide +kernel
theorem dX5_syntaxErrorOffset_11 : decode cX5_syntaxErrorOffset 11 = .ok (.dup, 1) := by decide +kernel
theorem dX5_syntaxErrorOffset_12 : decode cX5_syntaxErrorOffset 12 = .ok (.ldc_w 305, 3) := by decide +kernel
theorem dX5_syntaxErrorOffset_15 : decode cX5_syntaxErrorOffset 15 = .ok (.invokespecial 99, 3) := by decide +kernel
theorem dX5_syntaxErrorOffset_18 : decode cX5_syntaxErrorOffset 18 = .ok (.athrow, 1) := by decide +kernel
theorem dX5_syntaxErrorOffset_19 : decode cX5_syntaxErrorOffset 19 = .ok (.aload_n 0, 1) := by decide +kernel
theorem dX5_syntaxErrorOffset_20 : decode cX5_syntaxErrorOffset 20 = .ok (.getfield 52, 3) := by decide +kernel
theorem dX5_syntaxErrorOffset_23 : decode cX5_syntaxErrorOffset 23 = .ok (.ireturn, 1) := by decide +kernel
theorem dX5_rejectionReason_0 : decode cX5_rejectionReason 0 = .ok (.aload_n 0, 1) := by decide +kernel
theorem dX5_rejectionReason_1 : decode cX5_rejectionReason 1 = .ok (.invokevirtual 307, 3) := by decide +kernel
theorem dX5_rejectionReason_4 : decode cX5_rejectionReason 4 = .ok (.aload_n 0, 1) := by decide +kernel
theorem dX5_rejectionReason_5 : decode cX5_rejectionReason 5 = .ok (.getfield 56, 3) := by decide +kernel
theorem dX5_rejectionReason_8 : decode cX5_rejectionReason 8 = .ok (.ireturn, 1) := by decide +kernel
theorem dX5_rejectionDetail_0 : decode cX5_rejectionDetail 0 = .ok (.aload_n 0, 1) := by decide +kernel
theorem dX5_rejectionDetail_1 : decode cX5_rejectionDetail 1 = .ok (.invokevirtual 307, 3) := by decide +kernel
theorem dX5_rejectionDetail_4 : decode cX5_rejectionDetail 4 = .ok (.aload_n 0, 1) := by decide +kernel
theorem dX5_rejectionDetail_5 : decode cX5_rejectionDetail 5 = .ok (.getfield 59, 3) := by decide +kernel
theorem dX5_rejectionDetail_8 : decode cX5_rejectionDetail 8 = .ok (.ireturn, 1) := by decide +kernel
theorem dX5_causeReason_0 : decode cX5_causeReason 0 = .ok (.aload_n 0, 1) := by decide +kernel
theorem dX5_causeReason_1 : decode cX5_causeReason 1 = .ok (.getfield 56, 3) := by decide +kernel
theorem dX5_causeReason_4 : decode cX5_causeReason 4 = .ok (.bipush 15, 2) := by decide +kernel
theorem dX5_causeReason_6 : decode cX5_causeReason 6 = .ok (.if_icmp .eq 14, 3) := by decide +kernel
theorem dX5_causeReason_9 : decode cX5_causeReason 9 = .ok (.new 95, 3) := by decide +kernel
theorem dX5_causeReason_12 : decode cX5_causeReason 12 = .ok (.dup, 1) := by decide +kernel
theorem dX5_causeReason_13 : decode cX5_causeReason 13 = .ok (.ldc_w 310, 3) := by decide +kernel
theorem dX5_causeReason_16 : decode cX5_causeReason 16 = .ok (.invokespecial 99, 3) := by decide +kernel
theorem dX5_causeReason_19 : decode cX5_causeReason 19 = .ok (.athrow, 1) := by decide +kernel
theorem dX5_causeReason_20 : decode cX5_causeReason 20 = .ok (.aload_n 0, 1) := by decide +kernel
theorem dX5_causeReason_21 : decode cX5_causeReason 21 = .ok (.getfield 62, 3) := by decide +kernel
theorem dX5_causeReason_24 : decode cX5_causeReason 24 = .ok (.ireturn, 1) := by decide +kernel
theorem dX5_undo_0 : decode cX5_undo 0 = .ok (.aload_n 0, 1) := by decide +kernel
theorem dX5_undo_1 : decode cX5_undo 1 = .ok (.getfield 30, 3) := by decide +kernel
theorem dX5_undo_4 : decode cX5_undo 4 = .ok (.getfield 312, 3) := by decide +kernel
theorem dX5_undo_7 : decode cX5_undo 7 = .ok (.ifCond .ne 14, 3) := by decide +kernel
theorem dX5_undo_10 : decode cX5_undo 10 = .ok (.new 281, 3) := by decide +kernel
theorem dX5_undo_13 : decode cX5_undo 13 = .ok (.dup, 1) := by decide +kernel
theorem dX5_undo_14 : decode cX5_undo 14 = .ok (.ldc_w 313, 3) := by decide +kernel
theorem dX5_undo_17 : decode cX5_undo 17 = .ok (.invokespecial 285, 3) := by decide +kernel
theorem dX5_undo_20 : decode cX5_undo 20 = .ok (.athrow, 1) := by decide +kernel
theorem dX5_undo_21 : decode cX5_undo 21 = .ok (.aload_n 0, 1) := by decide +kernel
theorem dX5_undo_22 : decode cX5_undo 22 = .ok (.getfield 30, 3) := by decide +kernel
theorem dX5_undo_25 : decode cX5_undo 25 = .ok (.aload_n 0, 1) := by decide +kernel
theorem dX5_undo_26 : decode cX5_undo 26 = .ok (.getfield 15, 3) := by decide +kernel
theorem dX5_undo_29 : decode cX5_undo 29 = .ok (.invokevirtual 315, 3) := by decide +kernel
theorem dX5_undo_32 : decode cX5_undo 32 = .ok (.aload_n 0, 1) := by decide +kernel
theorem dX5_undo_33 : decode cX5_undo 33 = .ok (.getfield 30, 3) := by decide +kernel
theorem dX5_undo_36 : decode cX5_undo 36 = .ok (.getfield 312, 3) := by decide +kernel
theorem dX5_undo_39 : decode cX5_undo 39 = .ok (.ireturn, 1) := by decide +kernel
theorem dX5_saveSnapshot_0 : decode cX5_saveSnapshot 0 = .ok (.aload_n 0, 1) := by decide +kernel
theorem dX5_saveSnapshot_1 : decode cX5_saveSnapshot 1 = .ok (.getfield 24, 3) := by decide +kernel
theorem dX5_saveSnapshot_4 : decode cX5_saveSnapshot 4 = .ok (.aload_n 0, 1) := by decide +kernel
theorem dX5_saveSnapshot_5 : decode cX5_saveSnapshot 5 = .ok (.getfield 15, 3) := by decide +kernel
theorem dX5_saveSnapshot_8 : decode cX5_saveSnapshot 8 = .ok (.invokevirtual 294, 3) := by decide +kernel
theorem dX5_saveSnapshot_11 : decode cX5_saveSnapshot 11 = .ok (.aload_n 0, 1) := by decide +kernel
theorem dX5_saveSnapshot_12 : decode cX5_saveSnapshot 12 = .ok (.iconst 1, 1) := by decide +kernel
theorem dX5_saveSnapshot_13 : decode cX5_saveSnapshot 13 = .ok (.putfield 48, 3) := by decide +kernel
theorem dX5_saveSnapshot_16 : decode cX5_saveSnapshot 16 = .ok (.aload_n 0, 1) := by decide +kernel
theorem dX5_saveSnapshot_17 : decode cX5_saveSnapshot 17 = .ok (.getfield 15, 3) := by decide +kernel
theorem dX5_saveSnapshot_20 : decode cX5_saveSnapshot 20 = .ok (.getfield 188, 3) := by decide +kernel
theorem dX5_saveSnapshot_23 : decode cX5_saveSnapshot 23 = .ok (.getfield 192, 3) := by decide +kernel
theorem dX5_saveSnapshot_26 : decode cX5_saveSnapshot 26 = .ok (.ireturn, 1) := by decide +kernel
theorem dX5_restoreSnapshot_0 : decode cX5_restoreSnapshot 0 = .ok (.aload_n 0, 1) := by decide +kernel
theorem dX5_restoreSnapshot_1 : decode cX5_restoreSnapshot 1 = .ok (.getfield 48, 3) := by decide +kernel
theorem dX5_restoreSnapshot_4 : decode cX5_restoreSnapshot 4 = .ok (.ifCond .ne 14, 3) := by decide +kernel
theorem dX5_restoreSnapshot_7 : decode cX5_restoreSnapshot 7 = .ok (.new 281, 3) := by decide +kernel
theorem dX5_restoreSnapshot_10 : decode cX5_restoreSnapshot 10 = .ok (.dup, 1) := by decide +kernel
theorem dX5_restoreSnapshot_11 : decode cX5_restoreSnapshot 11 = .ok (.ldc_w 318, 3) := by decide +kernel
theorem dX5_restoreSnapshot_14 : decode cX5_restoreSnapshot 14 = .ok (.invokespecial 285, 3) := by decide +kernel
theorem dX5_restoreSnapshot_17 : decode cX5_restoreSnapshot 17 = .ok (.athrow, 1) := by decide +kernel
theorem dX5_restoreSnapshot_18 : decode cX5_restoreSnapshot 18 = .ok (.aload_n 0, 1) := by decide +kernel
theorem dX5_restoreSnapshot_19 : decode cX5_restoreSnapshot 19 = .ok (.getfield 15, 3) := by decide +kernel
theorem dX5_restoreSnapshot_22 : decode cX5_restoreSnapshot 22 = .ok (.aload_n 0, 1) := by decide +kernel
theorem dX5_restoreSnapshot_23 : decode cX5_restoreSnapshot 23 = .ok (.getfield 24, 3) := by decide +kernel
theorem dX5_restoreSnapshot_26 : decode cX5_restoreSnapshot 26 = .ok (.invokevirtual 294, 3) := by decide +kernel
theorem dX5_restoreSnapshot_29 : decode cX5_restoreSnapshot 29 = .ok (.aload_n 0, 1) := by decide +kernel
theorem dX5_restoreSnapshot_30 : decode cX5_restoreSnapshot 30 = .ok (.getfield 30, 3) := by decide +kernel
theorem dX5_restoreSnapshot_33 : decode cX5_restoreSnapshot 33 = .ok (.invokevirtual 320, 3) := by decide +kernel
theorem dX5_restoreSnapshot_36 : decode cX5_restoreSnapshot 36 = .ok (.aload_n 0, 1) := by decide +kernel
theorem dX5_restoreSnapshot_37 : decode cX5_restoreSnapshot 37 = .ok (.getfield 15, 3) := by decide +kernel
theorem dX5_restoreSnapshot_40 : decode cX5_restoreSnapshot 40 = .ok (.getfield 188, 3) := by decide +kernel
theorem dX5_restoreSnapshot_43 : decode cX5_restoreSnapshot 43 = .ok (.getfield 192, 3) := by decide +kernel
theorem dX5_restoreSnapshot_46 : decode cX5_restoreSnapshot 46 = .ok (.ireturn, 1) := by decide +kernel
theorem dX5_change_0 : decode cX5_change 0 = .ok (.aload_n 0, 1) := by decide +kernel
theorem dX5_change_1 : decode cX5_change 1 = .ok (.getfield 15, 3) := by decide +kernel
theorem dX5_change_4 : decode cX5_change 4 = .ok (.iload_n 1, 1) := by decide +kernel
theorem dX5_change_5 : decode cX5_change 5 = .ok (.iload_n 2, 1) := by decide +kernel
theorem dX5_change_6 : decode cX5_change 6 = .ok (.iload_n 3, 1) := by decide +kernel
theorem dX5_change_7 : decode cX5_change 7 = .ok (.invokevirtual 323, 3) := by decide +kernel
theorem dX5_change_10 : decode cX5_change 10 = .ok (.istore 4, 2) := by decide +kernel
theorem dX5_change_12 : decode cX5_change 12 = .ok (.iload 4, 2) := by decide +kernel
theorem dX5_change_14 : decode cX5_change 14 = .ok (.ifCond .eq 17, 3) := by decide +kernel
theorem dX5_change_17 : decode cX5_change 17 = .ok (.aload_n 0, 1) := by decide +kernel
theorem dX5_change_18 : decode cX5_change 18 = .ok (.iload 4, 2) := by decide +kernel
theorem dX5_change_20 : decode cX5_change 20 = .ok (.aload_n 0, 1) := by decide +kernel
theorem dX5_change_21 : decode cX5_change 21 = .ok (.getfield 15, 3) := by decide +kernel
theorem dX5_change_24 : decode cX5_change 24 = .ok (.getfield 326, 3) := by decide +kernel
theorem dX5_change_27 : decode cX5_change 27 = .ok (.iconst 0, 1) := by decide +kernel
theorem dX5_change_28 : decode cX5_change 28 = .ok (.invokevirtual 329, 3) := by decide +kernel
theorem dX5_change_31 : decode cX5_change 31 = .ok (.aload_n 0, 1) := by decide +kernel
theorem dX5_change_32 : decode cX5_change 32 = .ok (.getfield 30, 3) := by decide +kernel
theorem dX5_change_35 : decode cX5_change 35 = .ok (.aload_n 0, 1) := by decide +kernel
theorem dX5_change_36 : decode cX5_change 36 = .ok (.getfield 15, 3) := by decide +kernel
theorem dX5_change_39 : decode cX5_change 39 = .ok (.invokevirtual 302, 3) := by decide +kernel
theorem dX5_change_42 : decode cX5_change 42 = .ok (.aload_n 0, 1) := by decide +kernel
theorem dX5_change_43 : decode cX5_change 43 = .ok (.getfield 15, 3) := by decide +kernel
theorem dX5_change_46 : decode cX5_change 46 = .ok (.iload_n 1, 1) := by decide +kernel
theorem dX5_change_47 : decode cX5_change 47 = .ok (.iload_n 2, 1) := by decide +kernel
theorem dX5_change_48 : decode cX5_change 48 = .ok (.iload_n 3, 1) := by decide +kernel
theorem dX5_change_49 : decode cX5_change 49 = .ok (.invokevirtual 333, 3) := by decide +kernel
theorem dX5_change_52 : decode cX5_change 52 = .ok (.ireturn, 1) := by decide +kernel
theorem dX5_tryCommand_0 : decode cX5_tryCommand 0 = .ok (.aload_n 0, 1) := by decide +kernel
theorem dX5_tryCommand_1 : decode cX5_tryCommand 1 = .ok (.getfield 37, 3) := by decide +kernel
theorem dX5_tryCommand_4 : decode cX5_tryCommand 4 = .ok (.getfield 336, 3) := by decide +kernel
theorem dX5_tryCommand_7 : decode cX5_tryCommand 7 = .ok (.iload_n 1, 1) := by decide +kernel
theorem dX5_tryCommand_8 : decode cX5_tryCommand 8 = .ok (.iaload, 1) := by decide +kernel
theorem dX5_tryCommand_9 : decode cX5_tryCommand 9 = .ok (.istore_n 2, 1) := by decide +kernel
theorem dX5_tryCommand_10 : decode cX5_tryCommand 10 = .ok (.aload_n 0, 1) := by decide +kernel
theorem dX5_tryCommand_11 : decode cX5_tryCommand 11 = .ok (.getfield 37, 3) := by decide +kernel
theorem dX5_tryCommand_14 : decode cX5_tryCommand 14 = .ok (.getfield 339, 3) := by decide +kernel
theorem dX5_tryCommand_17 : decode cX5_tryCommand 17 = .ok (.iload_n 1, 1) := by decide +kernel
theorem dX5_tryCommand_18 : decode cX5_tryCommand 18 = .ok (.iaload, 1) := by decide +kernel
theorem dX5_tryCommand_19 : decode cX5_tryCommand 19 = .ok (.istore_n 3, 1) := by decide +kernel
theorem dX5_tryCommand_20 : decode cX5_tryCommand 20 = .ok (.aload_n 0, 1) := by decide +kernel
theorem dX5_tryCommand_21 : decode cX5_tryCommand 21 = .ok (.getfield 37, 3) := by decide +kernel
theorem dX5_tryCommand_24 : decode cX5_tryCommand 24 = .ok (.getfield 342, 3) := by decide +kernel
theorem dX5_tryCommand_27 : decode cX5_tryCommand 27 = .ok (.iload_n 1, 1) := by decide +kernel
theorem dX5_tryCommand_28 : decode cX5_tryCommand 28 = .ok (.iaload, 1) := by decide +kernel
theorem dX5_tryCommand_29 : decode cX5_tryCommand 29 = .ok (.istore 4, 2) := by decide +kernel
theorem dX5_tryCommand_31 : decode cX5_tryCommand 31 = .ok (.iload_n 2, 1) := by decide +kernel
theorem dX5_tryCommand_32 : decode cX5_tryCommand 32 = .ok (.iload_n 3, 1) := by decide +kernel
theorem dX5_tryCommand_33 : decode cX5_tryCommand 33 = .ok (.iload 4, 2) := by decide +kernel
theorem dX5_tryCommand_35 : decode cX5_tryCommand 35 = .ok (.invokestatic 345, 3) := by decide +kernel
theorem dX5_tryCommand_38 : decode cX5_tryCommand 38 = .ok (.ifCond .ne 14, 3) := by decide +kernel
theorem dX5_tryCommand_41 : decode cX5_tryCommand 41 = .ok (.new 281, 3) := by decide +kernel
theorem dX5_tryCommand_44 : decode cX5_tryCommand 44 = .ok (.dup, 1) := by decide +kernel
theorem dX5_tryCommand_45 : decode cX5_tryCommand 45 = .ok (.ldc_w 349, 3) := by decide +kernel
theorem dX5_tryCommand_48 : decode cX5_tryCommand 48 = .ok (.invokespecial 285, 3) := by decide +kernel
theorem dX5_tryCommand_51 : decode cX5_tryCommand 51 = .ok (.athrow, 1) := by decide +kernel
theorem dX5_tryCommand_52 : decode cX5_tryCommand 52 = .ok (.aload_n 0, 1) := by decide +kernel
theorem dX5_tryCommand_53 : decode cX5_tryCommand 53 = .ok (.getfield 21, 3) := by decide +kernel
theorem dX5_tryCommand_56 : decode cX5_tryCommand 56 = .ok (.iload_n 2, 1) := by decide +kernel
theorem dX5_tryCommand_57 : decode cX5_tryCommand 57 = .ok (.iload_n 3, 1) := by decide +kernel
theorem dX5_tryCommand_58 : decode cX5_tryCommand 58 = .ok (.iload 4, 2) := by decide +kernel
theorem dX5_tryCommand_60 : decode cX5_tryCommand 60 = .ok (.invokevirtual 323, 3) := by decide +kernel
theorem dX5_tryCommand_63 : decode cX5_tryCommand 63 = .ok (.istore 5, 2) := by decide +kernel
theorem dX5_tryCommand_65 : decode cX5_tryCommand 65 = .ok (.iload 5, 2) := by decide +kernel
theorem dX5_tryCommand_67 : decode cX5_tryCommand 67 = .ok (.ifCond .eq 12, 3) := by decide +kernel
theorem dX5_tryCommand_70 : decode cX5_tryCommand 70 = .ok (.aload_n 0, 1) := by decide +kernel
theorem dX5_tryCommand_71 : decode cX5_tryCommand 71 = .ok (.bipush 15, 2) := by decide +kernel
theorem dX5_tryCommand_73 : decode cX5_tryCommand 73 = .ok (.iload_n 1, 1) := by decide +kernel
theorem dX5_tryCommand_74 : decode cX5_tryCommand 74 = .ok (.iload 5, 2) := by decide +kernel
theorem dX5_tryCommand_76 : decode cX5_tryCommand 76 = .ok (.invokevirtual 329, 3) := by decide +kernel
theorem dX5_tryCommand_79 : decode cX5_tryCommand 79 = .ok (.aload_n 0, 1) := by decide +kernel
theorem dX5_tryCommand_80 : decode cX5_tryCommand 80 = .ok (.getfield 21, 3) := by decide +kernel
theorem dX5_tryCommand_83 : decode cX5_tryCommand 83 = .ok (.iload_n 2, 1) := by decide +kernel
theorem dX5_tryCommand_84 : decode cX5_tryCommand 84 = .ok (.iload_n 3, 1) := by decide +kernel
theorem dX5_tryCommand_85 : decode cX5_tryCommand 85 = .ok (.iload 4, 2) := by decide +kernel
theorem dX5_tryCommand_87 : decode cX5_tryCommand 87 = .ok (.invokevirtual 333, 3) := by decide +kernel
theorem dX5_tryCommand_90 : decode cX5_tryCommand 90 = .ok (.pop, 1) := by decide +kernel
theorem dX5_tryCommand_91 : decode cX5_tryCommand 91 = .ok (.return_, 1) := by decide +kernel
theorem dX5_reject_0 : decode cX5_reject 0 = .ok (.aload_n 0, 1) := by decide +kernel
theorem dX5_reject_1 : decode cX5_reject 1 = .ok (.iload_n 1, 1) := by decide +kernel
theorem dX5_reject_2 : decode cX5_reject 2 = .ok (.putfield 56, 3) := by decide +kernel
theorem dX5_reject_5 : decode cX5_reject 5 = .ok (.aload_n 0, 1) := by decide +kernel
theorem dX5_reject_6 : decode cX5_reject 6 = .ok (.iload_n 2, 1) := by decide +kernel
theorem dX5_reject_7 : decode cX5_reject 7 = .ok (.putfield 59, 3) := by decide +kernel
theorem dX5_reject_10 : decode cX5_reject 10 = .ok (.aload_n 0, 1) := by decide +kernel
theorem dX5_reject_11 : decode cX5_reject 11 = .ok (.iload_n 3, 1) := by decide +kernel
theorem dX5_reject_12 : decode cX5_reject 12 = .ok (.putfield 62, 3) := by decide +kernel
theorem dX5_reject_15 : decode cX5_reject 15 = .ok (.new 351, 3) := by decide +kernel
theorem dX5_reject_18 : decode cX5_reject 18 = .ok (.dup, 1) := by decide +kernel
theorem dX5_reject_19 : decode cX5_reject 19 = .ok (.ldc_w 353, 3) := by decide +kernel
theorem dX5_reject_22 : decode cX5_reject 22 = .ok (.invokespecial 355, 3) := by decide +kernel
theorem dX5_reject_25 : decode cX5_reject 25 = .ok (.athrow, 1) := by decide +kernel
theorem dX5_requireRejection_0 : decode cX5_requireRejection 0 = .ok (.aload_n 0, 1) := by decide +kernel
theorem dX5_requireRejection_1 : decode cX5_requireRejection 1 = .ok (.getfield 56, 3) := by decide +kernel
theorem dX5_requireRejection_4 : decode cX5_requireRejection 4 = .ok (.ifCond .ne 14, 3) := by decide +kernel
theorem dX5_requireRejection_7 : decode cX5_requireRejection 7 = .ok (.new 95, 3) := by decide +kernel
theorem dX5_requireRejection_10 : decode cX5_requireRejection 10 = .ok (.dup, 1) := by decide +kernel
theorem dX5_requireRejection_11 : decode cX5_requireRejection 11 = .ok (.ldc_w 356, 3) := by decide +kernel
theorem dX5_requireRejection_14 : decode cX5_requireRejection 14 = .ok (.invokespecial 99, 3) := by decide +kernel
theorem dX5_requireRejection_17 : decode cX5_requireRejection 17 = .ok (.athrow, 1) := by decide +kernel
theorem dX5_requireRejection_18 : decode cX5_requireRejection 18 = .ok (.return_, 1) := by decide +kernel
theorem dX5_requireCourse_0 : decode cX5_requireCourse 0 = .ok (.iload_n 1, 1) := by decide +kernel
theorem dX5_requireCourse_1 : decode cX5_requireCourse 1 = .ok (.ifCond .lt 17, 3) := by decide +kernel
theorem dX5_requireCourse_4 : decode cX5_requireCourse 4 = .ok (.iload_n 1, 1) := by decide +kernel
theorem dX5_requireCourse_5 : decode cX5_requireCourse 5 = .ok (.aload_n 0, 1) := by decide +kernel
theorem dX5_requireCourse_6 : decode cX5_requireCourse 6 = .ok (.getfield 15, 3) := by decide +kernel
theorem dX5_requireCourse_9 : decode cX5_requireCourse 9 = .ok (.getfield 188, 3) := by decide +kernel
theorem dX5_requireCourse_12 : decode cX5_requireCourse 12 = .ok (.getfield 192, 3) := by decide +kernel
theorem dX5_requireCourse_15 : decode cX5_requireCourse 15 = .ok (.if_icmp .lt 14, 3) := by decide +kernel
theorem dX5_requireCourse_18 : decode cX5_requireCourse 18 = .ok (.new 152, 3) := by decide +kernel
theorem dX5_requireCourse_21 : decode cX5_requireCourse 21 = .ok (.dup, 1) := by decide +kernel
theorem dX5_requireCourse_22 : decode cX5_requireCourse 22 = .ok (.ldc_w 358, 3) := by decide +kernel
theorem dX5_requireCourse_25 : decode cX5_requireCourse 25 = .ok (.invokespecial 156, 3) := by decide +kernel
theorem dX5_requireCourse_28 : decode cX5_requireCourse 28 = .ok (.athrow, 1) := by decide +kernel
theorem dX5_requireCourse_29 : decode cX5_requireCourse 29 = .ok (.return_, 1) := by decide +kernel
theorem dX5_requireNeedle_0 : decode cX5_requireNeedle 0 = .ok (.iload_n 0, 1) := by decide +kernel
theorem dX5_requireNeedle_1 : decode cX5_requireNeedle 1 = .ok (.invokestatic 360, 3) := by decide +kernel
theorem dX5_requireNeedle_4 : decode cX5_requireNeedle 4 = .ok (.ifCond .ne 14, 3) := by decide +kernel
theorem dX5_requireNeedle_7 : decode cX5_requireNeedle 7 = .ok (.new 152, 3) := by decide +kernel
theorem dX5_requireNeedle_10 : decode cX5_requireNeedle 10 = .ok (.dup, 1) := by decide +kernel
theorem dX5_requireNeedle_11 : decode cX5_requireNeedle 11 = .ok (.ldc_w 363, 3) := by decide +kernel
theorem dX5_requireNeedle_14 : decode cX5_requireNeedle 14 = .ok (.invokespecial 156, 3) := by decide +kernel
theorem dX5_requireNeedle_17 : decode cX5_requireNeedle 17 = .ok (.athrow, 1) := by decide +kernel
theorem dX5_requireNeedle_18 : decode cX5_requireNeedle 18 = .ok (.return_, 1) := by decide +kernel
theorem dX5_requireFeeder_0 : decode cX5_requireFeeder 0 = .ok (.iload_n 0, 1) := by decide +kernel
theorem dX5_requireFeeder_1 : decode cX5_requireFeeder 1 = .ok (.invokestatic 365, 3) := by decide +kernel
theorem dX5_requireFeeder_4 : decode cX5_requireFeeder 4 = .ok (.ifCond .ne 14, 3) := by decide +kernel
theorem dX5_requireFeeder_7 : decode cX5_requireFeeder 7 = .ok (.new 152, 3) := by decide +kernel
theorem dX5_requireFeeder_10 : decode cX5_requireFeeder 10 = .ok (.dup, 1) := by decide +kernel
theorem dX5_requireFeeder_11 : decode cX5_requireFeeder 11 = .ok (.ldc_w 368, 3) := by decide +kernel
theorem dX5_requireFeeder_14 : decode cX5_requireFeeder 14 = .ok (.invokespecial 156, 3) := by decide +kernel
theorem dX5_requireFeeder_17 : decode cX5_requireFeeder 17 = .ok (.athrow, 1) := by decide +kernel
theorem dX5_requireFeeder_18 : decode cX5_requireFeeder 18 = .ok (.return_, 1) := by decide +kernel
theorem dX5_requireCourses_0 : decode cX5_requireCourses 0 = .ok (.iload_n 0, 1) := by decide +kernel
theorem dX5_requireCourses_1 : decode cX5_requireCourses 1 = .ok (.invokestatic 370, 3) := by decide +kernel
theorem dX5_requireCourses_4 : decode cX5_requireCourses 4 = .ok (.ifCond .ne 14, 3) := by decide +kernel
theorem dX5_requireCourses_7 : decode cX5_requireCourses 7 = .ok (.new 69, 3) := by decide +kernel
theorem dX5_requireCourses_10 : decode cX5_requireCourses 10 = .ok (.dup, 1) := by decide +kernel
theorem dX5_requireCourses_11 : decode cX5_requireCourses 11 = .ok (.ldc_w 373, 3) := by decide +kernel
theorem dX5_requireCourses_14 : decode cX5_requireCourses 14 = .ok (.invokespecial 73, 3) := by decide +kernel
theorem dX5_requireCourses_17 : decode cX5_requireCourses 17 = .ok (.athrow, 1) := by decide +kernel
theorem dX5_requireCourses_18 : decode cX5_requireCourses 18 = .ok (.return_, 1) := by decide +kernel
theorem dX5_fits_0 : decode cX5_fits 0 = .ok (.iload_n 0, 1) := by decide +kernel
theorem dX5_fits_1 : decode cX5_fits 1 = .ok (.tableswitch 172 99 121 #[107, 132, 172, 157, 132, 132, 172, 172, 167, 132, 172, 172, 172, 172, 172, 132, 172, 162, 132, 172, 172, 172, 137], 107) := by decide +kernel
theorem dX5_fits_108 : decode cX5_fits 108 = .ok (.iload_n 1, 1) := by decide +kernel
theorem dX5_fits_109 : decode cX5_fits 109 = .ok (.invokestatic 360, 3) := by decide +kernel
theorem dX5_fits_112 : decode cX5_fits 112 = .ok (.ifCond .eq 19, 3) := by decide +kernel
theorem dX5_fits_115 : decode cX5_fits 115 = .ok (.iload_n 2, 1) := by decide +kernel
theorem dX5_fits_116 : decode cX5_fits 116 = .ok (.invokestatic 360, 3) := by decide +kernel
theorem dX5_fits_119 : decode cX5_fits 119 = .ok (.ifCond .eq 12, 3) := by decide +kernel
theorem dX5_fits_122 : decode cX5_fits 122 = .ok (.iload_n 1, 1) := by decide +kernel
theorem dX5_fits_123 : decode cX5_fits 123 = .ok (.iload_n 2, 1) := by decide +kernel
theorem dX5_fits_124 : decode cX5_fits 124 = .ok (.if_icmp .gt 7, 3) := by decide +kernel
theorem dX5_fits_127 : decode cX5_fits 127 = .ok (.iconst 1, 1) := by decide +kernel
theorem dX5_fits_128 : decode cX5_fits 128 = .ok (.goto 4, 3) := by decide +kernel
theorem dX5_fits_131 : decode cX5_fits 131 = .ok (.iconst 0, 1) := by decide +kernel
theorem dX5_fits_132 : decode cX5_fits 132 = .ok (.ireturn, 1) := by decide +kernel
theorem dX5_fits_133 : decode cX5_fits 133 = .ok (.iload_n 1, 1) := by decide +kernel
theorem dX5_fits_134 : decode cX5_fits 134 = .ok (.invokestatic 360, 3) := by decide +kernel
theorem dX5_fits_137 : decode cX5_fits 137 = .ok (.ireturn, 1) := by decide +kernel
theorem dX5_fits_138 : decode cX5_fits 138 = .ok (.iload_n 1, 1) := by decide +kernel
theorem dX5_fits_139 : decode cX5_fits 139 = .ok (.invokestatic 365, 3) := by decide +kernel
theorem dX5_fits_142 : decode cX5_fits 142 = .ok (.ifCond .eq 14, 3) := by decide +kernel
theorem dX5_fits_145 : decode cX5_fits 145 = .ok (.iload_n 2, 1) := by decide +kernel
theorem dX5_fits_146 : decode cX5_fits 146 = .ok (.invokestatic 128, 3) := by decide +kernel
theorem dX5_fits_149 : decode cX5_fits 149 = .ok (.ifCond .eq 7, 3) := by decide +kernel
theorem dX5_fits_152 : decode cX5_fits 152 = .ok (.iconst 1, 1) := by decide +kernel
theorem dX5_fits_153 : decode cX5_fits 153 = .ok (.goto 4, 3) := by decide +kernel
theorem dX5_fits_156 : decode cX5_fits 156 = .ok (.iconst 0, 1) := by decide +kernel
theorem dX5_fits_157 : decode cX5_fits 157 = .ok (.ireturn, 1) := by decide +kernel
theorem dX5_fits_158 : decode cX5_fits 158 = .ok (.iload_n 1, 1) := by decide +kernel
theorem dX5_fits_159 : decode cX5_fits 159 = .ok (.invokestatic 365, 3) := by decide +kernel
theorem dX5_fits_162 : decode cX5_fits 162 = .ok (.ireturn, 1) := by decide +kernel
theorem dX5_fits_163 : decode cX5_fits 163 = .ok (.iload_n 1, 1) := by decide +kernel
theorem dX5_fits_164 : decode cX5_fits 164 = .ok (.invokestatic 133, 3) := by decide +kernel
theorem dX5_fits_167 : decode cX5_fits 167 = .ok (.ireturn, 1) := by decide +kernel
theorem dX5_fits_168 : decode cX5_fits 168 = .ok (.iload_n 1, 1) := by decide +kernel
theorem dX5_fits_169 : decode cX5_fits 169 = .ok (.invokestatic 370, 3) := by decide +kernel
theorem dX5_fits_172 : decode cX5_fits 172 = .ok (.ireturn, 1) := by decide +kernel
theorem dX5_fits_173 : decode cX5_fits 173 = .ok (.iconst 1, 1) := by decide +kernel
theorem dX5_fits_174 : decode cX5_fits 174 = .ok (.ireturn, 1) := by decide +kernel
theorem dX5_isFeeder_0 : decode cX5_isFeeder 0 = .ok (.iload_n 0, 1) := by decide +kernel
theorem dX5_isFeeder_1 : decode cX5_isFeeder 1 = .ok (.ifCond .lt 12, 3) := by decide +kernel
theorem dX5_isFeeder_4 : decode cX5_isFeeder 4 = .ok (.iload_n 0, 1) := by decide +kernel
theorem dX5_isFeeder_5 : decode cX5_isFeeder 5 = .ok (.iconst 4, 1) := by decide +kernel
theorem dX5_isFeeder_6 : decode cX5_isFeeder 6 = .ok (.if_icmp .ge 7, 3) := by decide +kernel
theorem dX5_isFeeder_9 : decode cX5_isFeeder 9 = .ok (.iconst 1, 1) := by decide +kernel
theorem dX5_isFeeder_10 : decode cX5_isFeeder 10 = .ok (.goto 4, 3) := by decide +kernel
theorem dX5_isFeeder_13 : decode cX5_isFeeder 13 = .ok (.iconst 0, 1) := by decide +kernel
theorem dX5_isFeeder_14 : decode cX5_isFeeder 14 = .ok (.ireturn, 1) := by decide +kernel
theorem dX5_areUnits_0 : decode cX5_areUnits 0 = .ok (.iload_n 0, 1) := by decide +kernel
theorem dX5_areUnits_1 : decode cX5_areUnits 1 = .ok (.iconst 1, 1) := by decide +kernel
theorem dX5_areUnits_2 : decode cX5_areUnits 2 = .ok (.if_icmp .lt 13, 3) := by decide +kernel
theorem dX5_areUnits_5 : decode cX5_areUnits 5 = .ok (.iload_n 0, 1) := by decide +kernel
theorem dX5_areUnits_6 : decode cX5_areUnits 6 = .ok (.bipush 99, 2) := by decide +kernel
theorem dX5_areUnits_8 : decode cX5_areUnits 8 = .ok (.if_icmp .gt 7, 3) := by decide +kernel
theorem dX5_areUnits_11 : decode cX5_areUnits 11 = .ok (.iconst 1, 1) := by decide +kernel
theorem dX5_areUnits_12 : decode cX5_areUnits 12 = .ok (.goto 4, 3) := by decide +kernel
theorem dX5_areUnits_15 : decode cX5_areUnits 15 = .ok (.iconst 0, 1) := by decide +kernel
theorem dX5_areUnits_16 : decode cX5_areUnits 16 = .ok (.ireturn, 1) := by decide +kernel
theorem dX5_isTension_0 : decode cX5_isTension 0 = .ok (.iload_n 0, 1) := by decide +kernel
theorem dX5_isTension_1 : decode cX5_isTension 1 = .ok (.iconst 1, 1) := by decide +kernel
theorem dX5_isTension_2 : decode cX5_isTension 2 = .ok (.if_icmp .lt 13, 3) := by decide +kernel
theorem dX5_isTension_5 : decode cX5_isTension 5 = .ok (.iload_n 0, 1) := by decide +kernel
theorem dX5_isTension_6 : decode cX5_isTension 6 = .ok (.bipush 9, 2) := by decide +kernel
theorem dX5_isTension_8 : decode cX5_isTension 8 = .ok (.if_icmp .gt 7, 3) := by decide +kernel
theorem dX5_isTension_11 : decode cX5_isTension 11 = .ok (.iconst 1, 1) := by decide +kernel
theorem dX5_isTension_12 : decode cX5_isTension 12 = .ok (.goto 4, 3) := by decide +kernel
theorem dX5_isTension_15 : decode cX5_isTension 15 = .ok (.iconst 0, 1) := by decide +kernel
theorem dX5_isTension_16 : decode cX5_isTension 16 = .ok (.ireturn, 1) := by decide +kernel
theorem dX5_areCourses_0 : decode cX5_areCourses 0 = .ok (.iload_n 0, 1) := by decide +kernel
theorem dX5_areCourses_1 : decode cX5_areCourses 1 = .ok (.iconst 1, 1) := by decide +kernel
theorem dX5_areCourses_2 : decode cX5_areCourses 2 = .ok (.if_icmp .lt 13, 3) := by decide +kernel
theorem dX5_areCourses_5 : decode cX5_areCourses 5 = .ok (.iload_n 0, 1) := by decide +kernel
theorem dX5_areCourses_6 : decode cX5_areCourses 6 = .ok (.bipush 10, 2) := by decide +kernel
theorem dX5_areCourses_8 : decode cX5_areCourses 8 = .ok (.if_icmp .gt 7, 3) := by decide +kernel
theorem dX5_areCourses_11 : decode cX5_areCourses 11 = .ok (.iconst 1, 1) := by decide +kernel
theorem dX5_areCourses_12 : decode cX5_areCourses 12 = .ok (.goto 4, 3) := by decide +kernel
theorem dX5_areCourses_15 : decode cX5_areCourses 15 = .ok (.iconst 0, 1) := by decide +kernel
theorem dX5_areCourses_16 : decode cX5_areCourses 16 = .ok (.ireturn, 1) := by decide +kernel
theorem dX6_init_0 : decode cX6_init 0 = .ok (.aload_n 0, 1) := by decide +kernel
theorem dX6_init_1 : decode cX6_init 1 = .ok (.invokespecial 1, 3) := by decide +kernel
theorem dX6_init_4 : decode cX6_init 4 = .ok (.aload_n 0, 1) := by decide +kernel
theorem dX6_init_5 : decode cX6_init 5 = .ok (.iconst (-1), 1) := by decide +kernel
theorem dX6_init_6 : decode cX6_init 6 = .ok (.putfield 7, 3) := by decide +kernel
theorem dX6_init_9 : decode cX6_init 9 = .ok (.aload_n 0, 1) := by decide +kernel
theorem dX6_init_10 : decode cX6_init 10 = .ok (.sipush 188, 3) := by decide +kernel
theorem dX6_init_13 : decode cX6_init 13 = .ok (.newarray .int, 2) := by decide +kernel
theorem dX6_init_15 : decode cX6_init 15 = .ok (.putfield 13, 3) := by decide +kernel
theorem dX6_init_18 : decode cX6_init 18 = .ok (.aload_n 0, 1) := by decide +kernel
theorem dX6_init_19 : decode cX6_init 19 = .ok (.sipush 188, 3) := by decide +kernel
theorem dX6_init_22 : decode cX6_init 22 = .ok (.newarray .int, 2) := by decide +kernel
theorem dX6_init_24 : decode cX6_init 24 = .ok (.putfield 17, 3) := by decide +kernel
theorem dX6_init_27 : decode cX6_init 27 = .ok (.aload_n 0, 1) := by decide +kernel
theorem dX6_init_28 : decode cX6_init 28 = .ok (.sipush 188, 3) := by decide +kernel
theorem dX6_init_31 : decode cX6_init 31 = .ok (.newarray .int, 2) := by decide +kernel
theorem dX6_init_33 : decode cX6_init 33 = .ok (.putfield 20, 3) := by decide +kernel
theorem dX6_init_36 : decode cX6_init 36 = .ok (.aload_n 0, 1) := by decide +kernel
theorem dX6_init_37 : decode cX6_init 37 = .ok (.sipush 188, 3) := by decide +kernel
theorem dX6_init_40 : decode cX6_init 40 = .ok (.newarray .int, 2) := by decide +kernel
theorem dX6_init_42 : decode cX6_init 42 = .ok (.putfield 23, 3) := by decide +kernel
theorem dX6_init_45 : decode cX6_init 45 = .ok (.aload_n 0, 1) := by decide +kernel
theorem dX6_init_46 : decode cX6_init 46 = .ok (.sipush 1504, 3) := by decide +kernel
theorem dX6_init_49 : decode cX6_init 49 = .ok (.newarray .int, 2) := by decide +kernel
theorem dX6_init_51 : decode cX6_init 51 = .ok (.putfield 26, 3) := by decide +kernel
theorem dX6_init_54 : decode cX6_init 54 = .ok (.aload_n 0, 1) := by decide +kernel
theorem dX6_init_55 : decode cX6_init 55 = .ok (.bipush 60, 2) := by decide +kernel
theorem dX6_init_57 : decode cX6_init 57 = .ok (.newarray .int, 2) := by decide +kernel
theorem dX6_init_59 : decode cX6_init 59 = .ok (.putfield 29, 3) := by decide +kernel
theorem dX6_init_62 : decode cX6_init 62 = .ok (.aload_n 0, 1) := by decide +kernel
theorem dX6_init_63 : decode cX6_init 63 = .ok (.bipush 40, 2) := by decide +kernel
theorem dX6_init_65 : decode cX6_init 65 = .ok (.newarray .int, 2) := by decide +kernel
theorem dX6_init_67 : decode cX6_init 67 = .ok (.putfield 32, 3) := by decide +kernel
theorem dX6_init_70 : decode cX6_init 70 = .ok (.aload_n 0, 1) := by decide +kernel
theorem dX6_init_71 : decode cX6_init 71 = .ok (.getfield 13, 3) := by decide +kernel
theorem dX6_init_74 : decode cX6_init 74 = .ok (.iconst 3, 1) := by decide +kernel
theorem dX6_init_75 : decode cX6_init 75 = .ok (.iconst 3, 1) := by decide +kernel
theorem dX6_init_76 : decode cX6_init 76 = .ok (.iastore, 1) := by decide +kernel
theorem dX6_init_77 : decode cX6_init 77 = .ok (.return_, 1) := by decide +kernel
theorem dX6_thrown_0 : decode cX6_thrown 0 = .ok (.aload_n 0, 1) := by decide +kernel
theorem dX6_thrown_1 : decode cX6_thrown 1 = .ok (.getfield 35, 3) := by decide +kernel
theorem dX6_thrown_4 : decode cX6_thrown 4 = .ok (.ireturn, 1) := by decide +kernel
theorem dX6_fail_0 : decode cX6_fail 0 = .ok (.aload_n 0, 1) := by decide +kernel
theorem dX6_fail_1 : decode cX6_fail 1 = .ok (.iload_n 1, 1) := by decide +kernel
theorem dX6_fail_2 : decode cX6_fail 2 = .ok (.putfield 35, 3) := by decide +kernel
theorem dX6_fail_5 : decode cX6_fail 5 = .ok (.iconst 0, 1) := by decide +kernel
theorem dX6_fail_6 : decode cX6_fail 6 = .ok (.ireturn, 1) := by decide +kernel
theorem dX6_rejects_0 : decode cX6_rejects 0 = .ok (.aload_n 0, 1) := by decide +kernel
theorem dX6_rejects_1 : decode cX6_rejects 1 = .ok (.iload_n 2, 1) := by decide +kernel
theorem dX6_rejects_2 : decode cX6_rejects 2 = .ok (.putfield 38, 3) := by decide +kernel
theorem dX6_rejects_5 : decode cX6_rejects 5 = .ok (.aload_n 0, 1) := by decide +kernel
theorem dX6_rejects_6 : decode cX6_rejects 6 = .ok (.iload_n 3, 1) := by decide +kernel
theorem dX6_rejects_7 : decode cX6_rejects 7 = .ok (.putfield 41, 3) := by decide +kernel
theorem dX6_rejects_10 : decode cX6_rejects 10 = .ok (.aload_n 0, 1) := by decide +kernel
theorem dX6_rejects_11 : decode cX6_rejects 11 = .ok (.iconst 0, 1) := by decide +kernel
theorem dX6_rejects_12 : decode cX6_rejects 12 = .ok (.putfield 44, 3) := by decide +kernel
theorem dX6_rejects_15 : decode cX6_rejects 15 = .ok (.aload_n 0, 1) := by decide +kernel
theorem dX6_rejects_16 : decode cX6_rejects 16 = .ok (.iconst 1, 1) := by decide +kernel
theorem dX6_rejects_17 : decode cX6_rejects 17 = .ok (.putfield 47, 3) := by decide +kernel
theorem dX6_rejects_20 : decode cX6_rejects 20 = .ok (.aload_n 0, 1) := by decide +kernel
theorem dX6_rejects_21 : decode cX6_rejects 21 = .ok (.iload_n 1, 1) := by decide +kernel
theorem dX6_rejects_22 : decode cX6_rejects 22 = .ok (.invokevirtual 51, 3) := by decide +kernel
theorem dX6_rejects_25 : decode cX6_rejects 25 = .ok (.ireturn, 1) := by decide +kernel
theorem dX6_isIn_0 : decode cX6_isIn 0 = .ok (.iload_n 0, 1) := by decide +kernel
theorem dX6_isIn_1 : decode cX6_isIn 1 = .ok (.iload_n 1, 1) := by decide +kernel
theorem dX6_isIn_2 : decode cX6_isIn 2 = .ok (.if_icmp .lt 12, 3) := by decide +kernel
theorem dX6_isIn_5 : decode cX6_isIn 5 = .ok (.iload_n 0, 1) := by decide +kernel
theorem dX6_isIn_6 : decode cX6_isIn 6 = .ok (.iload_n 2, 1) := by decide +kernel
theorem dX6_isIn_7 : decode cX6_isIn 7 = .ok (.if_icmp .gt 7, 3) := by decide +kernel
theorem dX6_isIn_10 : decode cX6_isIn 10 = .ok (.iconst 1, 1) := by decide +kernel
theorem dX6_isIn_11 : decode cX6_isIn 11 = .ok (.goto 4, 3) := by decide +kernel
theorem dX6_isIn_14 : decode cX6_isIn 14 = .ok (.iconst 0, 1) := by decide +kernel
theorem dX6_isIn_15 : decode cX6_isIn 15 = .ok (.ireturn, 1) := by decide +kernel
theorem dX6_lays_0 : decode cX6_lays 0 = .ok (.iconst 0, 1) := by decide +kernel
theorem dX6_lays_1 : decode cX6_lays 1 = .ok (.istore_n 2, 1) := by decide +kernel
theorem dX6_lays_2 : decode cX6_lays 2 = .ok (.iload_n 2, 1) := by decide +kernel
theorem dX6_lays_3 : decode cX6_lays 3 = .ok (.sipush 188, 3) := by decide +kernel
theorem dX6_lays_6 : decode cX6_lays 6 = .ok (.if_icmp .ge 15, 3) := by decide +kernel
theorem dX6_lays_9 : decode cX6_lays 9 = .ok (.aload_n 0, 1) := by decide +kernel
theorem dX6_lays_10 : decode cX6_lays 10 = .ok (.iload_n 2, 1) := by decide +kernel
theorem dX6_lays_11 : decode cX6_lays 11 = .ok (.aload_n 1, 1) := by decide +kernel
theorem dX6_lays_12 : decode cX6_lays 12 = .ok (.iload_n 2, 1) := by decide +kernel
theorem dX6_lays_13 : decode cX6_lays 13 = .ok (.iaload, 1) := by decide +kernel
theorem dX6_lays_14 : decode cX6_lays 14 = .ok (.iastore, 1) := by decide +kernel
theorem dX6_lays_15 : decode cX6_lays 15 = .ok (.iinc 2 1, 3) := by decide +kernel
theorem dX6_lays_18 : decode cX6_lays 18 = .ok (.goto (-16), 3) := by decide +kernel
theorem dX6_lays_21 : decode cX6_lays 21 = .ok (.return_, 1) := by decide +kernel
theorem dX6_begins_0 : decode cX6_begins 0 = .ok (.aload_n 0, 1) := by decide +kernel
theorem dX6_begins_1 : decode cX6_begins 1 = .ok (.iconst 0, 1) := by decide +kernel
theorem dX6_begins_2 : decode cX6_begins 2 = .ok (.putfield 35, 3) := by decide +kernel
theorem dX6_begins_5 : decode cX6_begins 5 = .ok (.aload_n 0, 1) := by decide +kernel
theorem dX6_begins_6 : decode cX6_begins 6 = .ok (.iconst 0, 1) := by decide +kernel
theorem dX6_begins_7 : decode cX6_begins 7 = .ok (.putfield 47, 3) := by decide +kernel
theorem dX6_begins_10 : decode cX6_begins 10 = .ok (.aload_n 0, 1) := by decide +kernel
theorem dX6_begins_11 : decode cX6_begins 11 = .ok (.getfield 17, 3) := by decide +kernel
theorem dX6_begins_14 : decode cX6_begins 14 = .ok (.aload_n 0, 1) := by decide +kernel
theorem dX6_begins_15 : decode cX6_begins 15 = .ok (.getfield 13, 3) := by decide +kernel
theorem dX6_begins_18 : decode cX6_begins 18 = .ok (.invokestatic 55, 3) := by decide +kernel
theorem dX6_begins_21 : decode cX6_begins 21 = .ok (.return_, 1) := by decide +kernel
theorem dX6_ends_0 : decode cX6_ends 0 = .ok (.aload_n 0, 1) := by decide +kernel
theorem dX6_ends_1 : decode cX6_ends 1 = .ok (.getfield 35, 3) := by decide +kernel
theorem dX6_ends_4 : decode cX6_ends 4 = .ok (.ifCond .eq 16, 3) := by decide +kernel
theorem dX6_ends_7 : decode cX6_ends 7 = .ok (.aload_n 0, 1) := by decide +kernel
theorem dX6_ends_8 : decode cX6_ends 8 = .ok (.getfield 13, 3) := by decide +kernel
theorem dX6_ends_11 : decode cX6_ends 11 = .ok (.aload_n 0, 1) := by decide +kernel
theorem dX6_ends_12 : decode cX6_ends 12 = .ok (.getfield 17, 3) := by decide +kernel
theorem dX6_ends_15 : decode cX6_ends 15 = .ok (.invokestatic 55, 3) := by decide +kernel
theorem dX6_ends_18 : decode cX6_ends 18 = .ok (.iconst 0, 1) := by decide +kernel
theorem dX6_ends_19 : decode cX6_ends 19 = .ok (.ireturn, 1) := by decide +kernel
theorem dX6_ends_20 : decode cX6_ends 20 = .ok (.aload_n 0, 1) := by decide +kernel
theorem dX6_ends_21 : decode cX6_ends 21 = .ok (.getfield 59, 3) := by decide +kernel
theorem dX6_ends_24 : decode cX6_ends 24 = .ok (.bipush 8, 2) := by decide +kernel
theorem dX6_ends_26 : decode cX6_ends 26 = .ok (.if_icmp .ne 44, 3) := by decide +kernel
theorem dX6_ends_29 : decode cX6_ends 29 = .ok (.iconst 0, 1) := by decide +kernel
theorem dX6_ends_30 : decode cX6_ends 30 = .ok (.istore_n 2, 1) := by decide +kernel
theorem dX6_ends_31 : decode cX6_ends 31 = .ok (.iload_n 2, 1) := by decide +kernel
theorem dX6_ends_32 : decode cX6_ends 32 = .ok (.sipush 1316, 3) := by decide +kernel
theorem dX6_ends_35 : decode cX6_ends 35 = .ok (.if_icmp .ge 25, 3) := by decide +kernel
theorem dX6_ends_38 : decode cX6_ends 38 = .ok (.aload_n 0, 1) := by decide +kernel
theorem dX6_ends_39 : decode cX6_ends 39 = .ok (.getfield 26, 3) := by decide +kernel
theorem dX6_ends_42 : decode cX6_ends 42 = .ok (.iload_n 2, 1) := by decide +kernel
theorem dX6_ends_43 : decode cX6_ends 43 = .ok (.aload_n 0, 1) := by decide +kernel
theorem dX6_ends_44 : decode cX6_ends 44 = .ok (.getfield 26, 3) := by decide +kernel
theorem dX6_ends_47 : decode cX6_ends 47 = .ok (.iload_n 2, 1) := by decide +kernel
theorem dX6_ends_48 : decode cX6_ends 48 = .ok (.sipush 188, 3) := by decide +kernel
theorem dX6_ends_51 : decode cX6_ends 51 = .ok (.iadd, 1) := by decide +kernel
theorem dX6_ends_52 : decode cX6_ends 52 = .ok (.iaload, 1) := by decide +kernel
theorem dX6_ends_53 : decode cX6_ends 53 = .ok (.iastore, 1) := by decide +kernel
theorem dX6_ends_54 : decode cX6_ends 54 = .ok (.iinc 2 1, 3) := by decide +kernel
theorem dX6_ends_57 : decode cX6_ends 57 = .ok (.goto (-26), 3) := by decide +kernel
theorem dX6_ends_60 : decode cX6_ends 60 = .ok (.aload_n 0, 1) := by decide +kernel
theorem dX6_ends_61 : decode cX6_ends 61 = .ok (.dup, 1) := by decide +kernel
theorem dX6_ends_62 : decode cX6_ends 62 = .ok (.getfield 59, 3) := by decide +kernel
theorem dX6_ends_65 : decode cX6_ends 65 = .ok (.iconst 1, 1) := by decide +kernel
theorem dX6_ends_66 : decode cX6_ends 66 = .ok (.isub, 1) := by decide +kernel
theorem dX6_ends_67 : decode cX6_ends 67 = .ok (.putfield 59, 3) := by decide +kernel
theorem dX6_ends_70 : decode cX6_ends 70 = .ok (.iconst 0, 1) := by decide +kernel
theorem dX6_ends_71 : decode cX6_ends 71 = .ok (.istore_n 2, 1) := by decide +kernel
theorem dX6_ends_72 : decode cX6_ends 72 = .ok (.iload_n 2, 1) := by decide +kernel
theorem dX6_ends_73 : decode cX6_ends 73 = .ok (.sipush 188, 3) := by decide +kernel
theorem dX6_ends_76 : decode cX6_ends 76 = .ok (.if_icmp .ge 30, 3) := by decide +kernel
theorem dX6_ends_79 : decode cX6_ends 79 = .ok (.aload_n 0, 1) := by decide +kernel
theorem dX6_ends_80 : decode cX6_ends 80 = .ok (.getfield 26, 3) := by decide +kernel
theorem dX6_ends_83 : decode cX6_ends 83 = .ok (.aload_n 0, 1) := by decide +kernel
theorem dX6_ends_84 : decode cX6_ends 84 = .ok (.getfield 59, 3) := by decide +kernel
theorem dX6_ends_87 : decode cX6_ends 87 = .ok (.sipush 188, 3) := by decide +kernel
theorem dX6_ends_90 : decode cX6_ends 90 = .ok (.imul, 1) := by decide +kernel
theorem dX6_ends_91 : decode cX6_ends 91 = .ok (.iload_n 2, 1) := by decide +kernel
theorem dX6_ends_92 : decode cX6_ends 92 = .ok (.iadd, 1) := by decide +kernel
theorem dX6_ends_93 : decode cX6_ends 93 = .ok (.aload_n 0, 1) := by decide +kernel
theorem dX6_ends_94 : decode cX6_ends 94 = .ok (.getfield 17, 3) := by decide +kernel
theorem dX6_ends_97 : decode cX6_ends 97 = .ok (.iload_n 2, 1) := by decide +kernel
theorem dX6_ends_98 : decode cX6_ends 98 = .ok (.iaload, 1) := by decide +kernel
theorem dX6_ends_99 : decode cX6_ends 99 = .ok (.iastore, 1) := by decide +kernel
theorem dX6_ends_100 : decode cX6_ends 100 = .ok (.iinc 2 1, 3) := by decide +kernel
theorem dX6_ends_103 : decode cX6_ends 103 = .ok (.goto (-31), 3) := by decide +kernel
theorem dX6_ends_106 : decode cX6_ends 106 = .ok (.aload_n 0, 1) := by decide +kernel
theorem dX6_ends_107 : decode cX6_ends 107 = .ok (.dup, 1) := by decide +kernel
theorem dX6_ends_108 : decode cX6_ends 108 = .ok (.getfield 59, 3) := by decide +kernel
theorem dX6_ends_111 : decode cX6_ends 111 = .ok (.iconst 1, 1) := by decide +kernel
theorem dX6_ends_112 : decode cX6_ends 112 = .ok (.iadd, 1) := by decide +kernel
theorem dX6_ends_113 : decode cX6_ends 113 = .ok (.putfield 59, 3) := by decide +kernel
theorem dX6_ends_116 : decode cX6_ends 116 = .ok (.iload_n 1, 1) := by decide +kernel
theorem dX6_ends_117 : decode cX6_ends 117 = .ok (.ireturn, 1) := by decide +kernel
theorem dX6_isNeedle_0 : decode cX6_isNeedle 0 = .ok (.iload_n 0, 1) := by decide +kernel
theorem dX6_isNeedle_1 : decode cX6_isNeedle 1 = .ok (.iconst 0, 1) := by decide +kernel
theorem dX6_isNeedle_2 : decode cX6_isNeedle 2 = .ok (.bipush 23, 2) := by decide +kernel
theorem dX6_isNeedle_4 : decode cX6_isNeedle 4 = .ok (.invokestatic 62, 3) := by decide +kernel
theorem dX6_isNeedle_7 : decode cX6_isNeedle 7 = .ok (.ireturn, 1) := by decide +kernel
theorem dX6_isFeeder_0 : decode cX6_isFeeder 0 = .ok (.iload_n 0, 1) := by decide +kernel
theorem dX6_isFeeder_1 : decode cX6_isFeeder 1 = .ok (.iconst 0, 1) := by decide +kernel
theorem dX6_isFeeder_2 : decode cX6_isFeeder 2 = .ok (.iconst 3, 1) := by decide +kernel
theorem dX6_isFeeder_3 : decode cX6_isFeeder 3 = .ok (.invokestatic 62, 3) := by decide +kernel
theorem dX6_isFeeder_6 : decode cX6_isFeeder 6 = .ok (.ireturn, 1) := by decide +kernel
theorem dX6_bits_0 : decode cX6_bits 0 = .ok (.iconst 0, 1) := by decide +kernel
theorem dX6_bits_1 : decode cX6_bits 1 = .ok (.istore_n 1, 1) := by decide +kernel
theorem dX6_bits_2 : decode cX6_bits 2 = .ok (.iload_n 0, 1) := by decide +kernel
theorem dX6_bits_3 : decode cX6_bits 3 = .ok (.istore_n 2, 1) := by decide +kernel
theorem dX6_bits_4 : decode cX6_bits 4 = .ok (.iload_n 2, 1) := by decide +kernel
theorem dX6_bits_5 : decode cX6_bits 5 = .ok (.ifCond .eq 15, 3) := by decide +kernel
theorem dX6_bits_8 : decode cX6_bits 8 = .ok (.iinc 1 1, 3) := by decide +kernel
theorem dX6_bits_11 : decode cX6_bits 11 = .ok (.iload_n 2, 1) := by decide +kernel
theorem dX6_bits_12 : decode cX6_bits 12 = .ok (.iload_n 2, 1) := by decide +kernel
theorem dX6_bits_13 : decode cX6_bits 13 = .ok (.iconst 1, 1) := by decide +kernel
theorem dX6_bits_14 : decode cX6_bits 14 = .ok (.isub, 1) := by decide +kernel
theorem dX6_bits_15 : decode cX6_bits 15 = .ok (.iand, 1) := by decide +kernel
theorem dX6_bits_16 : decode cX6_bits 16 = .ok (.istore_n 2, 1) := by decide +kernel
theorem dX6_bits_17 : decode cX6_bits 17 = .ok (.goto (-13), 3) := by decide +kernel
theorem dX6_bits_20 : decode cX6_bits 20 = .ok (.iload_n 1, 1) := by decide +kernel
theorem dX6_bits_21 : decode cX6_bits 21 = .ok (.ireturn, 1) := by decide +kernel
theorem dX6_isOn_0 : decode cX6_isOn 0 = .ok (.aload_n 0, 1) := by decide +kernel
theorem dX6_isOn_1 : decode cX6_isOn 1 = .ok (.getfield 13, 3) := by decide +kernel
theorem dX6_isOn_4 : decode cX6_isOn 4 = .ok (.iconst 0, 1) := by decide +kernel
theorem dX6_isOn_5 : decode cX6_isOn 5 = .ok (.iaload, 1) := by decide +kernel
theorem dX6_isOn_6 : decode cX6_isOn 6 = .ok (.iload_n 1, 1) := by decide +kernel
theorem dX6_isOn_7 : decode cX6_isOn 7 = .ok (.ishr, 1) := by decide +kernel
theorem dX6_isOn_8 : decode cX6_isOn 8 = .ok (.iconst 1, 1) := by decide +kernel
theorem dX6_isOn_9 : decode cX6_isOn 9 = .ok (.iand, 1) := by decide +kernel
theorem dX6_isOn_10 : decode cX6_isOn 10 = .ok (.iconst 1, 1) := by decide +kernel
theorem dX6_isOn_11 : decode cX6_isOn 11 = .ok (.if_icmp .ne 7, 3) := by decide +kernel
theorem dX6_isOn_14 : decode cX6_isOn 14 = .ok (.iconst 1, 1) := by decide +kernel
theorem dX6_isOn_15 : decode cX6_isOn 15 = .ok (.goto 4, 3) := by decide +kernel
theorem dX6_isOn_18 : decode cX6_isOn 18 = .ok (.iconst 0, 1) := by decide +kernel
theorem dX6_isOn_19 : decode cX6_isOn 19 = .ok (.ireturn, 1) := by decide +kernel
theorem dX6_isHeld_0 : decode cX6_isHeld 0 = .ok (.aload_n 0, 1) := by decide +kernel
theorem dX6_isHeld_1 : decode cX6_isHeld 1 = .ok (.getfield 13, 3) := by decide +kernel
theorem dX6_isHeld_4 : decode cX6_isHeld 4 = .ok (.iconst 1, 1) := by decide +kernel
theorem dX6_isHeld_5 : decode cX6_isHeld 5 = .ok (.iaload, 1) := by decide +kernel
theorem dX6_isHeld_6 : decode cX6_isHeld 6 = .ok (.iload_n 1, 1) := by decide +kernel
theorem dX6_isHeld_7 : decode cX6_isHeld 7 = .ok (.ishr, 1) := by decide +kernel
theorem dX6_isHeld_8 : decode cX6_isHeld 8 = .ok (.iconst 1, 1) := by decide +kernel
theorem dX6_isHeld_9 : decode cX6_isHeld 9 = .ok (.iand, 1) := by decide +kernel
theorem dX6_isHeld_10 : decode cX6_isHeld 10 = .ok (.iconst 1, 1) := by decide +kernel
theorem dX6_isHeld_11 : decode cX6_isHeld 11 = .ok (.if_icmp .ne 7, 3) := by decide +kernel
theorem dX6_isHeld_14 : decode cX6_isHeld 14 = .ok (.iconst 1, 1) := by decide +kernel
theorem dX6_isHeld_15 : decode cX6_isHeld 15 = .ok (.goto 4, 3) := by decide +kernel
theorem dX6_isHeld_18 : decode cX6_isHeld 18 = .ok (.iconst 0, 1) := by decide +kernel
theorem dX6_isHeld_19 : decode cX6_isHeld 19 = .ok (.ireturn, 1) := by decide +kernel
theorem dX6_loops_0 : decode cX6_loops 0 = .ok (.iconst 0, 1) := by decide +kernel
theorem dX6_loops_1 : decode cX6_loops 1 = .ok (.istore_n 1, 1) := by decide +kernel
theorem dX6_loops_2 : decode cX6_loops 2 = .ok (.iconst 0, 1) := by decide +kernel
theorem dX6_loops_3 : decode cX6_loops 3 = .ok (.istore_n 2, 1) := by decide +kernel
theorem dX6_loops_4 : decode cX6_loops 4 = .ok (.iload_n 2, 1) := by decide +kernel
theorem dX6_loops_5 : decode cX6_loops 5 = .ok (.bipush 24, 2) := by decide +kernel
theorem dX6_loops_7 : decode cX6_loops 7 = .ok (.if_icmp .ge 21, 3) := by decide +kernel
theorem dX6_loops_10 : decode cX6_loops 10 = .ok (.iload_n 1, 1) := by decide +kernel
theorem dX6_loops_11 : decode cX6_loops 11 = .ok (.aload_n 0, 1) := by decide +kernel
theorem dX6_loops_12 : decode cX6_loops 12 = .ok (.getfield 13, 3) := by decide +kernel
theorem dX6_loops_15 : decode cX6_loops 15 = .ok (.bipush 10, 2) := by decide +kernel
theorem dX6_loops_17 : decode cX6_loops 17 = .ok (.iload_n 2, 1) := by decide +kernel
theorem dX6_loops_18 : decode cX6_loops 18 = .ok (.iadd, 1) := by decide +kernel
theorem dX6_loops_19 : decode cX6_loops 19 = .ok (.iaload, 1) := by decide +kernel
theorem dX6_loops_20 : decode cX6_loops 20 = .ok (.iadd, 1) := by decide +kernel
theorem dX6_loops_21 : decode cX6_loops 21 = .ok (.istore_n 1, 1) := by decide +kernel
theorem dX6_loops_22 : decode cX6_loops 22 = .ok (.iinc 2 1, 3) := by decide +kernel
theorem dX6_loops_25 : decode cX6_loops 25 = .ok (.goto (-21), 3) := by decide +kernel
theorem dX6_loops_28 : decode cX6_loops 28 = .ok (.iload_n 1, 1) := by decide +kernel
theorem dX6_loops_29 : decode cX6_loops 29 = .ok (.ireturn, 1) := by decide +kernel
theorem dX6_puts_0 : decode cX6_puts 0 = .ok (.aload_n 0, 1) := by decide +kernel
theorem dX6_puts_1 : decode cX6_puts 1 = .ok (.getfield 13, 3) := by decide +kernel
theorem dX6_puts_4 : decode cX6_puts 4 = .ok (.bipush 10, 2) := by decide +kernel
theorem dX6_puts_6 : decode cX6_puts 6 = .ok (.iload_n 1, 1) := by decide +kernel
theorem dX6_puts_7 : decode cX6_puts 7 = .ok (.iadd, 1) := by decide +kernel
theorem dX6_puts_8 : decode cX6_puts 8 = .ok (.iload_n 2, 1) := by decide +kernel
theorem dX6_puts_9 : decode cX6_puts 9 = .ok (.iastore, 1) := by decide +kernel
theorem dX6_puts_10 : decode cX6_puts 10 = .ok (.aload_n 0, 1) := by decide +kernel
theorem dX6_puts_11 : decode cX6_puts 11 = .ok (.getfield 13, 3) := by decide +kernel
theorem dX6_puts_14 : decode cX6_puts 14 = .ok (.bipush 34, 2) := by decide +kernel
theorem dX6_puts_16 : decode cX6_puts 16 = .ok (.iload_n 1, 1) := by decide +kernel
theorem dX6_puts_17 : decode cX6_puts 17 = .ok (.iadd, 1) := by decide +kernel
theorem dX6_puts_18 : decode cX6_puts 18 = .ok (.iload_n 2, 1) := by decide +kernel
theorem dX6_puts_19 : decode cX6_puts 19 = .ok (.ifCond .ne 7, 3) := by decide +kernel
theorem dX6_puts_22 : decode cX6_puts 22 = .ok (.iconst 0, 1) := by decide +kernel
theorem dX6_puts_23 : decode cX6_puts 23 = .ok (.goto 4, 3) := by decide +kernel
theorem dX6_puts_26 : decode cX6_puts 26 = .ok (.iload_n 3, 1) := by decide +kernel
theorem dX6_puts_27 : decode cX6_puts 27 = .ok (.iastore, 1) := by decide +kernel
theorem dX6_puts_28 : decode cX6_puts 28 = .ok (.return_, 1) := by decide +kernel
theorem dX6_casts_0 : decode cX6_casts 0 = .ok (.iload_n 1, 1) := by decide +kernel
theorem dX6_casts_1 : decode cX6_casts 1 = .ok (.invokestatic 66, 3) := by decide +kernel
theorem dX6_casts_4 : decode cX6_casts 4 = .ok (.ifCond .eq 10, 3) := by decide +kernel
theorem dX6_casts_7 : decode cX6_casts 7 = .ok (.iload_n 2, 1) := by decide +kernel
theorem dX6_casts_8 : decode cX6_casts 8 = .ok (.invokestatic 66, 3) := by decide +kernel
theorem dX6_casts_11 : decode cX6_casts 11 = .ok (.ifCond .ne 9, 3) := by decide +kernel
theorem dX6_casts_14 : decode cX6_casts 14 = .ok (.aload_n 0, 1) := by decide +kernel
theorem dX6_casts_15 : decode cX6_casts 15 = .ok (.iconst 1, 1) := by decide +kernel
theorem dX6_casts_16 : decode cX6_casts 16 = .ok (.invokevirtual 51, 3) := by decide +kernel
theorem dX6_casts_19 : decode cX6_casts 19 = .ok (.ireturn, 1) := by decide +kernel
theorem dX6_casts_20 : decode cX6_casts 20 = .ok (.iload_n 1, 1) := by decide +kernel
theorem dX6_casts_21 : decode cX6_casts 21 = .ok (.iload_n 2, 1) := by decide +kernel
theorem dX6_casts_22 : decode cX6_casts 22 = .ok (.if_icmp .le 9, 3) := by decide +kernel
theorem dX6_casts_25 : decode cX6_casts 25 = .ok (.aload_n 0, 1) := by decide +kernel
theorem dX6_casts_26 : decode cX6_casts 26 = .ok (.iconst 2, 1) := by decide +kernel
theorem dX6_casts_27 : decode cX6_casts 27 = .ok (.invokevirtual 51, 3) := by decide +kernel
theorem dX6_casts_30 : decode cX6_casts 30 = .ok (.ireturn, 1) := by decide +kernel
theorem dX6_casts_31 : decode cX6_casts 31 = .ok (.iload_n 1, 1) := by decide +kernel
theorem dX6_casts_32 : decode cX6_casts 32 = .ok (.istore_n 3, 1) := by decide +kernel
theorem dX6_casts_33 : decode cX6_casts 33 = .ok (.iload_n 3, 1) := by decide +kernel
theorem dX6_casts_34 : decode cX6_casts 34 = .ok (.iload_n 2, 1) := by decide +kernel
theorem dX6_casts_35 : decode cX6_casts 35 = .ok (.if_icmp .gt 25, 3) := by decide +kernel
theorem dX6_casts_38 : decode cX6_casts 38 = .ok (.aload_n 0, 1) := by decide +kernel
theorem dX6_casts_39 : decode cX6_casts 39 = .ok (.iload_n 3, 1) := by decide +kernel
theorem dX6_casts_40 : decode cX6_casts 40 = .ok (.invokevirtual 70, 3) := by decide +kernel
theorem dX6_casts_43 : decode cX6_casts 43 = .ok (.ifCond .eq 11, 3) := by decide +kernel
theorem dX6_casts_46 : decode cX6_casts 46 = .ok (.aload_n 0, 1) := by decide +kernel
theorem dX6_casts_47 : decode cX6_casts 47 = .ok (.iconst 3, 1) := by decide +kernel
theorem dX6_casts_48 : decode cX6_casts 48 = .ok (.iconst 1, 1) := by decide +kernel
theorem dX6_casts_49 : decode cX6_casts 49 = .ok (.iload_n 3, 1) := by decide +kernel
theorem dX6_casts_50 : decode cX6_casts 50 = .ok (.invokevirtual 73, 3) := by decide +kernel
theorem dX6_casts_53 : decode cX6_casts 53 = .ok (.ireturn, 1) := by decide +kernel
theorem dX6_casts_54 : decode cX6_casts 54 = .ok (.iinc 3 1, 3) := by decide +kernel
theorem dX6_casts_57 : decode cX6_casts 57 = .ok (.goto (-24), 3) := by decide +kernel
theorem dX6_casts_60 : decode cX6_casts 60 = .ok (.iload_n 1, 1) := by decide +kernel
theorem dX6_casts_61 : decode cX6_casts 61 = .ok (.istore_n 3, 1) := by decide +kernel
theorem dX6_casts_62 : decode cX6_casts 62 = .ok (.iload_n 3, 1) := by decide +kernel
theorem dX6_casts_63 : decode cX6_casts 63 = .ok (.iload_n 2, 1) := by decide +kernel
theorem dX6_casts_64 : decode cX6_casts 64 = .ok (.if_icmp .gt 28, 3) := by decide +kernel
theorem dX6_casts_67 : decode cX6_casts 67 = .ok (.aload_n 0, 1) := by decide +kernel
theorem dX6_casts_68 : decode cX6_casts 68 = .ok (.getfield 13, 3) := by decide +kernel
theorem dX6_casts_71 : decode cX6_casts 71 = .ok (.iconst 0, 1) := by decide +kernel
theorem dX6_casts_72 : decode cX6_casts 72 = .ok (.dup2, 1) := by decide +kernel
theorem dX6_casts_73 : decode cX6_casts 73 = .ok (.iaload, 1) := by decide +kernel
theorem dX6_casts_74 : decode cX6_casts 74 = .ok (.iconst 1, 1) := by decide +kernel
theorem dX6_casts_75 : decode cX6_casts 75 = .ok (.iload_n 3, 1) := by decide +kernel
theorem dX6_casts_76 : decode cX6_casts 76 = .ok (.ishl, 1) := by decide +kernel
theorem dX6_casts_77 : decode cX6_casts 77 = .ok (.ior, 1) := by decide +kernel
theorem dX6_casts_78 : decode cX6_casts 78 = .ok (.iastore, 1) := by decide +kernel
theorem dX6_casts_79 : decode cX6_casts 79 = .ok (.aload_n 0, 1) := by decide +kernel
theorem dX6_casts_80 : decode cX6_casts 80 = .ok (.iload_n 3, 1) := by decide +kernel
theorem dX6_casts_81 : decode cX6_casts 81 = .ok (.iconst 1, 1) := by decide +kernel
theorem dX6_casts_82 : decode cX6_casts 82 = .ok (.iconst 0, 1) := by decide +kernel
theorem dX6_casts_83 : decode cX6_casts 83 = .ok (.invokevirtual 77, 3) := by decide +kernel
theorem dX6_casts_86 : decode cX6_casts 86 = .ok (.iinc 3 1, 3) := by decide +kernel
theorem dX6_casts_89 : decode cX6_casts 89 = .ok (.goto (-27), 3) := by decide +kernel
theorem dX6_casts_92 : decode cX6_casts 92 = .ok (.aload_n 0, 1) := by decide +kernel
theorem dX6_casts_93 : decode cX6_casts 93 = .ok (.getfield 13, 3) := by decide +kernel
theorem dX6_casts_96 : decode cX6_casts 96 = .ok (.iconst 0, 1) := by decide +kernel
theorem dX6_casts_97 : decode cX6_casts 97 = .ok (.iaload, 1) := by decide +kernel
theorem dX6_casts_98 : decode cX6_casts 98 = .ok (.invokestatic 81, 3) := by decide +kernel
theorem dX6_casts_101 : decode cX6_casts 101 = .ok (.ireturn, 1) := by decide +kernel
theorem dX6_castOn_0 : decode cX6_castOn 0 = .ok (.aload_n 0, 1) := by decide +kernel
theorem dX6_castOn_1 : decode cX6_castOn 1 = .ok (.invokevirtual 84, 3) := by decide +kernel
theorem dX6_castOn_4 : decode cX6_castOn 4 = .ok (.aload_n 0, 1) := by decide +kernel
theorem dX6_castOn_5 : decode cX6_castOn 5 = .ok (.aload_n 0, 1) := by decide +kernel
theorem dX6_castOn_6 : decode cX6_castOn 6 = .ok (.iload_n 1, 1) := by decide +kernel
theorem dX6_castOn_7 : decode cX6_castOn 7 = .ok (.iload_n 2, 1) := by decide +kernel
theorem dX6_castOn_8 : decode cX6_castOn 8 = .ok (.invokevirtual 87, 3) := by decide +kernel
theorem dX6_castOn_11 : decode cX6_castOn 11 = .ok (.invokevirtual 91, 3) := by decide +kernel
theorem dX6_castOn_14 : decode cX6_castOn 14 = .ok (.ireturn, 1) := by decide +kernel
theorem dX6_finishes_0 : decode cX6_finishes 0 = .ok (.aload_n 0, 1) := by decide +kernel
theorem dX6_finishes_1 : decode cX6_finishes 1 = .ok (.invokevirtual 94, 3) := by decide +kernel
theorem dX6_finishes_4 : decode cX6_finishes 4 = .ok (.istore_n 1, 1) := by decide +kernel
theorem dX6_finishes_5 : decode cX6_finishes 5 = .ok (.iload_n 1, 1) := by decide +kernel
theorem dX6_finishes_6 : decode cX6_finishes 6 = .ok (.ifCond .ne 19, 3) := by decide +kernel
theorem dX6_finishes_9 : decode cX6_finishes 9 = .ok (.aload_n 0, 1) := by decide +kernel
theorem dX6_finishes_10 : decode cX6_finishes 10 = .ok (.iconst 1, 1) := by decide +kernel
theorem dX6_finishes_11 : decode cX6_finishes 11 = .ok (.iconst 3, 1) := by decide +kernel
theorem dX6_finishes_12 : decode cX6_finishes 12 = .ok (.aload_n 0, 1) := by decide +kernel
theorem dX6_finishes_13 : decode cX6_finishes 13 = .ok (.getfield 13, 3) := by decide +kernel
theorem dX6_finishes_16 : decode cX6_finishes 16 = .ok (.iconst 0, 1) := by decide +kernel
theorem dX6_finishes_17 : decode cX6_finishes 17 = .ok (.iaload, 1) := by decide +kernel
theorem dX6_finishes_18 : decode cX6_finishes 18 = .ok (.invokestatic 81, 3) := by decide +kernel
theorem dX6_finishes_21 : decode cX6_finishes 21 = .ok (.invokevirtual 73, 3) := by decide +kernel
theorem dX6_finishes_24 : decode cX6_finishes 24 = .ok (.ireturn, 1) := by decide +kernel
theorem dX6_finishes_25 : decode cX6_finishes 25 = .ok (.iconst 0, 1) := by decide +kernel
theorem dX6_finishes_26 : decode cX6_finishes 26 = .ok (.istore_n 2, 1) := by decide +kernel
theorem dX6_finishes_27 : decode cX6_finishes 27 = .ok (.iload_n 2, 1) := by decide +kernel
theorem dX6_finishes_28 : decode cX6_finishes 28 = .ok (.bipush 24, 2) := by decide +kernel
theorem dX6_finishes_30 : decode cX6_finishes 30 = .ok (.if_icmp .ge 16, 3) := by decide +kernel
theorem dX6_finishes_33 : decode cX6_finishes 33 = .ok (.aload_n 0, 1) := by decide +kernel
theorem dX6_finishes_34 : decode cX6_finishes 34 = .ok (.iload_n 2, 1) := by decide +kernel
theorem dX6_finishes_35 : decode cX6_finishes 35 = .ok (.iconst 0, 1) := by decide +kernel
theorem dX6_finishes_36 : decode cX6_finishes 36 = .ok (.iconst 0, 1) := by decide +kernel
theorem dX6_finishes_37 : decode cX6_finishes 37 = .ok (.invokevirtual 77, 3) := by decide +kernel
theorem dX6_finishes_40 : decode cX6_finishes 40 = .ok (.iinc 2 1, 3) := by decide +kernel
theorem dX6_finishes_43 : decode cX6_finishes 43 = .ok (.goto (-16), 3) := by decide +kernel
theorem dX6_finishes_46 : decode cX6_finishes 46 = .ok (.bipush 68, 2) := by decide +kernel
theorem dX6_finishes_48 : decode cX6_finishes 48 = .ok (.istore_n 2, 1) := by decide +kernel
theorem dX6_finishes_49 : decode cX6_finishes 49 = .ok (.iload_n 2, 1) := by decide +kernel
theorem dX6_finishes_50 : decode cX6_finishes 50 = .ok (.sipush 188, 3) := by decide +kernel
theorem dX6_finishes_53 : decode cX6_finishes 53 = .ok (.if_icmp .ge 16, 3) := by decide +kernel
theorem dX6_finishes_56 : decode cX6_finishes 56 = .ok (.aload_n 0, 1) := by decide +kernel
theorem dX6_finishes_57 : decode cX6_finishes 57 = .ok (.getfield 13, 3) := by decide +kernel
theorem dX6_finishes_60 : decode cX6_finishes 60 = .ok (.iload_n 2, 1) := by decide +kernel
theorem dX6_finishes_61 : decode cX6_finishes 61 = .ok (.iconst 0, 1) := by decide +kernel
theorem dX6_finishes_62 : decode cX6_finishes 62 = .ok (.iastore, 1) := by decide +kernel
theorem dX6_finishes_63 : decode cX6_finishes 63 = .ok (.iinc 2 1, 3) := by decide +kernel
theorem dX6_finishes_66 : decode cX6_finishes 66 = .ok (.goto (-17), 3) := by decide +kernel
theorem dX6_finishes_69 : decode cX6_finishes 69 = .ok (.aload_n 0, 1) := by decide +kernel
theorem dX6_finishes_70 : decode cX6_finishes 70 = .ok (.getfield 13, 3) := by decide +kernel
theorem dX6_finishes_73 : decode cX6_finishes 73 = .ok (.iconst 0, 1) := by decide +kernel
theorem dX6_finishes_74 : decode cX6_finishes 74 = .ok (.iconst 0, 1) := by decide +kernel
theorem dX6_finishes_75 : decode cX6_finishes 75 = .ok (.iastore, 1) := by decide +kernel
theorem dX6_finishes_76 : decode cX6_finishes 76 = .ok (.aload_n 0, 1) := by decide +kernel
theorem dX6_finishes_77 : decode cX6_finishes 77 = .ok (.getfield 13, 3) := by decide +kernel
theorem dX6_finishes_80 : decode cX6_finishes 80 = .ok (.iconst 1, 1) := by decide +kernel
theorem dX6_finishes_81 : decode cX6_finishes 81 = .ok (.iconst 0, 1) := by decide +kernel
theorem dX6_finishes_82 : decode cX6_finishes 82 = .ok (.iastore, 1) := by decide +kernel
theorem dX6_finishes_83 : decode cX6_finishes 83 = .ok (.aload_n 0, 1) := by decide +kernel
theorem dX6_finishes_84 : decode cX6_finishes 84 = .ok (.getfield 13, 3) := by decide +kernel
theorem dX6_finishes_87 : decode cX6_finishes 87 = .ok (.iconst 5, 1) := by decide +kernel
theorem dX6_finishes_88 : decode cX6_finishes 88 = .ok (.iconst 0, 1) := by decide +kernel
theorem dX6_finishes_89 : decode cX6_finishes 89 = .ok (.iastore, 1) := by decide +kernel
theorem dX6_finishes_90 : decode cX6_finishes 90 = .ok (.aload_n 0, 1) := by decide +kernel
theorem dX6_finishes_91 : decode cX6_finishes 91 = .ok (.getfield 13, 3) := by decide +kernel
theorem dX6_finishes_94 : decode cX6_finishes 94 = .ok (.bipush 6, 2) := by decide +kernel
theorem dX6_finishes_96 : decode cX6_finishes 96 = .ok (.dup2, 1) := by decide +kernel
theorem dX6_finishes_97 : decode cX6_finishes 97 = .ok (.iaload, 1) := by decide +kernel
theorem dX6_finishes_98 : decode cX6_finishes 98 = .ok (.iconst 1, 1) := by decide +kernel
theorem dX6_finishes_99 : decode cX6_finishes 99 = .ok (.iadd, 1) := by decide +kernel
theorem dX6_finishes_100 : decode cX6_finishes 100 = .ok (.iastore, 1) := by decide +kernel
theorem dX6_finishes_101 : decode cX6_finishes 101 = .ok (.iload_n 1, 1) := by decide +kernel
theorem dX6_finishes_102 : decode cX6_finishes 102 = .ok (.ireturn, 1) := by decide +kernel
theorem dX6_castOff_0 : decode cX6_castOff 0 = .ok (.aload_n 0, 1) := by decide +kernel
theorem dX6_castOff_1 : decode cX6_castOff 1 = .ok (.invokevirtual 84, 3) := by decide +kernel
theorem dX6_castOff_4 : decode cX6_castOff 4 = .ok (.aload_n 0, 1) := by decide +kernel
theorem dX6_castOff_5 : decode cX6_castOff 5 = .ok (.aload_n 0, 1) := by decide +kernel
theorem dX6_castOff_6 : decode cX6_castOff 6 = .ok (.invokevirtual 98, 3) := by decide +kernel
theorem dX6_castOff_9 : decode cX6_castOff 9 = .ok (.invokevirtual 91, 3) := by decide +kernel
theorem dX6_castOff_12 : decode cX6_castOff 12 = .ok (.ireturn, 1) := by decide +kernel
theorem dX6_holds_0 : decode cX6_holds 0 = .ok (.iload_n 1, 1) := by decide +kernel
theorem dX6_holds_1 : decode cX6_holds 1 = .ok (.invokestatic 66, 3) := by decide +kernel
theorem dX6_holds_4 : decode cX6_holds 4 = .ok (.ifCond .ne 9, 3) := by decide +kernel
theorem dX6_holds_7 : decode cX6_holds 7 = .ok (.aload_n 0, 1) := by decide +kernel
theorem dX6_holds_8 : decode cX6_holds 8 = .ok (.iconst 1, 1) := by decide +kernel
theorem dX6_holds_9 : decode cX6_holds 9 = .ok (.invokevirtual 51, 3) := by decide +kernel
theorem dX6_holds_12 : decode cX6_holds 12 = .ok (.ireturn, 1) := by decide +kernel
theorem dX6_holds_13 : decode cX6_holds 13 = .ok (.aload_n 0, 1) := by decide +kernel
theorem dX6_holds_14 : decode cX6_holds 14 = .ok (.iload_n 1, 1) := by decide +kernel
theorem dX6_holds_15 : decode cX6_holds 15 = .ok (.invokevirtual 70, 3) := by decide +kernel
theorem dX6_holds_18 : decode cX6_holds 18 = .ok (.ifCond .ne 11, 3) := by decide +kernel
theorem dX6_holds_21 : decode cX6_holds 21 = .ok (.aload_n 0, 1) := by decide +kernel
theorem dX6_holds_22 : decode cX6_holds 22 = .ok (.iconst 2, 1) := by decide +kernel
theorem dX6_holds_23 : decode cX6_holds 23 = .ok (.iconst 2, 1) := by decide +kernel
theorem dX6_holds_24 : decode cX6_holds 24 = .ok (.iload_n 1, 1) := by decide +kernel
theorem dX6_holds_25 : decode cX6_holds 25 = .ok (.invokevirtual 73, 3) := by decide +kernel
theorem dX6_holds_28 : decode cX6_holds 28 = .ok (.ireturn, 1) := by decide +kernel
theorem dX6_holds_29 : decode cX6_holds 29 = .ok (.aload_n 0, 1) := by decide +kernel
theorem dX6_holds_30 : decode cX6_holds 30 = .ok (.iload_n 1, 1) := by decide +kernel
theorem dX6_holds_31 : decode cX6_holds 31 = .ok (.invokevirtual 101, 3) := by decide +kernel
theorem dX6_holds_34 : decode cX6_holds 34 = .ok (.ifCond .eq 11, 3) := by decide +kernel
theorem dX6_holds_37 : decode cX6_holds 37 = .ok (.aload_n 0, 1) := by decide +kernel
theorem dX6_holds_38 : decode cX6_holds 38 = .ok (.iconst 2, 1) := by decide +kernel
theorem dX6_holds_39 : decode cX6_holds 39 = .ok (.iconst 5, 1) := by decide +kernel
theorem dX6_holds_40 : decode cX6_holds 40 = .ok (.iload_n 1, 1) := by decide +kernel
theorem dX6_holds_41 : decode cX6_holds 41 = .ok (.invokevirtual 73, 3) := by decide +kernel
theorem dX6_holds_44 : decode cX6_holds 44 = .ok (.ireturn, 1) := by decide +kernel
theorem dX6_holds_45 : decode cX6_holds 45 = .ok (.aload_n 0, 1) := by decide +kernel
theorem dX6_holds_46 : decode cX6_holds 46 = .ok (.getfield 13, 3) := by decide +kernel
theorem dX6_holds_49 : decode cX6_holds 49 = .ok (.iconst 1, 1) := by decide +kernel
theorem dX6_holds_50 : decode cX6_holds 50 = .ok (.dup2, 1) := by decide +kernel
theorem dX6_holds_51 : decode cX6_holds 51 = .ok (.iaload, 1) := by decide +kernel
theorem dX6_holds_52 : decode cX6_holds 52 = .ok (.iconst 1, 1) := by decide +kernel
theorem dX6_holds_53 : decode cX6_holds 53 = .ok (.iload_n 1, 1) := by decide +kernel
theorem dX6_holds_54 : decode cX6_holds 54 = .ok (.ishl, 1) := by decide +kernel
theorem dX6_holds_55 : decode cX6_holds 55 = .ok (.ior, 1) := by decide +kernel
theorem dX6_holds_56 : decode cX6_holds 56 = .ok (.iastore, 1) := by decide +kernel
theorem dX6_holds_57 : decode cX6_holds 57 = .ok (.aload_n 0, 1) := by decide +kernel
theorem dX6_holds_58 : decode cX6_holds 58 = .ok (.getfield 13, 3) := by decide +kernel
theorem dX6_holds_61 : decode cX6_holds 61 = .ok (.iconst 1, 1) := by decide +kernel
theorem dX6_holds_62 : decode cX6_holds 62 = .ok (.iaload, 1) := by decide +kernel
theorem dX6_holds_63 : decode cX6_holds 63 = .ok (.invokestatic 81, 3) := by decide +kernel
theorem dX6_holds_66 : decode cX6_holds 66 = .ok (.ireturn, 1) := by decide +kernel
theorem dX6_hold_0 : decode cX6_hold 0 = .ok (.aload_n 0, 1) := by decide +kernel
theorem dX6_hold_1 : decode cX6_hold 1 = .ok (.invokevirtual 84, 3) := by decide +kernel
theorem dX6_hold_4 : decode cX6_hold 4 = .ok (.aload_n 0, 1) := by decide +kernel
theorem dX6_hold_5 : decode cX6_hold 5 = .ok (.aload_n 0, 1) := by decide +kernel
theorem dX6_hold_6 : decode cX6_hold 6 = .ok (.iload_n 1, 1) := by decide +kernel
theorem dX6_hold_7 : decode cX6_hold 7 = .ok (.invokevirtual 104, 3) := by decide +kernel
theorem dX6_hold_10 : decode cX6_hold 10 = .ok (.invokevirtual 91, 3) := by decide +kernel
theorem dX6_hold_13 : decode cX6_hold 13 = .ok (.ireturn, 1) := by decide +kernel
theorem dX6_frees_0 : decode cX6_frees 0 = .ok (.iload_n 1, 1) := by decide +kernel
theorem dX6_frees_1 : decode cX6_frees 1 = .ok (.invokestatic 66, 3) := by decide +kernel
theorem dX6_frees_4 : decode cX6_frees 4 = .ok (.ifCond .ne 9, 3) := by decide +kernel
theorem dX6_frees_7 : decode cX6_frees 7 = .ok (.aload_n 0, 1) := by decide +kernel
theorem dX6_frees_8 : decode cX6_frees 8 = .ok (.iconst 1, 1) := by decide +kernel
theorem dX6_frees_9 : decode cX6_frees 9 = .ok (.invokevirtual 51, 3) := by decide +kernel
theorem dX6_frees_12 : decode cX6_frees 12 = .ok (.ireturn, 1) := by decide +kernel
theorem dX6_frees_13 : decode cX6_frees 13 = .ok (.aload_n 0, 1) := by decide +kernel
theorem dX6_frees_14 : decode cX6_frees 14 = .ok (.iload_n 1, 1) := by decide +kernel
theorem dX6_frees_15 : decode cX6_frees 15 = .ok (.invokevirtual 101, 3) := by decide +kernel
theorem dX6_frees_18 : decode cX6_frees 18 = .ok (.ifCond .ne 12, 3) := by decide +kernel
theorem dX6_frees_21 : decode cX6_frees 21 = .ok (.aload_n 0, 1) := by decide +kernel
theorem dX6_frees_22 : decode cX6_frees 22 = .ok (.iconst 2, 1) := by decide +kernel
theorem dX6_frees_23 : decode cX6_frees 23 = .ok (.bipush 6, 2) := by decide +kernel
theorem dX6_frees_25 : decode cX6_frees 25 = .ok (.iload_n 1, 1) := by decide +kernel
theorem dX6_frees_26 : decode cX6_frees 26 = .ok (.invokevirtual 73, 3) := by decide +kernel
theorem dX6_frees_29 : decode cX6_frees 29 = .ok (.ireturn, 1) := by decide +kernel
theorem dX6_frees_30 : decode cX6_frees 30 = .ok (.aload_n 0, 1) := by decide +kernel
theorem dX6_frees_31 : decode cX6_frees 31 = .ok (.getfield 13, 3) := by decide +kernel
theorem dX6_frees_34 : decode cX6_frees 34 = .ok (.iconst 1, 1) := by decide +kernel
theorem dX6_frees_35 : decode cX6_frees 35 = .ok (.dup2, 1) := by decide +kernel
theorem dX6_frees_36 : decode cX6_frees 36 = .ok (.iaload, 1) := by decide +kernel
theorem dX6_frees_37 : decode cX6_frees 37 = .ok (.iconst 1, 1) := by decide +kernel
theorem dX6_frees_38 : decode cX6_frees 38 = .ok (.iload_n 1, 1) := by decide +kernel
theorem dX6_frees_39 : decode cX6_frees 39 = .ok (.ishl, 1) := by decide +kernel
theorem dX6_frees_40 : decode cX6_frees 40 = .ok (.ixor, 1) := by decide +kernel
theorem dX6_frees_41 : decode cX6_frees 41 = .ok (.iastore, 1) := by decide +kernel
theorem dX6_frees_42 : decode cX6_frees 42 = .ok (.aload_n 0, 1) := by decide +kernel
theorem dX6_frees_43 : decode cX6_frees 43 = .ok (.getfield 13, 3) := by decide +kernel
theorem dX6_frees_46 : decode cX6_frees 46 = .ok (.iconst 1, 1) := by decide +kernel
theorem dX6_frees_47 : decode cX6_frees 47 = .ok (.iaload, 1) := by decide +kernel
theorem dX6_frees_48 : decode cX6_frees 48 = .ok (.invokestatic 81, 3) := by decide +kernel
theorem dX6_frees_51 : decode cX6_frees 51 = .ok (.ireturn, 1) := by decide +kernel
theorem dX6_release_0 : decode cX6_release 0 = .ok (.aload_n 0, 1) := by decide +kernel
theorem dX6_release_1 : decode cX6_release 1 = .ok (.invokevirtual 84, 3) := by decide +kernel
theorem dX6_release_4 : decode cX6_release 4 = .ok (.aload_n 0, 1) := by decide +kernel
theorem dX6_release_5 : decode cX6_release 5 = .ok (.aload_n 0, 1) := by decide +kernel
theorem dX6_release_6 : decode cX6_release 6 = .ok (.iload_n 1, 1) := by decide +kernel
theorem dX6_release_7 : decode cX6_release 7 = .ok (.invokevirtual 107, 3) := by decide +kernel
theorem dX6_release_10 : decode cX6_release 10 = .ok (.invokevirtual 91, 3) := by decide +kernel
theorem dX6_release_13 : decode cX6_release 13 = .ok (.ireturn, 1) := by decide +kernel
theorem dX6_drops_0 : decode cX6_drops 0 = .ok (.iload_n 1, 1) := by decide +kernel
theorem dX6_drops_1 : decode cX6_drops 1 = .ok (.invokestatic 66, 3) := by decide +kernel
theorem dX6_drops_4 : decode cX6_drops 4 = .ok (.ifCond .ne 9, 3) := by decide +kernel
theorem dX6_drops_7 : decode cX6_drops 7 = .ok (.aload_n 0, 1) := by decide +kernel
theorem dX6_drops_8 : decode cX6_drops 8 = .ok (.iconst 1, 1) := by decide +kernel
theorem dX6_drops_9 : decode cX6_drops 9 = .ok (.invokevirtual 51, 3) := by decide +kernel
theorem dX6_drops_12 : decode cX6_drops 12 = .ok (.ireturn, 1) := by decide +kernel
theorem dX6_drops_13 : decode cX6_drops 13 = .ok (.aload_n 0, 1) := by decide +kernel
theorem dX6_drops_14 : decode cX6_drops 14 = .ok (.iload_n 1, 1) := by decide +kernel
theorem dX6_drops_15 : decode cX6_drops 15 = .ok (.invokevirtual 70, 3) := by decide +kernel
theorem dX6_drops_18 : decode cX6_drops 18 = .ok (.ifCond .ne 11, 3) := by decide +kernel
theorem dX6_drops_21 : decode cX6_drops 21 = .ok (.aload_n 0, 1) := by decide +kernel
theorem dX6_drops_22 : decode cX6_drops 22 = .ok (.iconst 2, 1) := by decide +kernel
theorem dX6_drops_23 : decode cX6_drops 23 = .ok (.iconst 2, 1) := by decide +kernel
theorem dX6_drops_24 : decode cX6_drops 24 = .ok (.iload_n 1, 1) := by decide +kernel
theorem dX6_drops_25 : decode cX6_drops 25 = .ok (.invokevirtual 73, 3) := by decide +kernel
theorem dX6_drops_28 : decode cX6_drops 28 = .ok (.ireturn, 1) := by decide +kernel
theorem dX6_drops_29 : decode cX6_drops 29 = .ok (.aload_n 0, 1) := by decide +kernel
theorem dX6_drops_30 : decode cX6_drops 30 = .ok (.getfield 13, 3) := by decide +kernel
theorem dX6_drops_33 : decode cX6_drops 33 = .ok (.bipush 10, 2) := by decide +kernel
theorem dX6_drops_35 : decode cX6_drops 35 = .ok (.iload_n 1, 1) := by decide +kernel
theorem dX6_drops_36 : decode cX6_drops 36 = .ok (.iadd, 1) := by decide +kernel
theorem dX6_drops_37 : decode cX6_drops 37 = .ok (.iaload, 1) := by decide +kernel
theorem dX6_drops_38 : decode cX6_drops 38 = .ok (.istore_n 2, 1) := by decide +kernel
theorem dX6_drops_39 : decode cX6_drops 39 = .ok (.iload_n 2, 1) := by decide +kernel
theorem dX6_drops_40 : decode cX6_drops 40 = .ok (.ifCond .ne 19, 3) := by decide +kernel
theorem dX6_drops_43 : decode cX6_drops 43 = .ok (.aload_n 0, 1) := by decide +kernel
theorem dX6_drops_44 : decode cX6_drops 44 = .ok (.iconst 2, 1) := by decide +kernel
theorem dX6_drops_45 : decode cX6_drops 45 = .ok (.iconst 3, 1) := by decide +kernel
theorem dX6_drops_46 : decode cX6_drops 46 = .ok (.aload_n 0, 1) := by decide +kernel
theorem dX6_drops_47 : decode cX6_drops 47 = .ok (.getfield 13, 3) := by decide +kernel
theorem dX6_drops_50 : decode cX6_drops 50 = .ok (.iconst 0, 1) := by decide +kernel
theorem dX6_drops_51 : decode cX6_drops 51 = .ok (.iaload, 1) := by decide +kernel
theorem dX6_drops_52 : decode cX6_drops 52 = .ok (.invokestatic 81, 3) := by decide +kernel
theorem dX6_drops_55 : decode cX6_drops 55 = .ok (.invokevirtual 73, 3) := by decide +kernel
theorem dX6_drops_58 : decode cX6_drops 58 = .ok (.ireturn, 1) := by decide +kernel
theorem dX6_drops_59 : decode cX6_drops 59 = .ok (.aload_n 0, 1) := by decide +kernel
theorem dX6_drops_60 : decode cX6_drops 60 = .ok (.iload_n 1, 1) := by decide +kernel
theorem dX6_drops_61 : decode cX6_drops 61 = .ok (.iconst 0, 1) := by decide +kernel
theorem dX6_drops_62 : decode cX6_drops 62 = .ok (.iconst 0, 1) := by decide +kernel
theorem dX6_drops_63 : decode cX6_drops 63 = .ok (.invokevirtual 77, 3) := by decide +kernel
theorem dX6_drops_66 : decode cX6_drops 66 = .ok (.aload_n 0, 1) := by decide +kernel
theorem dX6_drops_67 : decode cX6_drops 67 = .ok (.getfield 13, 3) := by decide +kernel
theorem dX6_drops_70 : decode cX6_drops 70 = .ok (.bipush 9, 2) := by decide +kernel
theorem dX6_drops_72 : decode cX6_drops 72 = .ok (.dup2, 1) := by decide +kernel
theorem dX6_drops_73 : decode cX6_drops 73 = .ok (.iaload, 1) := by decide +kernel
theorem dX6_drops_74 : decode cX6_drops 74 = .ok (.iload_n 2, 1) := by decide +kernel
theorem dX6_drops_75 : decode cX6_drops 75 = .ok (.iadd, 1) := by decide +kernel
theorem dX6_drops_76 : decode cX6_drops 76 = .ok (.iastore, 1) := by decide +kernel
theorem dX6_drops_77 : decode cX6_drops 77 = .ok (.iload_n 2, 1) := by decide +kernel
theorem dX6_drops_78 : decode cX6_drops 78 = .ok (.ireturn, 1) := by decide +kernel
theorem dX6_dropStitch_0 : decode cX6_dropStitch 0 = .ok (.aload_n 0, 1) := by decide +kernel
theorem dX6_dropStitch_1 : decode cX6_dropStitch 1 = .ok (.invokevirtual 84, 3) := by decide +kernel
theorem dX6_dropStitch_4 : decode cX6_dropStitch 4 = .ok (.aload_n 0, 1) := by decide +kernel
theorem dX6_dropStitch_5 : decode cX6_dropStitch 5 = .ok (.aload_n 0, 1) := by decide +kernel
theorem dX6_dropStitch_6 : decode cX6_dropStitch 6 = .ok (.iload_n 1, 1) := by decide +kernel
theorem dX6_dropStitch_7 : decode cX6_dropStitch 7 = .ok (.invokevirtual 110, 3) := by decide +kernel
theorem dX6_dropStitch_10 : decode cX6_dropStitch 10 = .ok (.invokevirtual 91, 3) := by decide +kernel
theorem dX6_dropStitch_13 : decode cX6_dropStitch 13 = .ok (.ireturn, 1) := by decide +kernel
theorem dX6_picks_0 : decode cX6_picks 0 = .ok (.iload_n 1, 1) := by decide +kernel
theorem dX6_picks_1 : decode cX6_picks 1 = .ok (.invokestatic 66, 3) := by decide +kernel
theorem dX6_picks_4 : decode cX6_picks 4 = .ok (.ifCond .ne 9, 3) := by decide +kernel
theorem dX6_picks_7 : decode cX6_picks 7 = .ok (.aload_n 0, 1) := by decide +kernel
theorem dX6_picks_8 : decode cX6_picks 8 = .ok (.iconst 1, 1) := by decide +kernel
theorem dX6_picks_9 : decode cX6_picks 9 = .ok (.invokevirtual 51, 3) := by decide +kernel
theorem dX6_picks_12 : decode cX6_picks 12 = .ok (.ireturn, 1) := by decide +kernel
theorem dX6_picks_13 : decode cX6_picks 13 = .ok (.aload_n 0, 1) := by decide +kernel
theorem dX6_picks_14 : decode cX6_picks 14 = .ok (.iload_n 1, 1) := by decide +kernel
theorem dX6_picks_15 : decode cX6_picks 15 = .ok (.invokevirtual 70, 3) := by decide +kernel
theorem dX6_picks_18 : decode cX6_picks 18 = .ok (.ifCond .ne 11, 3) := by decide +kernel
theorem dX6_picks_21 : decode cX6_picks 21 = .ok (.aload_n 0, 1) := by decide +kernel
theorem dX6_picks_22 : decode cX6_picks 22 = .ok (.iconst 2, 1) := by decide +kernel
theorem dX6_picks_23 : decode cX6_picks 23 = .ok (.iconst 2, 1) := by decide +kernel
theorem dX6_picks_24 : decode cX6_picks 24 = .ok (.iload_n 1, 1) := by decide +kernel
theorem dX6_picks_25 : decode cX6_picks 25 = .ok (.invokevirtual 73, 3) := by decide +kernel
theorem dX6_picks_28 : decode cX6_picks 28 = .ok (.ireturn, 1) := by decide +kernel
theorem dX6_picks_29 : decode cX6_picks 29 = .ok (.aload_n 0, 1) := by decide +kernel
theorem dX6_picks_30 : decode cX6_picks 30 = .ok (.getfield 13, 3) := by decide +kernel
theorem dX6_picks_33 : decode cX6_picks 33 = .ok (.bipush 10, 2) := by decide +kernel
theorem dX6_picks_35 : decode cX6_picks 35 = .ok (.iload_n 1, 1) := by decide +kernel
theorem dX6_picks_36 : decode cX6_picks 36 = .ok (.iadd, 1) := by decide +kernel
theorem dX6_picks_37 : decode cX6_picks 37 = .ok (.iaload, 1) := by decide +kernel
theorem dX6_picks_38 : decode cX6_picks 38 = .ok (.ifCond .le 19, 3) := by decide +kernel
theorem dX6_picks_41 : decode cX6_picks 41 = .ok (.aload_n 0, 1) := by decide +kernel
theorem dX6_picks_42 : decode cX6_picks 42 = .ok (.iconst 2, 1) := by decide +kernel
theorem dX6_picks_43 : decode cX6_picks 43 = .ok (.iconst 4, 1) := by decide +kernel
theorem dX6_picks_44 : decode cX6_picks 44 = .ok (.aload_n 0, 1) := by decide +kernel
theorem dX6_picks_45 : decode cX6_picks 45 = .ok (.getfield 13, 3) := by decide +kernel
theorem dX6_picks_48 : decode cX6_picks 48 = .ok (.bipush 10, 2) := by decide +kernel
theorem dX6_picks_50 : decode cX6_picks 50 = .ok (.iload_n 1, 1) := by decide +kernel
theorem dX6_picks_51 : decode cX6_picks 51 = .ok (.iadd, 1) := by decide +kernel
theorem dX6_picks_52 : decode cX6_picks 52 = .ok (.iaload, 1) := by decide +kernel
theorem dX6_picks_53 : decode cX6_picks 53 = .ok (.invokevirtual 73, 3) := by decide +kernel
theorem dX6_picks_56 : decode cX6_picks 56 = .ok (.ireturn, 1) := by decide +kernel
theorem dX6_picks_57 : decode cX6_picks 57 = .ok (.aload_n 0, 1) := by decide +kernel
theorem dX6_picks_58 : decode cX6_picks 58 = .ok (.getfield 13, 3) := by decide +kernel
theorem dX6_picks_61 : decode cX6_picks 61 = .ok (.bipush 58, 2) := by decide +kernel
theorem dX6_picks_63 : decode cX6_picks 63 = .ok (.aload_n 0, 1) := by decide +kernel
theorem dX6_picks_64 : decode cX6_picks 64 = .ok (.getfield 13, 3) := by decide +kernel
theorem dX6_picks_67 : decode cX6_picks 67 = .ok (.iconst 2, 1) := by decide +kernel
theorem dX6_picks_68 : decode cX6_picks 68 = .ok (.iaload, 1) := by decide +kernel
theorem dX6_picks_69 : decode cX6_picks 69 = .ok (.iadd, 1) := by decide +kernel
theorem dX6_picks_70 : decode cX6_picks 70 = .ok (.iaload, 1) := by decide +kernel
theorem dX6_picks_71 : decode cX6_picks 71 = .ok (.ifCond .ne 12, 3) := by decide +kernel
theorem dX6_picks_74 : decode cX6_picks 74 = .ok (.aload_n 0, 1) := by decide +kernel
theorem dX6_picks_75 : decode cX6_picks 75 = .ok (.iconst 2, 1) := by decide +kernel
theorem dX6_picks_76 : decode cX6_picks 76 = .ok (.bipush 10, 2) := by decide +kernel
theorem dX6_picks_78 : decode cX6_picks 78 = .ok (.iconst 1, 1) := by decide +kernel
theorem dX6_picks_79 : decode cX6_picks 79 = .ok (.invokevirtual 73, 3) := by decide +kernel
theorem dX6_picks_82 : decode cX6_picks 82 = .ok (.ireturn, 1) := by decide +kernel
theorem dX6_picks_83 : decode cX6_picks 83 = .ok (.aload_n 0, 1) := by decide +kernel
theorem dX6_picks_84 : decode cX6_picks 84 = .ok (.iload_n 1, 1) := by decide +kernel
theorem dX6_picks_85 : decode cX6_picks 85 = .ok (.iconst 1, 1) := by decide +kernel
theorem dX6_picks_86 : decode cX6_picks 86 = .ok (.iconst 0, 1) := by decide +kernel
theorem dX6_picks_87 : decode cX6_picks 87 = .ok (.invokevirtual 77, 3) := by decide +kernel
theorem dX6_picks_90 : decode cX6_picks 90 = .ok (.aload_n 0, 1) := by decide +kernel
theorem dX6_picks_91 : decode cX6_picks 91 = .ok (.getfield 13, 3) := by decide +kernel
theorem dX6_picks_94 : decode cX6_picks 94 = .ok (.bipush 58, 2) := by decide +kernel
theorem dX6_picks_96 : decode cX6_picks 96 = .ok (.aload_n 0, 1) := by decide +kernel
theorem dX6_picks_97 : decode cX6_picks 97 = .ok (.getfield 13, 3) := by decide +kernel
theorem dX6_picks_100 : decode cX6_picks 100 = .ok (.iconst 2, 1) := by decide +kernel
theorem dX6_picks_101 : decode cX6_picks 101 = .ok (.iaload, 1) := by decide +kernel
theorem dX6_picks_102 : decode cX6_picks 102 = .ok (.iadd, 1) := by decide +kernel
theorem dX6_picks_103 : decode cX6_picks 103 = .ok (.dup2, 1) := by decide +kernel
theorem dX6_picks_104 : decode cX6_picks 104 = .ok (.iaload, 1) := by decide +kernel
theorem dX6_picks_105 : decode cX6_picks 105 = .ok (.iconst 1, 1) := by decide +kernel
theorem dX6_picks_106 : decode cX6_picks 106 = .ok (.isub, 1) := by decide +kernel
theorem dX6_picks_107 : decode cX6_picks 107 = .ok (.iastore, 1) := by decide +kernel
theorem dX6_picks_108 : decode cX6_picks 108 = .ok (.aload_n 0, 1) := by decide +kernel
theorem dX6_picks_109 : decode cX6_picks 109 = .ok (.getfield 13, 3) := by decide +kernel
theorem dX6_picks_112 : decode cX6_picks 112 = .ok (.bipush 8, 2) := by decide +kernel
theorem dX6_picks_114 : decode cX6_picks 114 = .ok (.dup2, 1) := by decide +kernel
theorem dX6_picks_115 : decode cX6_picks 115 = .ok (.iaload, 1) := by decide +kernel
theorem dX6_picks_116 : decode cX6_picks 116 = .ok (.iconst 1, 1) := by decide +kernel
theorem dX6_picks_117 : decode cX6_picks 117 = .ok (.iadd, 1) := by decide +kernel
theorem dX6_picks_118 : decode cX6_picks 118 = .ok (.iastore, 1) := by decide +kernel
theorem dX6_picks_119 : decode cX6_picks 119 = .ok (.aload_n 0, 1) := by decide +kernel
theorem dX6_picks_120 : decode cX6_picks 120 = .ok (.getfield 13, 3) := by decide +kernel
theorem dX6_picks_123 : decode cX6_picks 123 = .ok (.bipush 58, 2) := by decide +kernel
theorem dX6_picks_125 : decode cX6_picks 125 = .ok (.aload_n 0, 1) := by decide +kernel
theorem dX6_picks_126 : decode cX6_picks 126 = .ok (.getfield 13, 3) := by decide +kernel
theorem dX6_picks_129 : decode cX6_picks 129 = .ok (.iconst 2, 1) := by decide +kernel
theorem dX6_picks_130 : decode cX6_picks 130 = .ok (.iaload, 1) := by decide +kernel
theorem dX6_picks_131 : decode cX6_picks 131 = .ok (.iadd, 1) := by decide +kernel
theorem dX6_picks_132 : decode cX6_picks 132 = .ok (.iaload, 1) := by decide +kernel
theorem dX6_picks_133 : decode cX6_picks 133 = .ok (.ireturn, 1) := by decide +kernel
theorem dX6_pickUp_0 : decode cX6_pickUp 0 = .ok (.aload_n 0, 1) := by decide +kernel
theorem dX6_pickUp_1 : decode cX6_pickUp 1 = .ok (.invokevirtual 84, 3) := by decide +kernel
theorem dX6_pickUp_4 : decode cX6_pickUp 4 = .ok (.aload_n 0, 1) := by decide +kernel
theorem dX6_pickUp_5 : decode cX6_pickUp 5 = .ok (.aload_n 0, 1) := by decide +kernel
theorem dX6_pickUp_6 : decode cX6_pickUp 6 = .ok (.iload_n 1, 1) := by decide +kernel
theorem dX6_pickUp_7 : decode cX6_pickUp 7 = .ok (.invokevirtual 113, 3) := by decide +kernel
theorem dX6_pickUp_10 : decode cX6_pickUp 10 = .ok (.invokevirtual 91, 3) := by decide +kernel
theorem dX6_pickUp_13 : decode cX6_pickUp 13 = .ok (.ireturn, 1) := by decide +kernel
theorem dX6_moves_0 : decode cX6_moves 0 = .ok (.iload_n 1, 1) := by decide +kernel
theorem dX6_moves_1 : decode cX6_moves 1 = .ok (.invokestatic 66, 3) := by decide +kernel
theorem dX6_moves_4 : decode cX6_moves 4 = .ok (.ifCond .ne 9, 3) := by decide +kernel
theorem dX6_moves_7 : decode cX6_moves 7 = .ok (.aload_n 0, 1) := by decide +kernel
theorem dX6_moves_8 : decode cX6_moves 8 = .ok (.iconst 1, 1) := by decide +kernel
theorem dX6_moves_9 : decode cX6_moves 9 = .ok (.invokevirtual 51, 3) := by decide +kernel
theorem dX6_moves_12 : decode cX6_moves 12 = .ok (.ireturn, 1) := by decide +kernel
theorem dX6_moves_13 : decode cX6_moves 13 = .ok (.aload_n 0, 1) := by decide +kernel
theorem dX6_moves_14 : decode cX6_moves 14 = .ok (.iload_n 1, 1) := by decide +kernel
theorem dX6_moves_15 : decode cX6_moves 15 = .ok (.invokevirtual 70, 3) := by decide +kernel
theorem dX6_moves_18 : decode cX6_moves 18 = .ok (.ifCond .ne 11, 3) := by decide +kernel
theorem dX6_moves_21 : decode cX6_moves 21 = .ok (.aload_n 0, 1) := by decide +kernel
theorem dX6_moves_22 : decode cX6_moves 22 = .ok (.iconst 2, 1) := by decide +kernel
theorem dX6_moves_23 : decode cX6_moves 23 = .ok (.iconst 2, 1) := by decide +kernel
theorem dX6_moves_24 : decode cX6_moves 24 = .ok (.iload_n 1, 1) := by decide +kernel
theorem dX6_moves_25 : decode cX6_moves 25 = .ok (.invokevirtual 73, 3) := by decide +kernel
theorem dX6_moves_28 : decode cX6_moves 28 = .ok (.ireturn, 1) := by decide +kernel
theorem dX6_moves_29 : decode cX6_moves 29 = .ok (.aload_n 0, 1) := by decide +kernel
theorem dX6_moves_30 : decode cX6_moves 30 = .ok (.getfield 13, 3) := by decide +kernel
theorem dX6_moves_33 : decode cX6_moves 33 = .ok (.bipush 10, 2) := by decide +kernel
theorem dX6_moves_35 : decode cX6_moves 35 = .ok (.iload_n 1, 1) := by decide +kernel
theorem dX6_moves_36 : decode cX6_moves 36 = .ok (.iadd, 1) := by decide +kernel
theorem dX6_moves_37 : decode cX6_moves 37 = .ok (.iaload, 1) := by decide +kernel
theorem dX6_moves_38 : decode cX6_moves 38 = .ok (.ifCond .ne 19, 3) := by decide +kernel
theorem dX6_moves_41 : decode cX6_moves 41 = .ok (.aload_n 0, 1) := by decide +kernel
theorem dX6_moves_42 : decode cX6_moves 42 = .ok (.iconst 2, 1) := by decide +kernel
theorem dX6_moves_43 : decode cX6_moves 43 = .ok (.iconst 3, 1) := by decide +kernel
theorem dX6_moves_44 : decode cX6_moves 44 = .ok (.aload_n 0, 1) := by decide +kernel
theorem dX6_moves_45 : decode cX6_moves 45 = .ok (.getfield 13, 3) := by decide +kernel
theorem dX6_moves_48 : decode cX6_moves 48 = .ok (.iconst 0, 1) := by decide +kernel
theorem dX6_moves_49 : decode cX6_moves 49 = .ok (.iaload, 1) := by decide +kernel
theorem dX6_moves_50 : decode cX6_moves 50 = .ok (.invokestatic 81, 3) := by decide +kernel
theorem dX6_moves_53 : decode cX6_moves 53 = .ok (.invokevirtual 73, 3) := by decide +kernel
theorem dX6_moves_56 : decode cX6_moves 56 = .ok (.ireturn, 1) := by decide +kernel
theorem dX6_moves_57 : decode cX6_moves 57 = .ok (.iload_n 1, 1) := by decide +kernel
theorem dX6_moves_58 : decode cX6_moves 58 = .ok (.iload_n 2, 1) := by decide +kernel
theorem dX6_moves_59 : decode cX6_moves 59 = .ok (.iadd, 1) := by decide +kernel
theorem dX6_moves_60 : decode cX6_moves 60 = .ok (.istore_n 3, 1) := by decide +kernel
theorem dX6_moves_61 : decode cX6_moves 61 = .ok (.iload_n 3, 1) := by decide +kernel
theorem dX6_moves_62 : decode cX6_moves 62 = .ok (.invokestatic 66, 3) := by decide +kernel
theorem dX6_moves_65 : decode cX6_moves 65 = .ok (.ifCond .ne 12, 3) := by decide +kernel
theorem dX6_moves_68 : decode cX6_moves 68 = .ok (.aload_n 0, 1) := by decide +kernel
theorem dX6_moves_69 : decode cX6_moves 69 = .ok (.iconst 2, 1) := by decide +kernel
theorem dX6_moves_70 : decode cX6_moves 70 = .ok (.bipush 7, 2) := by decide +kernel
theorem dX6_moves_72 : decode cX6_moves 72 = .ok (.iload_n 1, 1) := by decide +kernel
theorem dX6_moves_73 : decode cX6_moves 73 = .ok (.invokevirtual 73, 3) := by decide +kernel
theorem dX6_moves_76 : decode cX6_moves 76 = .ok (.ireturn, 1) := by decide +kernel
theorem dX6_moves_77 : decode cX6_moves 77 = .ok (.aload_n 0, 1) := by decide +kernel
theorem dX6_moves_78 : decode cX6_moves 78 = .ok (.iload_n 3, 1) := by decide +kernel
theorem dX6_moves_79 : decode cX6_moves 79 = .ok (.invokevirtual 70, 3) := by decide +kernel
theorem dX6_moves_82 : decode cX6_moves 82 = .ok (.ifCond .ne 12, 3) := by decide +kernel
theorem dX6_moves_85 : decode cX6_moves 85 = .ok (.aload_n 0, 1) := by decide +kernel
theorem dX6_moves_86 : decode cX6_moves 86 = .ok (.iconst 2, 1) := by decide +kernel
theorem dX6_moves_87 : decode cX6_moves 87 = .ok (.bipush 8, 2) := by decide +kernel
theorem dX6_moves_89 : decode cX6_moves 89 = .ok (.iload_n 3, 1) := by decide +kernel
theorem dX6_moves_90 : decode cX6_moves 90 = .ok (.invokevirtual 73, 3) := by decide +kernel
theorem dX6_moves_93 : decode cX6_moves 93 = .ok (.ireturn, 1) := by decide +kernel
theorem dX6_moves_94 : decode cX6_moves 94 = .ok (.aload_n 0, 1) := by decide +kernel
theorem dX6_moves_95 : decode cX6_moves 95 = .ok (.getfield 13, 3) := by decide +kernel
theorem dX6_moves_98 : decode cX6_moves 98 = .ok (.bipush 10, 2) := by decide +kernel
theorem dX6_moves_100 : decode cX6_moves 100 = .ok (.iload_n 1, 1) := by decide +kernel
theorem dX6_moves_101 : decode cX6_moves 101 = .ok (.iadd, 1) := by decide +kernel
theorem dX6_moves_102 : decode cX6_moves 102 = .ok (.iaload, 1) := by decide +kernel
theorem dX6_moves_103 : decode cX6_moves 103 = .ok (.aload_n 0, 1) := by decide +kernel
theorem dX6_moves_104 : decode cX6_moves 104 = .ok (.getfield 13, 3) := by decide +kernel
theorem dX6_moves_107 : decode cX6_moves 107 = .ok (.bipush 10, 2) := by decide +kernel
theorem dX6_moves_109 : decode cX6_moves 109 = .ok (.iload_n 3, 1) := by decide +kernel
theorem dX6_moves_110 : decode cX6_moves 110 = .ok (.iadd, 1) := by decide +kernel
theorem dX6_moves_111 : decode cX6_moves 111 = .ok (.iaload, 1) := by decide +kernel
theorem dX6_moves_112 : decode cX6_moves 112 = .ok (.iadd, 1) := by decide +kernel
theorem dX6_moves_113 : decode cX6_moves 113 = .ok (.istore 4, 2) := by decide +kernel
theorem dX6_moves_115 : decode cX6_moves 115 = .ok (.iload 4, 2) := by decide +kernel
theorem dX6_moves_117 : decode cX6_moves 117 = .ok (.iconst 3, 1) := by decide +kernel
theorem dX6_moves_118 : decode cX6_moves 118 = .ok (.if_icmp .le 13, 3) := by decide +kernel
theorem dX6_moves_121 : decode cX6_moves 121 = .ok (.aload_n 0, 1) := by decide +kernel
theorem dX6_moves_122 : decode cX6_moves 122 = .ok (.iconst 2, 1) := by decide +kernel
theorem dX6_moves_123 : decode cX6_moves 123 = .ok (.bipush 9, 2) := by decide +kernel
theorem dX6_moves_125 : decode cX6_moves 125 = .ok (.iload 4, 2) := by decide +kernel
theorem dX6_moves_127 : decode cX6_moves 127 = .ok (.invokevirtual 73, 3) := by decide +kernel
theorem dX6_moves_130 : decode cX6_moves 130 = .ok (.ireturn, 1) := by decide +kernel
theorem dX6_moves_131 : decode cX6_moves 131 = .ok (.aload_n 0, 1) := by decide +kernel
theorem dX6_moves_132 : decode cX6_moves 132 = .ok (.iload_n 3, 1) := by decide +kernel
theorem dX6_moves_133 : decode cX6_moves 133 = .ok (.iload 4, 2) := by decide +kernel
theorem dX6_moves_135 : decode cX6_moves 135 = .ok (.aload_n 0, 1) := by decide +kernel
theorem dX6_moves_136 : decode cX6_moves 136 = .ok (.getfield 13, 3) := by decide +kernel
theorem dX6_moves_139 : decode cX6_moves 139 = .ok (.bipush 34, 2) := by decide +kernel
theorem dX6_moves_141 : decode cX6_moves 141 = .ok (.iload_n 1, 1) := by decide +kernel
theorem dX6_moves_142 : decode cX6_moves 142 = .ok (.iadd, 1) := by decide +kernel
theorem dX6_moves_143 : decode cX6_moves 143 = .ok (.iaload, 1) := by decide +kernel
theorem dX6_moves_144 : decode cX6_moves 144 = .ok (.aload_n 0, 1) := by decide +kernel
theorem dX6_moves_145 : decode cX6_moves 145 = .ok (.getfield 13, 3) := by decide +kernel
theorem dX6_moves_148 : decode cX6_moves 148 = .ok (.bipush 34, 2) := by decide +kernel
theorem dX6_moves_150 : decode cX6_moves 150 = .ok (.iload_n 3, 1) := by decide +kernel
theorem dX6_moves_151 : decode cX6_moves 151 = .ok (.iadd, 1) := by decide +kernel
theorem dX6_moves_152 : decode cX6_moves 152 = .ok (.iaload, 1) := by decide +kernel
theorem dX6_moves_153 : decode cX6_moves 153 = .ok (.if_icmp .le 15, 3) := by decide +kernel
theorem dX6_moves_156 : decode cX6_moves 156 = .ok (.aload_n 0, 1) := by decide +kernel
theorem dX6_moves_157 : decode cX6_moves 157 = .ok (.getfield 13, 3) := by decide +kernel
theorem dX6_moves_160 : decode cX6_moves 160 = .ok (.bipush 34, 2) := by decide +kernel
theorem dX6_moves_162 : decode cX6_moves 162 = .ok (.iload_n 1, 1) := by decide +kernel
theorem dX6_moves_163 : decode cX6_moves 163 = .ok (.iadd, 1) := by decide +kernel
theorem dX6_moves_164 : decode cX6_moves 164 = .ok (.iaload, 1) := by decide +kernel
theorem dX6_moves_165 : decode cX6_moves 165 = .ok (.goto 12, 3) := by decide +kernel
theorem dX6_moves_168 : decode cX6_moves 168 = .ok (.aload_n 0, 1) := by decide +kernel
theorem dX6_moves_169 : decode cX6_moves 169 = .ok (.getfield 13, 3) := by decide +kernel
theorem dX6_moves_172 : decode cX6_moves 172 = .ok (.bipush 34, 2) := by decide +kernel
theorem dX6_moves_174 : decode cX6_moves 174 = .ok (.iload_n 3, 1) := by decide +kernel
theorem dX6_moves_175 : decode cX6_moves 175 = .ok (.iadd, 1) := by decide +kernel
theorem dX6_moves_176 : decode cX6_moves 176 = .ok (.iaload, 1) := by decide +kernel
theorem dX6_moves_177 : decode cX6_moves 177 = .ok (.invokevirtual 77, 3) := by decide +kernel
theorem dX6_moves_180 : decode cX6_moves 180 = .ok (.aload_n 0, 1) := by decide +kernel
theorem dX6_moves_181 : decode cX6_moves 181 = .ok (.iload_n 1, 1) := by decide +kernel
theorem dX6_moves_182 : decode cX6_moves 182 = .ok (.iconst 0, 1) := by decide +kernel
theorem dX6_moves_183 : decode cX6_moves 183 = .ok (.iconst 0, 1) := by decide +kernel
theorem dX6_moves_184 : decode cX6_moves 184 = .ok (.invokevirtual 77, 3) := by decide +kernel
theorem dX6_moves_187 : decode cX6_moves 187 = .ok (.aload_n 0, 1) := by decide +kernel
theorem dX6_moves_188 : decode cX6_moves 188 = .ok (.getfield 13, 3) := by decide +kernel
theorem dX6_moves_191 : decode cX6_moves 191 = .ok (.iconst 0, 1) := by decide +kernel
theorem dX6_moves_192 : decode cX6_moves 192 = .ok (.dup2, 1) := by decide +kernel
theorem dX6_moves_193 : decode cX6_moves 193 = .ok (.iaload, 1) := by decide +kernel
theorem dX6_moves_194 : decode cX6_moves 194 = .ok (.iconst 1, 1) := by decide +kernel
theorem dX6_moves_195 : decode cX6_moves 195 = .ok (.iload_n 1, 1) := by decide +kernel
theorem dX6_moves_196 : decode cX6_moves 196 = .ok (.ishl, 1) := by decide +kernel
theorem dX6_moves_197 : decode cX6_moves 197 = .ok (.iconst (-1), 1) := by decide +kernel
theorem dX6_moves_198 : decode cX6_moves 198 = .ok (.ixor, 1) := by decide +kernel
theorem dX6_moves_199 : decode cX6_moves 199 = .ok (.iand, 1) := by decide +kernel
theorem dX6_moves_200 : decode cX6_moves 200 = .ok (.iastore, 1) := by decide +kernel
theorem dX6_moves_201 : decode cX6_moves 201 = .ok (.aload_n 0, 1) := by decide +kernel
theorem dX6_moves_202 : decode cX6_moves 202 = .ok (.getfield 13, 3) := by decide +kernel
theorem dX6_moves_205 : decode cX6_moves 205 = .ok (.iconst 1, 1) := by decide +kernel
theorem dX6_moves_206 : decode cX6_moves 206 = .ok (.dup2, 1) := by decide +kernel
theorem dX6_moves_207 : decode cX6_moves 207 = .ok (.iaload, 1) := by decide +kernel
theorem dX6_moves_208 : decode cX6_moves 208 = .ok (.iconst 1, 1) := by decide +kernel
theorem dX6_moves_209 : decode cX6_moves 209 = .ok (.iload_n 1, 1) := by decide +kernel
theorem dX6_moves_210 : decode cX6_moves 210 = .ok (.ishl, 1) := by decide +kernel
theorem dX6_moves_211 : decode cX6_moves 211 = .ok (.iconst (-1), 1) := by decide +kernel
theorem dX6_moves_212 : decode cX6_moves 212 = .ok (.ixor, 1) := by decide +kernel
theorem dX6_moves_213 : decode cX6_moves 213 = .ok (.iand, 1) := by decide +kernel
theorem dX6_moves_214 : decode cX6_moves 214 = .ok (.iastore, 1) := by decide +kernel
theorem dX6_moves_215 : decode cX6_moves 215 = .ok (.iload 4, 2) := by decide +kernel
theorem dX6_moves_217 : decode cX6_moves 217 = .ok (.ireturn, 1) := by decide +kernel
theorem dX6_transfer_0 : decode cX6_transfer 0 = .ok (.aload_n 0, 1) := by decide +kernel
theorem dX6_transfer_1 : decode cX6_transfer 1 = .ok (.invokevirtual 84, 3) := by decide +kernel
theorem dX6_transfer_4 : decode cX6_transfer 4 = .ok (.aload_n 0, 1) := by decide +kernel
theorem dX6_transfer_5 : decode cX6_transfer 5 = .ok (.aload_n 0, 1) := by decide +kernel
theorem dX6_transfer_6 : decode cX6_transfer 6 = .ok (.iload_n 1, 1) := by decide +kernel
theorem dX6_transfer_7 : decode cX6_transfer 7 = .ok (.iload_n 2, 1) := by decide +kernel
theorem dX6_transfer_8 : decode cX6_transfer 8 = .ok (.ifCond .eq 7, 3) := by decide +kernel
theorem dX6_transfer_11 : decode cX6_transfer 11 = .ok (.iconst 1, 1) := by decide +kernel
theorem dX6_transfer_12 : decode cX6_transfer 12 = .ok (.goto 4, 3) := by decide +kernel
theorem dX6_transfer_15 : decode cX6_transfer 15 = .ok (.iconst (-1), 1) := by decide +kernel
theorem dX6_transfer_16 : decode cX6_transfer 16 = .ok (.invokevirtual 116, 3) := by decide +kernel
theorem dX6_transfer_19 : decode cX6_transfer 19 = .ok (.invokevirtual 91, 3) := by decide +kernel
theorem dX6_transfer_22 : decode cX6_transfer 22 = .ok (.ireturn, 1) := by decide +kernel
theorem dX6_isInWork_0 : decode cX6_isInWork 0 = .ok (.aload_n 0, 1) := by decide +kernel
theorem dX6_isInWork_1 : decode cX6_isInWork 1 = .ok (.iload_n 1, 1) := by decide +kernel
theorem dX6_isInWork_2 : decode cX6_isInWork 2 = .ok (.invokestatic 66, 3) := by decide +kernel
theorem dX6_isInWork_5 : decode cX6_isInWork 5 = .ok (.ifCond .eq 7, 3) := by decide +kernel
theorem dX6_isInWork_8 : decode cX6_isInWork 8 = .ok (.iconst 0, 1) := by decide +kernel
theorem dX6_isInWork_9 : decode cX6_isInWork 9 = .ok (.goto 4, 3) := by decide +kernel
theorem dX6_isInWork_12 : decode cX6_isInWork 12 = .ok (.iconst 1, 1) := by decide +kernel
theorem dX6_isInWork_13 : decode cX6_isInWork 13 = .ok (.putfield 35, 3) := by decide +kernel
theorem dX6_isInWork_16 : decode cX6_isInWork 16 = .ok (.aload_n 0, 1) := by decide +kernel
theorem dX6_isInWork_17 : decode cX6_isInWork 17 = .ok (.getfield 35, 3) := by decide +kernel
theorem dX6_isInWork_20 : decode cX6_isInWork 20 = .ok (.ifCond .ne 15, 3) := by decide +kernel
theorem dX6_isInWork_23 : decode cX6_isInWork 23 = .ok (.aload_n 0, 1) := by decide +kernel
theorem dX6_isInWork_24 : decode cX6_isInWork 24 = .ok (.iload_n 1, 1) := by decide +kernel
theorem dX6_isInWork_25 : decode cX6_isInWork 25 = .ok (.invokevirtual 70, 3) := by decide +kernel
theorem dX6_isInWork_28 : decode cX6_isInWork 28 = .ok (.ifCond .eq 7, 3) := by decide +kernel
theorem dX6_isInWork_31 : decode cX6_isInWork 31 = .ok (.iconst 1, 1) := by decide +kernel
theorem dX6_isInWork_32 : decode cX6_isInWork 32 = .ok (.goto 4, 3) := by decide +kernel
theorem dX6_isInWork_35 : decode cX6_isInWork 35 = .ok (.iconst 0, 1) := by decide +kernel
theorem dX6_isInWork_36 : decode cX6_isInWork 36 = .ok (.ireturn, 1) := by decide +kernel
theorem dX6_isOnHold_0 : decode cX6_isOnHold 0 = .ok (.aload_n 0, 1) := by decide +kernel
theorem dX6_isOnHold_1 : decode cX6_isOnHold 1 = .ok (.iload_n 1, 1) := by decide +kernel
theorem dX6_isOnHold_2 : decode cX6_isOnHold 2 = .ok (.invokestatic 66, 3) := by decide +kernel
theorem dX6_isOnHold_5 : decode cX6_isOnHold 5 = .ok (.ifCond .eq 7, 3) := by decide +kernel
theorem dX6_isOnHold_8 : decode cX6_isOnHold 8 = .ok (.iconst 0, 1) := by decide +kernel
theorem dX6_isOnHold_9 : decode cX6_isOnHold 9 = .ok (.goto 4, 3) := by decide +kernel
theorem dX6_isOnHold_12 : decode cX6_isOnHold 12 = .ok (.iconst 1, 1) := by decide +kernel
theorem dX6_isOnHold_13 : decode cX6_isOnHold 13 = .ok (.putfield 35, 3) := by decide +kernel
theorem dX6_isOnHold_16 : decode cX6_isOnHold 16 = .ok (.aload_n 0, 1) := by decide +kernel
theorem dX6_isOnHold_17 : decode cX6_isOnHold 17 = .ok (.getfield 35, 3) := by decide +kernel
theorem dX6_isOnHold_20 : decode cX6_isOnHold 20 = .ok (.ifCond .ne 15, 3) := by decide +kernel
theorem dX6_isOnHold_23 : decode cX6_isOnHold 23 = .ok (.aload_n 0, 1) := by decide +kernel
theorem dX6_isOnHold_24 : decode cX6_isOnHold 24 = .ok (.iload_n 1, 1) := by decide +kernel
theorem dX6_isOnHold_25 : decode cX6_isOnHold 25 = .ok (.invokevirtual 101, 3) := by decide +kernel
theorem dX6_isOnHold_28 : decode cX6_isOnHold 28 = .ok (.ifCond .eq 7, 3) := by decide +kernel
theorem dX6_isOnHold_31 : decode cX6_isOnHold 31 = .ok (.iconst 1, 1) := by decide +kernel
theorem dX6_isOnHold_32 : decode cX6_isOnHold 32 = .ok (.goto 4, 3) := by decide +kernel
theorem dX6_isOnHold_35 : decode cX6_isOnHold 35 = .ok (.iconst 0, 1) := by decide +kernel
theorem dX6_isOnHold_36 : decode cX6_isOnHold 36 = .ok (.ireturn, 1) := by decide +kernel
theorem dX6_loopsOn_0 : decode cX6_loopsOn 0 = .ok (.aload_n 0, 1) := by decide +kernel
theorem dX6_loopsOn_1 : decode cX6_loopsOn 1 = .ok (.iload_n 1, 1) := by decide +kernel
theorem dX6_loopsOn_2 : decode cX6_loopsOn 2 = .ok (.invokestatic 66, 3) := by decide +kernel
theorem dX6_loopsOn_5 : decode cX6_loopsOn 5 = .ok (.ifCond .eq 7, 3) := by decide +kernel
theorem dX6_loopsOn_8 : decode cX6_loopsOn 8 = .ok (.iconst 0, 1) := by decide +kernel
theorem dX6_loopsOn_9 : decode cX6_loopsOn 9 = .ok (.goto 4, 3) := by decide +kernel
theorem dX6_loopsOn_12 : decode cX6_loopsOn 12 = .ok (.iconst 1, 1) := by decide +kernel
theorem dX6_loopsOn_13 : decode cX6_loopsOn 13 = .ok (.putfield 35, 3) := by decide +kernel
theorem dX6_loopsOn_16 : decode cX6_loopsOn 16 = .ok (.aload_n 0, 1) := by decide +kernel
theorem dX6_loopsOn_17 : decode cX6_loopsOn 17 = .ok (.getfield 35, 3) := by decide +kernel
theorem dX6_loopsOn_20 : decode cX6_loopsOn 20 = .ok (.ifCond .ne 15, 3) := by decide +kernel
theorem dX6_loopsOn_23 : decode cX6_loopsOn 23 = .ok (.aload_n 0, 1) := by decide +kernel
theorem dX6_loopsOn_24 : decode cX6_loopsOn 24 = .ok (.getfield 13, 3) := by decide +kernel
theorem dX6_loopsOn_27 : decode cX6_loopsOn 27 = .ok (.bipush 10, 2) := by decide +kernel
theorem dX6_loopsOn_29 : decode cX6_loopsOn 29 = .ok (.iload_n 1, 1) := by decide +kernel
theorem dX6_loopsOn_30 : decode cX6_loopsOn 30 = .ok (.iadd, 1) := by decide +kernel
theorem dX6_loopsOn_31 : decode cX6_loopsOn 31 = .ok (.iaload, 1) := by decide +kernel
theorem dX6_loopsOn_32 : decode cX6_loopsOn 32 = .ok (.goto 4, 3) := by decide +kernel
theorem dX6_loopsOn_35 : decode cX6_loopsOn 35 = .ok (.iconst 0, 1) := by decide +kernel
theorem dX6_loopsOn_36 : decode cX6_loopsOn 36 = .ok (.ireturn, 1) := by decide +kernel
theorem dX6_ageOn_0 : decode cX6_ageOn 0 = .ok (.aload_n 0, 1) := by decide +kernel
theorem dX6_ageOn_1 : decode cX6_ageOn 1 = .ok (.iload_n 1, 1) := by decide +kernel
theorem dX6_ageOn_2 : decode cX6_ageOn 2 = .ok (.invokestatic 66, 3) := by decide +kernel
theorem dX6_ageOn_5 : decode cX6_ageOn 5 = .ok (.ifCond .ne 7, 3) := by decide +kernel
theorem dX6_ageOn_8 : decode cX6_ageOn 8 = .ok (.iconst 1, 1) := by decide +kernel
theorem dX6_ageOn_9 : decode cX6_ageOn 9 = .ok (.goto 20, 3) := by decide +kernel
theorem dX6_ageOn_12 : decode cX6_ageOn 12 = .ok (.aload_n 0, 1) := by decide +kernel
theorem dX6_ageOn_13 : decode cX6_ageOn 13 = .ok (.getfield 13, 3) := by decide +kernel
theorem dX6_ageOn_16 : decode cX6_ageOn 16 = .ok (.bipush 10, 2) := by decide +kernel
theorem dX6_ageOn_18 : decode cX6_ageOn 18 = .ok (.iload_n 1, 1) := by decide +kernel
theorem dX6_ageOn_19 : decode cX6_ageOn 19 = .ok (.iadd, 1) := by decide +kernel
theorem dX6_ageOn_20 : decode cX6_ageOn 20 = .ok (.iaload, 1) := by decide +kernel
theorem dX6_ageOn_21 : decode cX6_ageOn 21 = .ok (.ifCond .ne 7, 3) := by decide +kernel
theorem dX6_ageOn_24 : decode cX6_ageOn 24 = .ok (.iconst 2, 1) := by decide +kernel
theorem dX6_ageOn_25 : decode cX6_ageOn 25 = .ok (.goto 4, 3) := by decide +kernel
theorem dX6_ageOn_28 : decode cX6_ageOn 28 = .ok (.iconst 0, 1) := by decide +kernel
theorem dX6_ageOn_29 : decode cX6_ageOn 29 = .ok (.putfield 35, 3) := by decide +kernel
theorem dX6_ageOn_32 : decode cX6_ageOn 32 = .ok (.aload_n 0, 1) := by decide +kernel
theorem dX6_ageOn_33 : decode cX6_ageOn 33 = .ok (.getfield 35, 3) := by decide +kernel
theorem dX6_ageOn_36 : decode cX6_ageOn 36 = .ok (.ifCond .ne 15, 3) := by decide +kernel
theorem dX6_ageOn_39 : decode cX6_ageOn 39 = .ok (.aload_n 0, 1) := by decide +kernel
theorem dX6_ageOn_40 : decode cX6_ageOn 40 = .ok (.getfield 13, 3) := by decide +kernel
theorem dX6_ageOn_43 : decode cX6_ageOn 43 = .ok (.bipush 34, 2) := by decide +kernel
theorem dX6_ageOn_45 : decode cX6_ageOn 45 = .ok (.iload_n 1, 1) := by decide +kernel
theorem dX6_ageOn_46 : decode cX6_ageOn 46 = .ok (.iadd, 1) := by decide +kernel
theorem dX6_ageOn_47 : decode cX6_ageOn 47 = .ok (.iaload, 1) := by decide +kernel
theorem dX6_ageOn_48 : decode cX6_ageOn 48 = .ok (.goto 4, 3) := by decide +kernel
theorem dX6_ageOn_51 : decode cX6_ageOn 51 = .ok (.iconst 0, 1) := by decide +kernel
theorem dX6_ageOn_52 : decode cX6_ageOn 52 = .ok (.ireturn, 1) := by decide +kernel
theorem dX6_needlesInWork_0 : decode cX6_needlesInWork 0 = .ok (.aload_n 0, 1) := by decide +kernel
theorem dX6_needlesInWork_1 : decode cX6_needlesInWork 1 = .ok (.iconst 0, 1) := by decide +kernel
theorem dX6_needlesInWork_2 : decode cX6_needlesInWork 2 = .ok (.putfield 35, 3) := by decide +kernel
theorem dX6_needlesInWork_5 : decode cX6_needlesInWork 5 = .ok (.aload_n 0, 1) := by decide +kernel
theorem dX6_needlesInWork_6 : decode cX6_needlesInWork 6 = .ok (.getfield 13, 3) := by decide +kernel
theorem dX6_needlesInWork_9 : decode cX6_needlesInWork 9 = .ok (.iconst 0, 1) := by decide +kernel
theorem dX6_needlesInWork_10 : decode cX6_needlesInWork 10 = .ok (.iaload, 1) := by decide +kernel
theorem dX6_needlesInWork_11 : decode cX6_needlesInWork 11 = .ok (.invokestatic 81, 3) := by decide +kernel
theorem dX6_needlesInWork_14 : decode cX6_needlesInWork 14 = .ok (.ireturn, 1) := by decide +kernel
theorem dX6_needlesOnHold_0 : decode cX6_needlesOnHold 0 = .ok (.aload_n 0, 1) := by decide +kernel
theorem dX6_needlesOnHold_1 : decode cX6_needlesOnHold 1 = .ok (.iconst 0, 1) := by decide +kernel
theorem dX6_needlesOnHold_2 : decode cX6_needlesOnHold 2 = .ok (.putfield 35, 3) := by decide +kernel
theorem dX6_needlesOnHold_5 : decode cX6_needlesOnHold 5 = .ok (.aload_n 0, 1) := by decide +kernel
theorem dX6_needlesOnHold_6 : decode cX6_needlesOnHold 6 = .ok (.getfield 13, 3) := by decide +kernel
theorem dX6_needlesOnHold_9 : decode cX6_needlesOnHold 9 = .ok (.iconst 1, 1) := by decide +kernel
theorem dX6_needlesOnHold_10 : decode cX6_needlesOnHold 10 = .ok (.iaload, 1) := by decide +kernel
theorem dX6_needlesOnHold_11 : decode cX6_needlesOnHold 11 = .ok (.invokestatic 81, 3) := by decide +kernel
theorem dX6_needlesOnHold_14 : decode cX6_needlesOnHold 14 = .ok (.ireturn, 1) := by decide +kernel
theorem dX6_loopCount_0 : decode cX6_loopCount 0 = .ok (.aload_n 0, 1) := by decide +kernel
theorem dX6_loopCount_1 : decode cX6_loopCount 1 = .ok (.iconst 0, 1) := by decide +kernel
theorem dX6_loopCount_2 : decode cX6_loopCount 2 = .ok (.putfield 35, 3) := by decide +kernel
theorem dX6_loopCount_5 : decode cX6_loopCount 5 = .ok (.aload_n 0, 1) := by decide +kernel
theorem dX6_loopCount_6 : decode cX6_loopCount 6 = .ok (.invokevirtual 94, 3) := by decide +kernel
theorem dX6_loopCount_9 : decode cX6_loopCount 9 = .ok (.ireturn, 1) := by decide +kernel
theorem dX6_longestRun_0 : decode cX6_longestRun 0 = .ok (.aload_n 0, 1) := by decide +kernel
theorem dX6_longestRun_1 : decode cX6_longestRun 1 = .ok (.iconst 0, 1) := by decide +kernel
theorem dX6_longestRun_2 : decode cX6_longestRun 2 = .ok (.putfield 35, 3) := by decide +kernel
theorem dX6_longestRun_5 : decode cX6_longestRun 5 = .ok (.iconst 0, 1) := by decide +kernel
theorem dX6_longestRun_6 : decode cX6_longestRun 6 = .ok (.istore_n 1, 1) := by decide +kernel
theorem dX6_longestRun_7 : decode cX6_longestRun 7 = .ok (.iconst 0, 1) := by decide +kernel
theorem dX6_longestRun_8 : decode cX6_longestRun 8 = .ok (.istore_n 2, 1) := by decide +kernel
theorem dX6_longestRun_9 : decode cX6_longestRun 9 = .ok (.iconst 0, 1) := by decide +kernel
theorem dX6_longestRun_10 : decode cX6_longestRun 10 = .ok (.istore_n 3, 1) := by decide +kernel
theorem dX6_longestRun_11 : decode cX6_longestRun 11 = .ok (.iload_n 3, 1) := by decide +kernel
theorem dX6_longestRun_12 : decode cX6_longestRun 12 = .ok (.bipush 24, 2) := by decide +kernel
theorem dX6_longestRun_14 : decode cX6_longestRun 14 = .ok (.if_icmp .ge 40, 3) := by decide +kernel
theorem dX6_longestRun_17 : decode cX6_longestRun 17 = .ok (.aload_n 0, 1) := by decide +kernel
theorem dX6_longestRun_18 : decode cX6_longestRun 18 = .ok (.getfield 13, 3) := by decide +kernel
theorem dX6_longestRun_21 : decode cX6_longestRun 21 = .ok (.bipush 10, 2) := by decide +kernel
theorem dX6_longestRun_23 : decode cX6_longestRun 23 = .ok (.iload_n 3, 1) := by decide +kernel
theorem dX6_longestRun_24 : decode cX6_longestRun 24 = .ok (.iadd, 1) := by decide +kernel
theorem dX6_longestRun_25 : decode cX6_longestRun 25 = .ok (.iaload, 1) := by decide +kernel
theorem dX6_longestRun_26 : decode cX6_longestRun 26 = .ok (.ifCond .le 9, 3) := by decide +kernel
theorem dX6_longestRun_29 : decode cX6_longestRun 29 = .ok (.iload_n 2, 1) := by decide +kernel
theorem dX6_longestRun_30 : decode cX6_longestRun 30 = .ok (.iconst 1, 1) := by decide +kernel
theorem dX6_longestRun_31 : decode cX6_longestRun 31 = .ok (.iadd, 1) := by decide +kernel
theorem dX6_longestRun_32 : decode cX6_longestRun 32 = .ok (.goto 4, 3) := by decide +kernel
theorem dX6_longestRun_35 : decode cX6_longestRun 35 = .ok (.iconst 0, 1) := by decide +kernel
theorem dX6_longestRun_36 : decode cX6_longestRun 36 = .ok (.istore_n 2, 1) := by decide +kernel
theorem dX6_longestRun_37 : decode cX6_longestRun 37 = .ok (.iload_n 2, 1) := by decide +kernel
theorem dX6_longestRun_38 : decode cX6_longestRun 38 = .ok (.iload_n 1, 1) := by decide +kernel
theorem dX6_longestRun_39 : decode cX6_longestRun 39 = .ok (.if_icmp .le 7, 3) := by decide +kernel
theorem dX6_longestRun_42 : decode cX6_longestRun 42 = .ok (.iload_n 2, 1) := by decide +kernel
theorem dX6_longestRun_43 : decode cX6_longestRun 43 = .ok (.goto 4, 3) := by decide +kernel
theorem dX6_longestRun_46 : decode cX6_longestRun 46 = .ok (.iload_n 1, 1) := by decide +kernel
theorem dX6_longestRun_47 : decode cX6_longestRun 47 = .ok (.istore_n 1, 1) := by decide +kernel
theorem dX6_longestRun_48 : decode cX6_longestRun 48 = .ok (.iinc 3 1, 3) := by decide +kernel
theorem dX6_longestRun_51 : decode cX6_longestRun 51 = .ok (.goto (-40), 3) := by decide +kernel
theorem dX6_longestRun_54 : decode cX6_longestRun 54 = .ok (.iload_n 1, 1) := by decide +kernel
theorem dX6_longestRun_55 : decode cX6_longestRun 55 = .ok (.ireturn, 1) := by decide +kernel
theorem dX6_longestRunByMask_0 : decode cX6_longestRunByMask 0 = .ok (.aload_n 0, 1) := by decide +kernel
theorem dX6_longestRunByMask_1 : decode cX6_longestRunByMask 1 = .ok (.invokevirtual 119, 3) := by decide +kernel
theorem dX6_longestRunByMask_4 : decode cX6_longestRunByMask 4 = .ok (.ireturn, 1) := by decide +kernel
theorem dX6_nextDropped_0 : decode cX6_nextDropped 0 = .ok (.iload_n 1, 1) := by decide +kernel
theorem dX6_nextDropped_1 : decode cX6_nextDropped 1 = .ok (.invokestatic 66, 3) := by decide +kernel
theorem dX6_nextDropped_4 : decode cX6_nextDropped 4 = .ok (.ifCond .ne 9, 3) := by decide +kernel
theorem dX6_nextDropped_7 : decode cX6_nextDropped 7 = .ok (.aload_n 0, 1) := by decide +kernel
theorem dX6_nextDropped_8 : decode cX6_nextDropped 8 = .ok (.iconst 1, 1) := by decide +kernel
theorem dX6_nextDropped_9 : decode cX6_nextDropped 9 = .ok (.invokevirtual 51, 3) := by decide +kernel
theorem dX6_nextDropped_12 : decode cX6_nextDropped 12 = .ok (.ireturn, 1) := by decide +kernel
theorem dX6_nextDropped_13 : decode cX6_nextDropped 13 = .ok (.aload_n 0, 1) := by decide +kernel
theorem dX6_nextDropped_14 : decode cX6_nextDropped 14 = .ok (.iconst 0, 1) := by decide +kernel
theorem dX6_nextDropped_15 : decode cX6_nextDropped 15 = .ok (.putfield 35, 3) := by decide +kernel
theorem dX6_nextDropped_18 : decode cX6_nextDropped 18 = .ok (.iload_n 1, 1) := by decide +kernel
theorem dX6_nextDropped_19 : decode cX6_nextDropped 19 = .ok (.istore_n 2, 1) := by decide +kernel
theorem dX6_nextDropped_20 : decode cX6_nextDropped 20 = .ok (.iload_n 2, 1) := by decide +kernel
theorem dX6_nextDropped_21 : decode cX6_nextDropped 21 = .ok (.bipush 24, 2) := by decide +kernel
theorem dX6_nextDropped_23 : decode cX6_nextDropped 23 = .ok (.if_icmp .ge 31, 3) := by decide +kernel
theorem dX6_nextDropped_26 : decode cX6_nextDropped 26 = .ok (.aload_n 0, 1) := by decide +kernel
theorem dX6_nextDropped_27 : decode cX6_nextDropped 27 = .ok (.iload_n 2, 1) := by decide +kernel
theorem dX6_nextDropped_28 : decode cX6_nextDropped 28 = .ok (.invokevirtual 70, 3) := by decide +kernel
theorem dX6_nextDropped_31 : decode cX6_nextDropped 31 = .ok (.ifCond .eq 17, 3) := by decide +kernel
theorem dX6_nextDropped_34 : decode cX6_nextDropped 34 = .ok (.aload_n 0, 1) := by decide +kernel
theorem dX6_nextDropped_35 : decode cX6_nextDropped 35 = .ok (.getfield 13, 3) := by decide +kernel
theorem dX6_nextDropped_38 : decode cX6_nextDropped 38 = .ok (.bipush 10, 2) := by decide +kernel
theorem dX6_nextDropped_40 : decode cX6_nextDropped 40 = .ok (.iload_n 2, 1) := by decide +kernel
theorem dX6_nextDropped_41 : decode cX6_nextDropped 41 = .ok (.iadd, 1) := by decide +kernel
theorem dX6_nextDropped_42 : decode cX6_nextDropped 42 = .ok (.iaload, 1) := by decide +kernel
theorem dX6_nextDropped_43 : decode cX6_nextDropped 43 = .ok (.ifCond .ne 5, 3) := by decide +kernel
theorem dX6_nextDropped_46 : decode cX6_nextDropped 46 = .ok (.iload_n 2, 1) := by decide +kernel
theorem dX6_nextDropped_47 : decode cX6_nextDropped 47 = .ok (.ireturn, 1) := by decide +kernel
theorem dX6_nextDropped_48 : decode cX6_nextDropped 48 = .ok (.iinc 2 1, 3) := by decide +kernel
theorem dX6_nextDropped_51 : decode cX6_nextDropped 51 = .ok (.goto (-31), 3) := by decide +kernel
theorem dX6_nextDropped_54 : decode cX6_nextDropped 54 = .ok (.aload_n 0, 1) := by decide +kernel
theorem dX6_nextDropped_55 : decode cX6_nextDropped 55 = .ok (.iconst 2, 1) := by decide +kernel
theorem dX6_nextDropped_56 : decode cX6_nextDropped 56 = .ok (.invokevirtual 51, 3) := by decide +kernel
theorem dX6_nextDropped_59 : decode cX6_nextDropped 59 = .ok (.ireturn, 1) := by decide +kernel
theorem dX6_adds_0 : decode cX6_adds 0 = .ok (.iload_n 1, 1) := by decide +kernel
theorem dX6_adds_1 : decode cX6_adds 1 = .ok (.invokestatic 122, 3) := by decide +kernel
theorem dX6_adds_4 : decode cX6_adds 4 = .ok (.ifCond .ne 9, 3) := by decide +kernel
theorem dX6_adds_7 : decode cX6_adds 7 = .ok (.aload_n 0, 1) := by decide +kernel
theorem dX6_adds_8 : decode cX6_adds 8 = .ok (.iconst 1, 1) := by decide +kernel
theorem dX6_adds_9 : decode cX6_adds 9 = .ok (.invokevirtual 51, 3) := by decide +kernel
theorem dX6_adds_12 : decode cX6_adds 12 = .ok (.ireturn, 1) := by decide +kernel
theorem dX6_adds_13 : decode cX6_adds 13 = .ok (.iload_n 2, 1) := by decide +kernel
theorem dX6_adds_14 : decode cX6_adds 14 = .ok (.iconst 1, 1) := by decide +kernel
theorem dX6_adds_15 : decode cX6_adds 15 = .ok (.bipush 99, 2) := by decide +kernel
theorem dX6_adds_17 : decode cX6_adds 17 = .ok (.invokestatic 62, 3) := by decide +kernel
theorem dX6_adds_20 : decode cX6_adds 20 = .ok (.ifCond .ne 9, 3) := by decide +kernel
theorem dX6_adds_23 : decode cX6_adds 23 = .ok (.aload_n 0, 1) := by decide +kernel
theorem dX6_adds_24 : decode cX6_adds 24 = .ok (.iconst 2, 1) := by decide +kernel
theorem dX6_adds_25 : decode cX6_adds 25 = .ok (.invokevirtual 51, 3) := by decide +kernel
theorem dX6_adds_28 : decode cX6_adds 28 = .ok (.ireturn, 1) := by decide +kernel
theorem dX6_adds_29 : decode cX6_adds 29 = .ok (.aload_n 0, 1) := by decide +kernel
theorem dX6_adds_30 : decode cX6_adds 30 = .ok (.getfield 13, 3) := by decide +kernel
theorem dX6_adds_33 : decode cX6_adds 33 = .ok (.bipush 58, 2) := by decide +kernel
theorem dX6_adds_35 : decode cX6_adds 35 = .ok (.iload_n 1, 1) := by decide +kernel
theorem dX6_adds_36 : decode cX6_adds 36 = .ok (.iadd, 1) := by decide +kernel
theorem dX6_adds_37 : decode cX6_adds 37 = .ok (.iaload, 1) := by decide +kernel
theorem dX6_adds_38 : decode cX6_adds 38 = .ok (.iload_n 2, 1) := by decide +kernel
theorem dX6_adds_39 : decode cX6_adds 39 = .ok (.iadd, 1) := by decide +kernel
theorem dX6_adds_40 : decode cX6_adds 40 = .ok (.sipush 200, 3) := by decide +kernel
theorem dX6_adds_43 : decode cX6_adds 43 = .ok (.if_icmp .le 20, 3) := by decide +kernel
theorem dX6_adds_46 : decode cX6_adds 46 = .ok (.aload_n 0, 1) := by decide +kernel
theorem dX6_adds_47 : decode cX6_adds 47 = .ok (.iconst 3, 1) := by decide +kernel
theorem dX6_adds_48 : decode cX6_adds 48 = .ok (.bipush 11, 2) := by decide +kernel
theorem dX6_adds_50 : decode cX6_adds 50 = .ok (.aload_n 0, 1) := by decide +kernel
theorem dX6_adds_51 : decode cX6_adds 51 = .ok (.getfield 13, 3) := by decide +kernel
theorem dX6_adds_54 : decode cX6_adds 54 = .ok (.bipush 58, 2) := by decide +kernel
theorem dX6_adds_56 : decode cX6_adds 56 = .ok (.iload_n 1, 1) := by decide +kernel
theorem dX6_adds_57 : decode cX6_adds 57 = .ok (.iadd, 1) := by decide +kernel
theorem dX6_adds_58 : decode cX6_adds 58 = .ok (.iaload, 1) := by decide +kernel
theorem dX6_adds_59 : decode cX6_adds 59 = .ok (.invokevirtual 73, 3) := by decide +kernel
theorem dX6_adds_62 : decode cX6_adds 62 = .ok (.ireturn, 1) := by decide +kernel
theorem dX6_adds_63 : decode cX6_adds 63 = .ok (.aload_n 0, 1) := by decide +kernel
theorem dX6_adds_64 : decode cX6_adds 64 = .ok (.getfield 13, 3) := by decide +kernel
theorem dX6_adds_67 : decode cX6_adds 67 = .ok (.bipush 58, 2) := by decide +kernel
theorem dX6_adds_69 : decode cX6_adds 69 = .ok (.iload_n 1, 1) := by decide +kernel
theorem dX6_adds_70 : decode cX6_adds 70 = .ok (.iadd, 1) := by decide +kernel
theorem dX6_adds_71 : decode cX6_adds 71 = .ok (.dup2, 1) := by decide +kernel
theorem dX6_adds_72 : decode cX6_adds 72 = .ok (.iaload, 1) := by decide +kernel
theorem dX6_adds_73 : decode cX6_adds 73 = .ok (.iload_n 2, 1) := by decide +kernel
theorem dX6_adds_74 : decode cX6_adds 74 = .ok (.iadd, 1) := by decide +kernel
theorem dX6_adds_75 : decode cX6_adds 75 = .ok (.iastore, 1) := by decide +kernel
theorem dX6_adds_76 : decode cX6_adds 76 = .ok (.aload_n 0, 1) := by decide +kernel
theorem dX6_adds_77 : decode cX6_adds 77 = .ok (.getfield 13, 3) := by decide +kernel
theorem dX6_adds_80 : decode cX6_adds 80 = .ok (.bipush 7, 2) := by decide +kernel
theorem dX6_adds_82 : decode cX6_adds 82 = .ok (.dup2, 1) := by decide +kernel
theorem dX6_adds_83 : decode cX6_adds 83 = .ok (.iaload, 1) := by decide +kernel
theorem dX6_adds_84 : decode cX6_adds 84 = .ok (.iload_n 2, 1) := by decide +kernel
theorem dX6_adds_85 : decode cX6_adds 85 = .ok (.iadd, 1) := by decide +kernel
theorem dX6_adds_86 : decode cX6_adds 86 = .ok (.iastore, 1) := by decide +kernel
theorem dX6_adds_87 : decode cX6_adds 87 = .ok (.aload_n 0, 1) := by decide +kernel
theorem dX6_adds_88 : decode cX6_adds 88 = .ok (.getfield 13, 3) := by decide +kernel
theorem dX6_adds_91 : decode cX6_adds 91 = .ok (.bipush 58, 2) := by decide +kernel
theorem dX6_adds_93 : decode cX6_adds 93 = .ok (.iload_n 1, 1) := by decide +kernel
theorem dX6_adds_94 : decode cX6_adds 94 = .ok (.iadd, 1) := by decide +kernel
theorem dX6_adds_95 : decode cX6_adds 95 = .ok (.iaload, 1) := by decide +kernel
theorem dX6_adds_96 : decode cX6_adds 96 = .ok (.ireturn, 1) := by decide +kernel
theorem dX6_addYarn_0 : decode cX6_addYarn 0 = .ok (.aload_n 0, 1) := by decide +kernel
theorem dX6_addYarn_1 : decode cX6_addYarn 1 = .ok (.invokevirtual 84, 3) := by decide +kernel
theorem dX6_addYarn_4 : decode cX6_addYarn 4 = .ok (.aload_n 0, 1) := by decide +kernel
theorem dX6_addYarn_5 : decode cX6_addYarn 5 = .ok (.aload_n 0, 1) := by decide +kernel
theorem dX6_addYarn_6 : decode cX6_addYarn 6 = .ok (.iload_n 1, 1) := by decide +kernel
theorem dX6_addYarn_7 : decode cX6_addYarn 7 = .ok (.iload_n 2, 1) := by decide +kernel
theorem dX6_addYarn_8 : decode cX6_addYarn 8 = .ok (.invokevirtual 125, 3) := by decide +kernel
theorem dX6_addYarn_11 : decode cX6_addYarn 11 = .ok (.invokevirtual 91, 3) := by decide +kernel
theorem dX6_addYarn_14 : decode cX6_addYarn 14 = .ok (.ireturn, 1) := by decide +kernel
theorem dX6_selects_0 : decode cX6_selects 0 = .ok (.iload_n 1, 1) := by decide +kernel
theorem dX6_selects_1 : decode cX6_selects 1 = .ok (.invokestatic 122, 3) := by decide +kernel
theorem dX6_selects_4 : decode cX6_selects 4 = .ok (.ifCond .ne 9, 3) := by decide +kernel
theorem dX6_selects_7 : decode cX6_selects 7 = .ok (.aload_n 0, 1) := by decide +kernel
theorem dX6_selects_8 : decode cX6_selects 8 = .ok (.iconst 1, 1) := by decide +kernel
theorem dX6_selects_9 : decode cX6_selects 9 = .ok (.invokevirtual 51, 3) := by decide +kernel
theorem dX6_selects_12 : decode cX6_selects 12 = .ok (.ireturn, 1) := by decide +kernel
theorem dX6_selects_13 : decode cX6_selects 13 = .ok (.aload_n 0, 1) := by decide +kernel
theorem dX6_selects_14 : decode cX6_selects 14 = .ok (.getfield 13, 3) := by decide +kernel
theorem dX6_selects_17 : decode cX6_selects 17 = .ok (.iconst 2, 1) := by decide +kernel
theorem dX6_selects_18 : decode cX6_selects 18 = .ok (.iaload, 1) := by decide +kernel
theorem dX6_selects_19 : decode cX6_selects 19 = .ok (.istore_n 2, 1) := by decide +kernel
theorem dX6_selects_20 : decode cX6_selects 20 = .ok (.aload_n 0, 1) := by decide +kernel
theorem dX6_selects_21 : decode cX6_selects 21 = .ok (.getfield 13, 3) := by decide +kernel
theorem dX6_selects_24 : decode cX6_selects 24 = .ok (.iconst 2, 1) := by decide +kernel
theorem dX6_selects_25 : decode cX6_selects 25 = .ok (.iload_n 1, 1) := by decide +kernel
theorem dX6_selects_26 : decode cX6_selects 26 = .ok (.iastore, 1) := by decide +kernel
theorem dX6_selects_27 : decode cX6_selects 27 = .ok (.iload_n 2, 1) := by decide +kernel
theorem dX6_selects_28 : decode cX6_selects 28 = .ok (.ireturn, 1) := by decide +kernel
theorem dX6_selectFeeder_0 : decode cX6_selectFeeder 0 = .ok (.aload_n 0, 1) := by decide +kernel
theorem dX6_selectFeeder_1 : decode cX6_selectFeeder 1 = .ok (.invokevirtual 84, 3) := by decide +kernel
theorem dX6_selectFeeder_4 : decode cX6_selectFeeder 4 = .ok (.aload_n 0, 1) := by decide +kernel
theorem dX6_selectFeeder_5 : decode cX6_selectFeeder 5 = .ok (.aload_n 0, 1) := by decide +kernel
theorem dX6_selectFeeder_6 : decode cX6_selectFeeder 6 = .ok (.iload_n 1, 1) := by decide +kernel
theorem dX6_selectFeeder_7 : decode cX6_selectFeeder 7 = .ok (.invokevirtual 128, 3) := by decide +kernel
theorem dX6_selectFeeder_10 : decode cX6_selectFeeder 10 = .ok (.invokevirtual 91, 3) := by decide +kernel
theorem dX6_selectFeeder_13 : decode cX6_selectFeeder 13 = .ok (.ireturn, 1) := by decide +kernel
theorem dX6_tenses_0 : decode cX6_tenses 0 = .ok (.iload_n 1, 1) := by decide +kernel
theorem dX6_tenses_1 : decode cX6_tenses 1 = .ok (.iconst 1, 1) := by decide +kernel
theorem dX6_tenses_2 : decode cX6_tenses 2 = .ok (.bipush 9, 2) := by decide +kernel
theorem dX6_tenses_4 : decode cX6_tenses 4 = .ok (.invokestatic 62, 3) := by decide +kernel
theorem dX6_tenses_7 : decode cX6_tenses 7 = .ok (.ifCond .ne 9, 3) := by decide +kernel
theorem dX6_tenses_10 : decode cX6_tenses 10 = .ok (.aload_n 0, 1) := by decide +kernel
theorem dX6_tenses_11 : decode cX6_tenses 11 = .ok (.iconst 1, 1) := by decide +kernel
theorem dX6_tenses_12 : decode cX6_tenses 12 = .ok (.invokevirtual 51, 3) := by decide +kernel
theorem dX6_tenses_15 : decode cX6_tenses 15 = .ok (.ireturn, 1) := by decide +kernel
theorem dX6_tenses_16 : decode cX6_tenses 16 = .ok (.aload_n 0, 1) := by decide +kernel
theorem dX6_tenses_17 : decode cX6_tenses 17 = .ok (.getfield 13, 3) := by decide +kernel
theorem dX6_tenses_20 : decode cX6_tenses 20 = .ok (.iconst 3, 1) := by decide +kernel
theorem dX6_tenses_21 : decode cX6_tenses 21 = .ok (.iaload, 1) := by decide +kernel
theorem dX6_tenses_22 : decode cX6_tenses 22 = .ok (.istore_n 2, 1) := by decide +kernel
theorem dX6_tenses_23 : decode cX6_tenses 23 = .ok (.aload_n 0, 1) := by decide +kernel
theorem dX6_tenses_24 : decode cX6_tenses 24 = .ok (.getfield 13, 3) := by decide +kernel
theorem dX6_tenses_27 : decode cX6_tenses 27 = .ok (.iconst 3, 1) := by decide +kernel
theorem dX6_tenses_28 : decode cX6_tenses 28 = .ok (.iload_n 1, 1) := by decide +kernel
theorem dX6_tenses_29 : decode cX6_tenses 29 = .ok (.iastore, 1) := by decide +kernel
theorem dX6_tenses_30 : decode cX6_tenses 30 = .ok (.iload_n 2, 1) := by decide +kernel
theorem dX6_tenses_31 : decode cX6_tenses 31 = .ok (.ireturn, 1) := by decide +kernel
theorem dX6_setTension_0 : decode cX6_setTension 0 = .ok (.aload_n 0, 1) := by decide +kernel
theorem dX6_setTension_1 : decode cX6_setTension 1 = .ok (.invokevirtual 84, 3) := by decide +kernel
theorem dX6_setTension_4 : decode cX6_setTension 4 = .ok (.aload_n 0, 1) := by decide +kernel
theorem dX6_setTension_5 : decode cX6_setTension 5 = .ok (.aload_n 0, 1) := by decide +kernel
theorem dX6_setTension_6 : decode cX6_setTension 6 = .ok (.iload_n 1, 1) := by decide +kernel
theorem dX6_setTension_7 : decode cX6_setTension 7 = .ok (.invokevirtual 131, 3) := by decide +kernel
theorem dX6_setTension_10 : decode cX6_setTension 10 = .ok (.invokevirtual 91, 3) := by decide +kernel
theorem dX6_setTension_13 : decode cX6_setTension 13 = .ok (.ireturn, 1) := by decide +kernel
theorem dX6_addsRow_0 : decode cX6_addsRow 0 = .ok (.iload_n 1, 1) := by decide +kernel
theorem dX6_addsRow_1 : decode cX6_addsRow 1 = .ok (.iconst 0, 1) := by decide +kernel
theorem dX6_addsRow_2 : decode cX6_addsRow 2 = .ok (.sipush 255, 3) := by decide +kernel
theorem dX6_addsRow_5 : decode cX6_addsRow 5 = .ok (.invokestatic 62, 3) := by decide +kernel
theorem dX6_addsRow_8 : decode cX6_addsRow 8 = .ok (.ifCond .ne 9, 3) := by decide +kernel
theorem dX6_addsRow_11 : decode cX6_addsRow 11 = .ok (.aload_n 0, 1) := by decide +kernel
theorem dX6_addsRow_12 : decode cX6_addsRow 12 = .ok (.iconst 1, 1) := by decide +kernel
theorem dX6_addsRow_13 : decode cX6_addsRow 13 = .ok (.invokevirtual 51, 3) := by decide +kernel
theorem dX6_addsRow_16 : decode cX6_addsRow 16 = .ok (.ireturn, 1) := by decide +kernel
theorem dX6_addsRow_17 : decode cX6_addsRow 17 = .ok (.aload_n 0, 1) := by decide +kernel
theorem dX6_addsRow_18 : decode cX6_addsRow 18 = .ok (.getfield 13, 3) := by decide +kernel
theorem dX6_addsRow_21 : decode cX6_addsRow 21 = .ok (.iconst 4, 1) := by decide +kernel
theorem dX6_addsRow_22 : decode cX6_addsRow 22 = .ok (.iaload, 1) := by decide +kernel
theorem dX6_addsRow_23 : decode cX6_addsRow 23 = .ok (.bipush 6, 2) := by decide +kernel
theorem dX6_addsRow_25 : decode cX6_addsRow 25 = .ok (.if_icmp .ne 13, 3) := by decide +kernel
theorem dX6_addsRow_28 : decode cX6_addsRow 28 = .ok (.aload_n 0, 1) := by decide +kernel
theorem dX6_addsRow_29 : decode cX6_addsRow 29 = .ok (.iconst 2, 1) := by decide +kernel
theorem dX6_addsRow_30 : decode cX6_addsRow 30 = .ok (.bipush 12, 2) := by decide +kernel
theorem dX6_addsRow_32 : decode cX6_addsRow 32 = .ok (.bipush 6, 2) := by decide +kernel
theorem dX6_addsRow_34 : decode cX6_addsRow 34 = .ok (.invokevirtual 73, 3) := by decide +kernel
theorem dX6_addsRow_37 : decode cX6_addsRow 37 = .ok (.ireturn, 1) := by decide +kernel
theorem dX6_addsRow_38 : decode cX6_addsRow 38 = .ok (.aload_n 0, 1) := by decide +kernel
theorem dX6_addsRow_39 : decode cX6_addsRow 39 = .ok (.getfield 13, 3) := by decide +kernel
theorem dX6_addsRow_42 : decode cX6_addsRow 42 = .ok (.bipush 62, 2) := by decide +kernel
theorem dX6_addsRow_44 : decode cX6_addsRow 44 = .ok (.aload_n 0, 1) := by decide +kernel
theorem dX6_addsRow_45 : decode cX6_addsRow 45 = .ok (.getfield 13, 3) := by decide +kernel
theorem dX6_addsRow_48 : decode cX6_addsRow 48 = .ok (.iconst 4, 1) := by decide +kernel
theorem dX6_addsRow_49 : decode cX6_addsRow 49 = .ok (.iaload, 1) := by decide +kernel
theorem dX6_addsRow_50 : decode cX6_addsRow 50 = .ok (.iadd, 1) := by decide +kernel
theorem dX6_addsRow_51 : decode cX6_addsRow 51 = .ok (.iload_n 1, 1) := by decide +kernel
theorem dX6_addsRow_52 : decode cX6_addsRow 52 = .ok (.iastore, 1) := by decide +kernel
theorem dX6_addsRow_53 : decode cX6_addsRow 53 = .ok (.aload_n 0, 1) := by decide +kernel
theorem dX6_addsRow_54 : decode cX6_addsRow 54 = .ok (.getfield 13, 3) := by decide +kernel
theorem dX6_addsRow_57 : decode cX6_addsRow 57 = .ok (.iconst 4, 1) := by decide +kernel
theorem dX6_addsRow_58 : decode cX6_addsRow 58 = .ok (.dup2, 1) := by decide +kernel
theorem dX6_addsRow_59 : decode cX6_addsRow 59 = .ok (.iaload, 1) := by decide +kernel
theorem dX6_addsRow_60 : decode cX6_addsRow 60 = .ok (.iconst 1, 1) := by decide +kernel
theorem dX6_addsRow_61 : decode cX6_addsRow 61 = .ok (.iadd, 1) := by decide +kernel
theorem dX6_addsRow_62 : decode cX6_addsRow 62 = .ok (.iastore, 1) := by decide +kernel
theorem dX6_addsRow_63 : decode cX6_addsRow 63 = .ok (.aload_n 0, 1) := by decide +kernel
theorem dX6_addsRow_64 : decode cX6_addsRow 64 = .ok (.getfield 13, 3) := by decide +kernel
theorem dX6_addsRow_67 : decode cX6_addsRow 67 = .ok (.iconst 4, 1) := by decide +kernel
theorem dX6_addsRow_68 : decode cX6_addsRow 68 = .ok (.iaload, 1) := by decide +kernel
theorem dX6_addsRow_69 : decode cX6_addsRow 69 = .ok (.ireturn, 1) := by decide +kernel
theorem dX6_addPatternRow_0 : decode cX6_addPatternRow 0 = .ok (.aload_n 0, 1) := by decide +kernel
theorem dX6_addPatternRow_1 : decode cX6_addPatternRow 1 = .ok (.invokevirtual 84, 3) := by decide +kernel
theorem dX6_addPatternRow_4 : decode cX6_addPatternRow 4 = .ok (.aload_n 0, 1) := by decide +kernel
theorem dX6_addPatternRow_5 : decode cX6_addPatternRow 5 = .ok (.aload_n 0, 1) := by decide +kernel
theorem dX6_addPatternRow_6 : decode cX6_addPatternRow 6 = .ok (.iload_n 1, 1) := by decide +kernel
theorem dX6_addPatternRow_7 : decode cX6_addPatternRow 7 = .ok (.invokevirtual 134, 3) := by decide +kernel
theorem dX6_addPatternRow_10 : decode cX6_addPatternRow 10 = .ok (.invokevirtual 91, 3) := by decide +kernel
theorem dX6_addPatternRow_13 : decode cX6_addPatternRow 13 = .ok (.ireturn, 1) := by decide +kernel
theorem dX6_clears_0 : decode cX6_clears 0 = .ok (.aload_n 0, 1) := by decide +kernel
theorem dX6_clears_1 : decode cX6_clears 1 = .ok (.getfield 13, 3) := by decide +kernel
theorem dX6_clears_4 : decode cX6_clears 4 = .ok (.iconst 4, 1) := by decide +kernel
theorem dX6_clears_5 : decode cX6_clears 5 = .ok (.iaload, 1) := by decide +kernel
theorem dX6_clears_6 : decode cX6_clears 6 = .ok (.istore_n 1, 1) := by decide +kernel
theorem dX6_clears_7 : decode cX6_clears 7 = .ok (.iconst 0, 1) := by decide +kernel
theorem dX6_clears_8 : decode cX6_clears 8 = .ok (.istore_n 2, 1) := by decide +kernel
theorem dX6_clears_9 : decode cX6_clears 9 = .ok (.iload_n 2, 1) := by decide +kernel
theorem dX6_clears_10 : decode cX6_clears 10 = .ok (.bipush 6, 2) := by decide +kernel
theorem dX6_clears_12 : decode cX6_clears 12 = .ok (.if_icmp .ge 19, 3) := by decide +kernel
theorem dX6_clears_15 : decode cX6_clears 15 = .ok (.aload_n 0, 1) := by decide +kernel
theorem dX6_clears_16 : decode cX6_clears 16 = .ok (.getfield 13, 3) := by decide +kernel
theorem dX6_clears_19 : decode cX6_clears 19 = .ok (.bipush 62, 2) := by decide +kernel
theorem dX6_clears_21 : decode cX6_clears 21 = .ok (.iload_n 2, 1) := by decide +kernel
theorem dX6_clears_22 : decode cX6_clears 22 = .ok (.iadd, 1) := by decide +kernel
theorem dX6_clears_23 : decode cX6_clears 23 = .ok (.iconst 0, 1) := by decide +kernel
theorem dX6_clears_24 : decode cX6_clears 24 = .ok (.iastore, 1) := by decide +kernel
theorem dX6_clears_25 : decode cX6_clears 25 = .ok (.iinc 2 1, 3) := by decide +kernel
theorem dX6_clears_28 : decode cX6_clears 28 = .ok (.goto (-19), 3) := by decide +kernel
theorem dX6_clears_31 : decode cX6_clears 31 = .ok (.aload_n 0, 1) := by decide +kernel
theorem dX6_clears_32 : decode cX6_clears 32 = .ok (.getfield 13, 3) := by decide +kernel
theorem dX6_clears_35 : decode cX6_clears 35 = .ok (.iconst 4, 1) := by decide +kernel
theorem dX6_clears_36 : decode cX6_clears 36 = .ok (.iconst 0, 1) := by decide +kernel
theorem dX6_clears_37 : decode cX6_clears 37 = .ok (.iastore, 1) := by decide +kernel
theorem dX6_clears_38 : decode cX6_clears 38 = .ok (.iload_n 1, 1) := by decide +kernel
theorem dX6_clears_39 : decode cX6_clears 39 = .ok (.ireturn, 1) := by decide +kernel
theorem dX6_clearPattern_0 : decode cX6_clearPattern 0 = .ok (.aload_n 0, 1) := by decide +kernel
theorem dX6_clearPattern_1 : decode cX6_clearPattern 1 = .ok (.invokevirtual 84, 3) := by decide +kernel
theorem dX6_clearPattern_4 : decode cX6_clearPattern 4 = .ok (.aload_n 0, 1) := by decide +kernel
theorem dX6_clearPattern_5 : decode cX6_clearPattern 5 = .ok (.aload_n 0, 1) := by decide +kernel
theorem dX6_clearPattern_6 : decode cX6_clearPattern 6 = .ok (.invokevirtual 137, 3) := by decide +kernel
theorem dX6_clearPattern_9 : decode cX6_clearPattern 9 = .ok (.invokevirtual 91, 3) := by decide +kernel
theorem dX6_clearPattern_12 : decode cX6_clearPattern 12 = .ok (.ireturn, 1) := by decide +kernel
theorem dX6_yarnIn_0 : decode cX6_yarnIn 0 = .ok (.aload_n 0, 1) := by decide +kernel
theorem dX6_yarnIn_1 : decode cX6_yarnIn 1 = .ok (.iload_n 1, 1) := by decide +kernel
theorem dX6_yarnIn_2 : decode cX6_yarnIn 2 = .ok (.invokestatic 122, 3) := by decide +kernel
theorem dX6_yarnIn_5 : decode cX6_yarnIn 5 = .ok (.ifCond .eq 7, 3) := by decide +kernel
theorem dX6_yarnIn_8 : decode cX6_yarnIn 8 = .ok (.iconst 0, 1) := by decide +kernel
theorem dX6_yarnIn_9 : decode cX6_yarnIn 9 = .ok (.goto 4, 3) := by decide +kernel
theorem dX6_yarnIn_12 : decode cX6_yarnIn 12 = .ok (.iconst 1, 1) := by decide +kernel
theorem dX6_yarnIn_13 : decode cX6_yarnIn 13 = .ok (.putfield 35, 3) := by decide +kernel
theorem dX6_yarnIn_16 : decode cX6_yarnIn 16 = .ok (.aload_n 0, 1) := by decide +kernel
theorem dX6_yarnIn_17 : decode cX6_yarnIn 17 = .ok (.getfield 35, 3) := by decide +kernel
theorem dX6_yarnIn_20 : decode cX6_yarnIn 20 = .ok (.ifCond .ne 15, 3) := by decide +kernel
theorem dX6_yarnIn_23 : decode cX6_yarnIn 23 = .ok (.aload_n 0, 1) := by decide +kernel
theorem dX6_yarnIn_24 : decode cX6_yarnIn 24 = .ok (.getfield 13, 3) := by decide +kernel
theorem dX6_yarnIn_27 : decode cX6_yarnIn 27 = .ok (.bipush 58, 2) := by decide +kernel
theorem dX6_yarnIn_29 : decode cX6_yarnIn 29 = .ok (.iload_n 1, 1) := by decide +kernel
theorem dX6_yarnIn_30 : decode cX6_yarnIn 30 = .ok (.iadd, 1) := by decide +kernel
theorem dX6_yarnIn_31 : decode cX6_yarnIn 31 = .ok (.iaload, 1) := by decide +kernel
theorem dX6_yarnIn_32 : decode cX6_yarnIn 32 = .ok (.goto 4, 3) := by decide +kernel
theorem dX6_yarnIn_35 : decode cX6_yarnIn 35 = .ok (.iconst 0, 1) := by decide +kernel
theorem dX6_yarnIn_36 : decode cX6_yarnIn 36 = .ok (.ireturn, 1) := by decide +kernel
theorem dX6_activeFeeder_0 : decode cX6_activeFeeder 0 = .ok (.aload_n 0, 1) := by decide +kernel
theorem dX6_activeFeeder_1 : decode cX6_activeFeeder 1 = .ok (.iconst 0, 1) := by decide +kernel
theorem dX6_activeFeeder_2 : decode cX6_activeFeeder 2 = .ok (.putfield 35, 3) := by decide +kernel
theorem dX6_activeFeeder_5 : decode cX6_activeFeeder 5 = .ok (.aload_n 0, 1) := by decide +kernel
theorem dX6_activeFeeder_6 : decode cX6_activeFeeder 6 = .ok (.getfield 13, 3) := by decide +kernel
theorem dX6_activeFeeder_9 : decode cX6_activeFeeder 9 = .ok (.iconst 2, 1) := by decide +kernel
theorem dX6_activeFeeder_10 : decode cX6_activeFeeder 10 = .ok (.iaload, 1) := by decide +kernel
theorem dX6_activeFeeder_11 : decode cX6_activeFeeder 11 = .ok (.ireturn, 1) := by decide +kernel
theorem dX6_tension_0 : decode cX6_tension 0 = .ok (.aload_n 0, 1) := by decide +kernel
theorem dX6_tension_1 : decode cX6_tension 1 = .ok (.iconst 0, 1) := by decide +kernel
theorem dX6_tension_2 : decode cX6_tension 2 = .ok (.putfield 35, 3) := by decide +kernel
theorem dX6_tension_5 : decode cX6_tension 5 = .ok (.aload_n 0, 1) := by decide +kernel
theorem dX6_tension_6 : decode cX6_tension 6 = .ok (.getfield 13, 3) := by decide +kernel
theorem dX6_tension_9 : decode cX6_tension 9 = .ok (.iconst 3, 1) := by decide +kernel
theorem dX6_tension_10 : decode cX6_tension 10 = .ok (.iaload, 1) := by decide +kernel
theorem dX6_tension_11 : decode cX6_tension 11 = .ok (.ireturn, 1) := by decide +kernel
theorem dX6_patternRows_0 : decode cX6_patternRows 0 = .ok (.aload_n 0, 1) := by decide +kernel
theorem dX6_patternRows_1 : decode cX6_patternRows 1 = .ok (.iconst 0, 1) := by decide +kernel
theorem dX6_patternRows_2 : decode cX6_patternRows 2 = .ok (.putfield 35, 3) := by decide +kernel
theorem dX6_patternRows_5 : decode cX6_patternRows 5 = .ok (.aload_n 0, 1) := by decide +kernel
theorem dX6_patternRows_6 : decode cX6_patternRows 6 = .ok (.getfield 13, 3) := by decide +kernel
theorem dX6_patternRows_9 : decode cX6_patternRows 9 = .ok (.iconst 4, 1) := by decide +kernel
theorem dX6_patternRows_10 : decode cX6_patternRows 10 = .ok (.iaload, 1) := by decide +kernel
theorem dX6_patternRows_11 : decode cX6_patternRows 11 = .ok (.ireturn, 1) := by decide +kernel
theorem dX6_isKnit_0 : decode cX6_isKnit 0 = .ok (.aload_n 0, 1) := by decide +kernel
theorem dX6_isKnit_1 : decode cX6_isKnit 1 = .ok (.iload_n 1, 1) := by decide +kernel
theorem dX6_isKnit_2 : decode cX6_isKnit 2 = .ok (.iconst 0, 1) := by decide +kernel
theorem dX6_isKnit_3 : decode cX6_isKnit 3 = .ok (.aload_n 0, 1) := by decide +kernel
theorem dX6_isKnit_4 : decode cX6_isKnit 4 = .ok (.getfield 13, 3) := by decide +kernel
theorem dX6_isKnit_7 : decode cX6_isKnit 7 = .ok (.iconst 4, 1) := by decide +kernel
theorem dX6_isKnit_8 : decode cX6_isKnit 8 = .ok (.iaload, 1) := by decide +kernel
theorem dX6_isKnit_9 : decode cX6_isKnit 9 = .ok (.iconst 1, 1) := by decide +kernel
theorem dX6_isKnit_10 : decode cX6_isKnit 10 = .ok (.isub, 1) := by decide +kernel
theorem dX6_isKnit_11 : decode cX6_isKnit 11 = .ok (.invokestatic 62, 3) := by decide +kernel
theorem dX6_isKnit_14 : decode cX6_isKnit 14 = .ok (.ifCond .eq 17, 3) := by decide +kernel
theorem dX6_isKnit_17 : decode cX6_isKnit 17 = .ok (.iload_n 2, 1) := by decide +kernel
theorem dX6_isKnit_18 : decode cX6_isKnit 18 = .ok (.iconst 0, 1) := by decide +kernel
theorem dX6_isKnit_19 : decode cX6_isKnit 19 = .ok (.bipush 7, 2) := by decide +kernel
theorem dX6_isKnit_21 : decode cX6_isKnit 21 = .ok (.invokestatic 62, 3) := by decide +kernel
theorem dX6_isKnit_24 : decode cX6_isKnit 24 = .ok (.ifCond .eq 7, 3) := by decide +kernel
theorem dX6_isKnit_27 : decode cX6_isKnit 27 = .ok (.iconst 0, 1) := by decide +kernel
theorem dX6_isKnit_28 : decode cX6_isKnit 28 = .ok (.goto 4, 3) := by decide +kernel
theorem dX6_isKnit_31 : decode cX6_isKnit 31 = .ok (.iconst 1, 1) := by decide +kernel
theorem dX6_isKnit_32 : decode cX6_isKnit 32 = .ok (.putfield 35, 3) := by decide +kernel
theorem dX6_isKnit_35 : decode cX6_isKnit 35 = .ok (.aload_n 0, 1) := by decide +kernel
theorem dX6_isKnit_36 : decode cX6_isKnit 36 = .ok (.getfield 35, 3) := by decide +kernel
theorem dX6_isKnit_39 : decode cX6_isKnit 39 = .ok (.ifCond .ne 24, 3) := by decide +kernel
theorem dX6_isKnit_42 : decode cX6_isKnit 42 = .ok (.aload_n 0, 1) := by decide +kernel
theorem dX6_isKnit_43 : decode cX6_isKnit 43 = .ok (.getfield 13, 3) := by decide +kernel
theorem dX6_isKnit_46 : decode cX6_isKnit 46 = .ok (.bipush 62, 2) := by decide +kernel
theorem dX6_isKnit_48 : decode cX6_isKnit 48 = .ok (.iload_n 1, 1) := by decide +kernel
theorem dX6_isKnit_49 : decode cX6_isKnit 49 = .ok (.iadd, 1) := by decide +kernel
theorem dX6_isKnit_50 : decode cX6_isKnit 50 = .ok (.iaload, 1) := by decide +kernel
theorem dX6_isKnit_51 : decode cX6_isKnit 51 = .ok (.iload_n 2, 1) := by decide +kernel
theorem dX6_isKnit_52 : decode cX6_isKnit 52 = .ok (.ishr, 1) := by decide +kernel
theorem dX6_isKnit_53 : decode cX6_isKnit 53 = .ok (.iconst 1, 1) := by decide +kernel
theorem dX6_isKnit_54 : decode cX6_isKnit 54 = .ok (.iand, 1) := by decide +kernel
theorem dX6_isKnit_55 : decode cX6_isKnit 55 = .ok (.iconst 1, 1) := by decide +kernel
theorem dX6_isKnit_56 : decode cX6_isKnit 56 = .ok (.if_icmp .ne 7, 3) := by decide +kernel
theorem dX6_isKnit_59 : decode cX6_isKnit 59 = .ok (.iconst 1, 1) := by decide +kernel
theorem dX6_isKnit_60 : decode cX6_isKnit 60 = .ok (.goto 4, 3) := by decide +kernel
theorem dX6_isKnit_63 : decode cX6_isKnit 63 = .ok (.iconst 0, 1) := by decide +kernel
theorem dX6_isKnit_64 : decode cX6_isKnit 64 = .ok (.ireturn, 1) := by decide +kernel
theorem dX6_knits_0 : decode cX6_knits 0 = .ok (.aload_n 0, 1) := by decide +kernel
theorem dX6_knits_1 : decode cX6_knits 1 = .ok (.getfield 13, 3) := by decide +kernel
theorem dX6_knits_4 : decode cX6_knits 4 = .ok (.iconst 4, 1) := by decide +kernel
theorem dX6_knits_5 : decode cX6_knits 5 = .ok (.iaload, 1) := by decide +kernel
theorem dX6_knits_6 : decode cX6_knits 6 = .ok (.ifCond .eq 30, 3) := by decide +kernel
theorem dX6_knits_9 : decode cX6_knits 9 = .ok (.aload_n 0, 1) := by decide +kernel
theorem dX6_knits_10 : decode cX6_knits 10 = .ok (.getfield 13, 3) := by decide +kernel
theorem dX6_knits_13 : decode cX6_knits 13 = .ok (.bipush 62, 2) := by decide +kernel
theorem dX6_knits_15 : decode cX6_knits 15 = .ok (.iload_n 2, 1) := by decide +kernel
theorem dX6_knits_16 : decode cX6_knits 16 = .ok (.aload_n 0, 1) := by decide +kernel
theorem dX6_knits_17 : decode cX6_knits 17 = .ok (.getfield 13, 3) := by decide +kernel
theorem dX6_knits_20 : decode cX6_knits 20 = .ok (.iconst 4, 1) := by decide +kernel
theorem dX6_knits_21 : decode cX6_knits 21 = .ok (.iaload, 1) := by decide +kernel
theorem dX6_knits_22 : decode cX6_knits 22 = .ok (.irem, 1) := by decide +kernel
theorem dX6_knits_23 : decode cX6_knits 23 = .ok (.iadd, 1) := by decide +kernel
theorem dX6_knits_24 : decode cX6_knits 24 = .ok (.iaload, 1) := by decide +kernel
theorem dX6_knits_25 : decode cX6_knits 25 = .ok (.iload_n 1, 1) := by decide +kernel
theorem dX6_knits_26 : decode cX6_knits 26 = .ok (.bipush 8, 2) := by decide +kernel
theorem dX6_knits_28 : decode cX6_knits 28 = .ok (.irem, 1) := by decide +kernel
theorem dX6_knits_29 : decode cX6_knits 29 = .ok (.ishr, 1) := by decide +kernel
theorem dX6_knits_30 : decode cX6_knits 30 = .ok (.iconst 1, 1) := by decide +kernel
theorem dX6_knits_31 : decode cX6_knits 31 = .ok (.iand, 1) := by decide +kernel
theorem dX6_knits_32 : decode cX6_knits 32 = .ok (.iconst 1, 1) := by decide +kernel
theorem dX6_knits_33 : decode cX6_knits 33 = .ok (.if_icmp .ne 7, 3) := by decide +kernel
theorem dX6_knits_36 : decode cX6_knits 36 = .ok (.iconst 1, 1) := by decide +kernel
theorem dX6_knits_37 : decode cX6_knits 37 = .ok (.goto 4, 3) := by decide +kernel
theorem dX6_knits_40 : decode cX6_knits 40 = .ok (.iconst 0, 1) := by decide +kernel
theorem dX6_knits_41 : decode cX6_knits 41 = .ok (.istore_n 3, 1) := by decide +kernel
theorem dX6_knits_42 : decode cX6_knits 42 = .ok (.iload_n 3, 1) := by decide +kernel
theorem dX6_knits_43 : decode cX6_knits 43 = .ok (.ifCond .eq 35, 3) := by decide +kernel
theorem dX6_knits_46 : decode cX6_knits 46 = .ok (.aload_n 0, 1) := by decide +kernel
theorem dX6_knits_47 : decode cX6_knits 47 = .ok (.iload_n 1, 1) := by decide +kernel
theorem dX6_knits_48 : decode cX6_knits 48 = .ok (.invokevirtual 70, 3) := by decide +kernel
theorem dX6_knits_51 : decode cX6_knits 51 = .ok (.ifCond .eq 27, 3) := by decide +kernel
theorem dX6_knits_54 : decode cX6_knits 54 = .ok (.aload_n 0, 1) := by decide +kernel
theorem dX6_knits_55 : decode cX6_knits 55 = .ok (.iload_n 1, 1) := by decide +kernel
theorem dX6_knits_56 : decode cX6_knits 56 = .ok (.invokevirtual 101, 3) := by decide +kernel
theorem dX6_knits_59 : decode cX6_knits 59 = .ok (.ifCond .ne 19, 3) := by decide +kernel
theorem dX6_knits_62 : decode cX6_knits 62 = .ok (.aload_n 0, 1) := by decide +kernel
theorem dX6_knits_63 : decode cX6_knits 63 = .ok (.getfield 13, 3) := by decide +kernel
theorem dX6_knits_66 : decode cX6_knits 66 = .ok (.bipush 10, 2) := by decide +kernel
theorem dX6_knits_68 : decode cX6_knits 68 = .ok (.iload_n 1, 1) := by decide +kernel
theorem dX6_knits_69 : decode cX6_knits 69 = .ok (.iadd, 1) := by decide +kernel
theorem dX6_knits_70 : decode cX6_knits 70 = .ok (.iaload, 1) := by decide +kernel
theorem dX6_knits_71 : decode cX6_knits 71 = .ok (.ifCond .le 7, 3) := by decide +kernel
theorem dX6_knits_74 : decode cX6_knits 74 = .ok (.iconst 1, 1) := by decide +kernel
theorem dX6_knits_75 : decode cX6_knits 75 = .ok (.goto 4, 3) := by decide +kernel
theorem dX6_knits_78 : decode cX6_knits 78 = .ok (.iconst 0, 1) := by decide +kernel
theorem dX6_knits_79 : decode cX6_knits 79 = .ok (.ireturn, 1) := by decide +kernel
theorem dX6_wide_0 : decode cX6_wide 0 = .ok (.iconst 0, 1) := by decide +kernel
theorem dX6_wide_1 : decode cX6_wide 1 = .ok (.istore_n 2, 1) := by decide +kernel
theorem dX6_wide_2 : decode cX6_wide 2 = .ok (.iconst 0, 1) := by decide +kernel
theorem dX6_wide_3 : decode cX6_wide 3 = .ok (.istore_n 3, 1) := by decide +kernel
theorem dX6_wide_4 : decode cX6_wide 4 = .ok (.iload_n 3, 1) := by decide +kernel
theorem dX6_wide_5 : decode cX6_wide 5 = .ok (.bipush 24, 2) := by decide +kernel
theorem dX6_wide_7 : decode cX6_wide 7 = .ok (.if_icmp .ge 26, 3) := by decide +kernel
theorem dX6_wide_10 : decode cX6_wide 10 = .ok (.iload_n 2, 1) := by decide +kernel
theorem dX6_wide_11 : decode cX6_wide 11 = .ok (.aload_n 0, 1) := by decide +kernel
theorem dX6_wide_12 : decode cX6_wide 12 = .ok (.iload_n 3, 1) := by decide +kernel
theorem dX6_wide_13 : decode cX6_wide 13 = .ok (.iload_n 1, 1) := by decide +kernel
theorem dX6_wide_14 : decode cX6_wide 14 = .ok (.invokevirtual 140, 3) := by decide +kernel
theorem dX6_wide_17 : decode cX6_wide 17 = .ok (.ifCond .eq 7, 3) := by decide +kernel
theorem dX6_wide_20 : decode cX6_wide 20 = .ok (.iconst 1, 1) := by decide +kernel
theorem dX6_wide_21 : decode cX6_wide 21 = .ok (.goto 4, 3) := by decide +kernel
theorem dX6_wide_24 : decode cX6_wide 24 = .ok (.iconst 0, 1) := by decide +kernel
theorem dX6_wide_25 : decode cX6_wide 25 = .ok (.iadd, 1) := by decide +kernel
theorem dX6_wide_26 : decode cX6_wide 26 = .ok (.istore_n 2, 1) := by decide +kernel
theorem dX6_wide_27 : decode cX6_wide 27 = .ok (.iinc 3 1, 3) := by decide +kernel
theorem dX6_wide_30 : decode cX6_wide 30 = .ok (.goto (-26), 3) := by decide +kernel
theorem dX6_wide_33 : decode cX6_wide 33 = .ok (.iload_n 2, 1) := by decide +kernel
theorem dX6_wide_34 : decode cX6_wide 34 = .ok (.ireturn, 1) := by decide +kernel
theorem dX6_passes_0 : decode cX6_passes 0 = .ok (.iconst 0, 1) := by decide +kernel
theorem dX6_passes_1 : decode cX6_passes 1 = .ok (.istore_n 2, 1) := by decide +kernel
theorem dX6_passes_2 : decode cX6_passes 2 = .ok (.iconst 0, 1) := by decide +kernel
theorem dX6_passes_3 : decode cX6_passes 3 = .ok (.istore_n 3, 1) := by decide +kernel
theorem dX6_passes_4 : decode cX6_passes 4 = .ok (.iconst 0, 1) := by decide +kernel
theorem dX6_passes_5 : decode cX6_passes 5 = .ok (.istore 4, 2) := by decide +kernel
theorem dX6_passes_7 : decode cX6_passes 7 = .ok (.iload 4, 2) := by decide +kernel
theorem dX6_passes_9 : decode cX6_passes 9 = .ok (.bipush 24, 2) := by decide +kernel
theorem dX6_passes_11 : decode cX6_passes 11 = .ok (.if_icmp .ge 30, 3) := by decide +kernel
theorem dX6_passes_14 : decode cX6_passes 14 = .ok (.iload_n 2, 1) := by decide +kernel
theorem dX6_passes_15 : decode cX6_passes 15 = .ok (.aload_n 0, 1) := by decide +kernel
theorem dX6_passes_16 : decode cX6_passes 16 = .ok (.iload 4, 2) := by decide +kernel
theorem dX6_passes_18 : decode cX6_passes 18 = .ok (.iload_n 1, 1) := by decide +kernel
theorem dX6_passes_19 : decode cX6_passes 19 = .ok (.invokevirtual 140, 3) := by decide +kernel
theorem dX6_passes_22 : decode cX6_passes 22 = .ok (.ifCond .eq 10, 3) := by decide +kernel
theorem dX6_passes_25 : decode cX6_passes 25 = .ok (.iconst 1, 1) := by decide +kernel
theorem dX6_passes_26 : decode cX6_passes 26 = .ok (.iload 4, 2) := by decide +kernel
theorem dX6_passes_28 : decode cX6_passes 28 = .ok (.ishl, 1) := by decide +kernel
theorem dX6_passes_29 : decode cX6_passes 29 = .ok (.goto 4, 3) := by decide +kernel
theorem dX6_passes_32 : decode cX6_passes 32 = .ok (.iconst 0, 1) := by decide +kernel
theorem dX6_passes_33 : decode cX6_passes 33 = .ok (.ior, 1) := by decide +kernel
theorem dX6_passes_34 : decode cX6_passes 34 = .ok (.istore_n 2, 1) := by decide +kernel
theorem dX6_passes_35 : decode cX6_passes 35 = .ok (.iinc 4 1, 3) := by decide +kernel
theorem dX6_passes_38 : decode cX6_passes 38 = .ok (.goto (-31), 3) := by decide +kernel
theorem dX6_passes_41 : decode cX6_passes 41 = .ok (.iconst 0, 1) := by decide +kernel
theorem dX6_passes_42 : decode cX6_passes 42 = .ok (.istore 4, 2) := by decide +kernel
theorem dX6_passes_44 : decode cX6_passes 44 = .ok (.iload 4, 2) := by decide +kernel
theorem dX6_passes_46 : decode cX6_passes 46 = .ok (.bipush 24, 2) := by decide +kernel
theorem dX6_passes_48 : decode cX6_passes 48 = .ok (.if_icmp .ge 135, 3) := by decide +kernel
theorem dX6_passes_51 : decode cX6_passes 51 = .ok (.iload_n 2, 1) := by decide +kernel
theorem dX6_passes_52 : decode cX6_passes 52 = .ok (.iload 4, 2) := by decide +kernel
theorem dX6_passes_54 : decode cX6_passes 54 = .ok (.ishr, 1) := by decide +kernel
theorem dX6_passes_55 : decode cX6_passes 55 = .ok (.iconst 1, 1) := by decide +kernel
theorem dX6_passes_56 : decode cX6_passes 56 = .ok (.iand, 1) := by decide +kernel
theorem dX6_passes_57 : decode cX6_passes 57 = .ok (.ifCond .ne 37, 3) := by decide +kernel
theorem dX6_passes_60 : decode cX6_passes 60 = .ok (.aload_n 0, 1) := by decide +kernel
theorem dX6_passes_61 : decode cX6_passes 61 = .ok (.getfield 13, 3) := by decide +kernel
theorem dX6_passes_64 : decode cX6_passes 64 = .ok (.bipush 34, 2) := by decide +kernel
theorem dX6_passes_66 : decode cX6_passes 66 = .ok (.iload 4, 2) := by decide +kernel
theorem dX6_passes_68 : decode cX6_passes 68 = .ok (.iadd, 1) := by decide +kernel
theorem dX6_passes_69 : decode cX6_passes 69 = .ok (.iaload, 1) := by decide +kernel
theorem dX6_passes_70 : decode cX6_passes 70 = .ok (.iconst 1, 1) := by decide +kernel
theorem dX6_passes_71 : decode cX6_passes 71 = .ok (.iadd, 1) := by decide +kernel
theorem dX6_passes_72 : decode cX6_passes 72 = .ok (.bipush 6, 2) := by decide +kernel
theorem dX6_passes_74 : decode cX6_passes 74 = .ok (.if_icmp .ne 20, 3) := by decide +kernel
theorem dX6_passes_77 : decode cX6_passes 77 = .ok (.aload_n 0, 1) := by decide +kernel
theorem dX6_passes_78 : decode cX6_passes 78 = .ok (.getfield 13, 3) := by decide +kernel
theorem dX6_passes_81 : decode cX6_passes 81 = .ok (.bipush 10, 2) := by decide +kernel
theorem dX6_passes_83 : decode cX6_passes 83 = .ok (.iload 4, 2) := by decide +kernel
theorem dX6_passes_85 : decode cX6_passes 85 = .ok (.iadd, 1) := by decide +kernel
theorem dX6_passes_86 : decode cX6_passes 86 = .ok (.iaload, 1) := by decide +kernel
theorem dX6_passes_87 : decode cX6_passes 87 = .ok (.ifCond .le 7, 3) := by decide +kernel
theorem dX6_passes_90 : decode cX6_passes 90 = .ok (.iconst 1, 1) := by decide +kernel
theorem dX6_passes_91 : decode cX6_passes 91 = .ok (.goto 4, 3) := by decide +kernel
theorem dX6_passes_94 : decode cX6_passes 94 = .ok (.iconst 0, 1) := by decide +kernel
theorem dX6_passes_95 : decode cX6_passes 95 = .ok (.istore 5, 2) := by decide +kernel
theorem dX6_passes_97 : decode cX6_passes 97 = .ok (.iload_n 3, 1) := by decide +kernel
theorem dX6_passes_98 : decode cX6_passes 98 = .ok (.iload 5, 2) := by decide +kernel
theorem dX6_passes_100 : decode cX6_passes 100 = .ok (.ifCond .eq 16, 3) := by decide +kernel
theorem dX6_passes_103 : decode cX6_passes 103 = .ok (.aload_n 0, 1) := by decide +kernel
theorem dX6_passes_104 : decode cX6_passes 104 = .ok (.getfield 13, 3) := by decide +kernel
theorem dX6_passes_107 : decode cX6_passes 107 = .ok (.bipush 10, 2) := by decide +kernel
theorem dX6_passes_109 : decode cX6_passes 109 = .ok (.iload 4, 2) := by decide +kernel
theorem dX6_passes_111 : decode cX6_passes 111 = .ok (.iadd, 1) := by decide +kernel
theorem dX6_passes_112 : decode cX6_passes 112 = .ok (.iaload, 1) := by decide +kernel
theorem dX6_passes_113 : decode cX6_passes 113 = .ok (.goto 4, 3) := by decide +kernel
theorem dX6_passes_116 : decode cX6_passes 116 = .ok (.iconst 0, 1) := by decide +kernel
theorem dX6_passes_117 : decode cX6_passes 117 = .ok (.iadd, 1) := by decide +kernel
theorem dX6_passes_118 : decode cX6_passes 118 = .ok (.istore_n 3, 1) := by decide +kernel
theorem dX6_passes_119 : decode cX6_passes 119 = .ok (.iload_n 2, 1) := by decide +kernel
theorem dX6_passes_120 : decode cX6_passes 120 = .ok (.iload 4, 2) := by decide +kernel
theorem dX6_passes_122 : decode cX6_passes 122 = .ok (.ishr, 1) := by decide +kernel
theorem dX6_passes_123 : decode cX6_passes 123 = .ok (.iconst 1, 1) := by decide +kernel
theorem dX6_passes_124 : decode cX6_passes 124 = .ok (.iand, 1) := by decide +kernel
theorem dX6_passes_125 : decode cX6_passes 125 = .ok (.iconst 1, 1) := by decide +kernel
theorem dX6_passes_126 : decode cX6_passes 126 = .ok (.if_icmp .ne 14, 3) := by decide +kernel
theorem dX6_passes_129 : decode cX6_passes 129 = .ok (.aload_n 0, 1) := by decide +kernel
theorem dX6_passes_130 : decode cX6_passes 130 = .ok (.iload 4, 2) := by decide +kernel
theorem dX6_passes_132 : decode cX6_passes 132 = .ok (.iconst 1, 1) := by decide +kernel
theorem dX6_passes_133 : decode cX6_passes 133 = .ok (.iconst 0, 1) := by decide +kernel
theorem dX6_passes_134 : decode cX6_passes 134 = .ok (.invokevirtual 77, 3) := by decide +kernel
theorem dX6_passes_137 : decode cX6_passes 137 = .ok (.goto 40, 3) := by decide +kernel
theorem dX6_passes_140 : decode cX6_passes 140 = .ok (.aload_n 0, 1) := by decide +kernel
theorem dX6_passes_141 : decode cX6_passes 141 = .ok (.iload 4, 2) := by decide +kernel
theorem dX6_passes_143 : decode cX6_passes 143 = .ok (.iload 5, 2) := by decide +kernel
theorem dX6_passes_145 : decode cX6_passes 145 = .ok (.ifCond .eq 7, 3) := by decide +kernel
theorem dX6_passes_148 : decode cX6_passes 148 = .ok (.iconst 0, 1) := by decide +kernel
theorem dX6_passes_149 : decode cX6_passes 149 = .ok (.goto 13, 3) := by decide +kernel
theorem dX6_passes_152 : decode cX6_passes 152 = .ok (.aload_n 0, 1) := by decide +kernel
theorem dX6_passes_153 : decode cX6_passes 153 = .ok (.getfield 13, 3) := by decide +kernel
theorem dX6_passes_156 : decode cX6_passes 156 = .ok (.bipush 10, 2) := by decide +kernel
theorem dX6_passes_158 : decode cX6_passes 158 = .ok (.iload 4, 2) := by decide +kernel
theorem dX6_passes_160 : decode cX6_passes 160 = .ok (.iadd, 1) := by decide +kernel
theorem dX6_passes_161 : decode cX6_passes 161 = .ok (.iaload, 1) := by decide +kernel
theorem dX6_passes_162 : decode cX6_passes 162 = .ok (.aload_n 0, 1) := by decide +kernel
theorem dX6_passes_163 : decode cX6_passes 163 = .ok (.getfield 13, 3) := by decide +kernel
theorem dX6_passes_166 : decode cX6_passes 166 = .ok (.bipush 34, 2) := by decide +kernel
theorem dX6_passes_168 : decode cX6_passes 168 = .ok (.iload 4, 2) := by decide +kernel
theorem dX6_passes_170 : decode cX6_passes 170 = .ok (.iadd, 1) := by decide +kernel
theorem dX6_passes_171 : decode cX6_passes 171 = .ok (.iaload, 1) := by decide +kernel
theorem dX6_passes_172 : decode cX6_passes 172 = .ok (.iconst 1, 1) := by decide +kernel
theorem dX6_passes_173 : decode cX6_passes 173 = .ok (.iadd, 1) := by decide +kernel
theorem dX6_passes_174 : decode cX6_passes 174 = .ok (.invokevirtual 77, 3) := by decide +kernel
theorem dX6_passes_177 : decode cX6_passes 177 = .ok (.iinc 4 1, 3) := by decide +kernel
theorem dX6_passes_180 : decode cX6_passes 180 = .ok (.goto (-136), 3) := by decide +kernel
theorem dX6_passes_183 : decode cX6_passes 183 = .ok (.iload_n 3, 1) := by decide +kernel
theorem dX6_passes_184 : decode cX6_passes 184 = .ok (.ireturn, 1) := by decide +kernel
theorem dX6_courses_0 : decode cX6_courses 0 = .ok (.aload_n 0, 1) := by decide +kernel
theorem dX6_courses_1 : decode cX6_courses 1 = .ok (.getfield 13, 3) := by decide +kernel
theorem dX6_courses_4 : decode cX6_courses 4 = .ok (.iconst 5, 1) := by decide +kernel
theorem dX6_courses_5 : decode cX6_courses 5 = .ok (.iaload, 1) := by decide +kernel
theorem dX6_courses_6 : decode cX6_courses 6 = .ok (.istore_n 1, 1) := by decide +kernel
theorem dX6_courses_7 : decode cX6_courses 7 = .ok (.aload_n 0, 1) := by decide +kernel
theorem dX6_courses_8 : decode cX6_courses 8 = .ok (.iload_n 1, 1) := by decide +kernel
theorem dX6_courses_9 : decode cX6_courses 9 = .ok (.invokevirtual 144, 3) := by decide +kernel
theorem dX6_courses_12 : decode cX6_courses 12 = .ok (.istore_n 2, 1) := by decide +kernel
theorem dX6_courses_13 : decode cX6_courses 13 = .ok (.iload_n 2, 1) := by decide +kernel
theorem dX6_courses_14 : decode cX6_courses 14 = .ok (.aload_n 0, 1) := by decide +kernel
theorem dX6_courses_15 : decode cX6_courses 15 = .ok (.getfield 13, 3) := by decide +kernel
theorem dX6_courses_18 : decode cX6_courses 18 = .ok (.iconst 3, 1) := by decide +kernel
theorem dX6_courses_19 : decode cX6_courses 19 = .ok (.iaload, 1) := by decide +kernel
theorem dX6_courses_20 : decode cX6_courses 20 = .ok (.imul, 1) := by decide +kernel
theorem dX6_courses_21 : decode cX6_courses 21 = .ok (.istore_n 3, 1) := by decide +kernel
theorem dX6_courses_22 : decode cX6_courses 22 = .ok (.bipush 68, 2) := by decide +kernel
theorem dX6_courses_24 : decode cX6_courses 24 = .ok (.iconst 4, 1) := by decide +kernel
theorem dX6_courses_25 : decode cX6_courses 25 = .ok (.iload_n 1, 1) := by decide +kernel
theorem dX6_courses_26 : decode cX6_courses 26 = .ok (.imul, 1) := by decide +kernel
theorem dX6_courses_27 : decode cX6_courses 27 = .ok (.iadd, 1) := by decide +kernel
theorem dX6_courses_28 : decode cX6_courses 28 = .ok (.istore 4, 2) := by decide +kernel
theorem dX6_courses_30 : decode cX6_courses 30 = .ok (.iload_n 1, 1) := by decide +kernel
theorem dX6_courses_31 : decode cX6_courses 31 = .ok (.bipush 30, 2) := by decide +kernel
theorem dX6_courses_33 : decode cX6_courses 33 = .ok (.if_icmp .ne 13, 3) := by decide +kernel
theorem dX6_courses_36 : decode cX6_courses 36 = .ok (.aload_n 0, 1) := by decide +kernel
theorem dX6_courses_37 : decode cX6_courses 37 = .ok (.iconst 2, 1) := by decide +kernel
theorem dX6_courses_38 : decode cX6_courses 38 = .ok (.bipush 13, 2) := by decide +kernel
theorem dX6_courses_40 : decode cX6_courses 40 = .ok (.bipush 30, 2) := by decide +kernel
theorem dX6_courses_42 : decode cX6_courses 42 = .ok (.invokevirtual 73, 3) := by decide +kernel
theorem dX6_courses_45 : decode cX6_courses 45 = .ok (.ireturn, 1) := by decide +kernel
theorem dX6_courses_46 : decode cX6_courses 46 = .ok (.iload_n 2, 1) := by decide +kernel
theorem dX6_courses_47 : decode cX6_courses 47 = .ok (.ifCond .ne 12, 3) := by decide +kernel
theorem dX6_courses_50 : decode cX6_courses 50 = .ok (.aload_n 0, 1) := by decide +kernel
theorem dX6_courses_51 : decode cX6_courses 51 = .ok (.iconst 2, 1) := by decide +kernel
theorem dX6_courses_52 : decode cX6_courses 52 = .ok (.bipush 14, 2) := by decide +kernel
theorem dX6_courses_54 : decode cX6_courses 54 = .ok (.iload_n 1, 1) := by decide +kernel
theorem dX6_courses_55 : decode cX6_courses 55 = .ok (.invokevirtual 73, 3) := by decide +kernel
theorem dX6_courses_58 : decode cX6_courses 58 = .ok (.ireturn, 1) := by decide +kernel
theorem dX6_courses_59 : decode cX6_courses 59 = .ok (.aload_n 0, 1) := by decide +kernel
theorem dX6_courses_60 : decode cX6_courses 60 = .ok (.getfield 13, 3) := by decide +kernel
theorem dX6_courses_63 : decode cX6_courses 63 = .ok (.bipush 58, 2) := by decide +kernel
theorem dX6_courses_65 : decode cX6_courses 65 = .ok (.aload_n 0, 1) := by decide +kernel
theorem dX6_courses_66 : decode cX6_courses 66 = .ok (.getfield 13, 3) := by decide +kernel
theorem dX6_courses_69 : decode cX6_courses 69 = .ok (.iconst 2, 1) := by decide +kernel
theorem dX6_courses_70 : decode cX6_courses 70 = .ok (.iaload, 1) := by decide +kernel
theorem dX6_courses_71 : decode cX6_courses 71 = .ok (.iadd, 1) := by decide +kernel
theorem dX6_courses_72 : decode cX6_courses 72 = .ok (.iaload, 1) := by decide +kernel
theorem dX6_courses_73 : decode cX6_courses 73 = .ok (.iload_n 3, 1) := by decide +kernel
theorem dX6_courses_74 : decode cX6_courses 74 = .ok (.if_icmp .ge 12, 3) := by decide +kernel
theorem dX6_courses_77 : decode cX6_courses 77 = .ok (.aload_n 0, 1) := by decide +kernel
theorem dX6_courses_78 : decode cX6_courses 78 = .ok (.iconst 2, 1) := by decide +kernel
theorem dX6_courses_79 : decode cX6_courses 79 = .ok (.bipush 10, 2) := by decide +kernel
theorem dX6_courses_81 : decode cX6_courses 81 = .ok (.iload_n 3, 1) := by decide +kernel
theorem dX6_courses_82 : decode cX6_courses 82 = .ok (.invokevirtual 73, 3) := by decide +kernel
theorem dX6_courses_85 : decode cX6_courses 85 = .ok (.ireturn, 1) := by decide +kernel
theorem dX6_courses_86 : decode cX6_courses 86 = .ok (.aload_n 0, 1) := by decide +kernel
theorem dX6_courses_87 : decode cX6_courses 87 = .ok (.getfield 13, 3) := by decide +kernel
theorem dX6_courses_90 : decode cX6_courses 90 = .ok (.bipush 58, 2) := by decide +kernel
theorem dX6_courses_92 : decode cX6_courses 92 = .ok (.aload_n 0, 1) := by decide +kernel
theorem dX6_courses_93 : decode cX6_courses 93 = .ok (.getfield 13, 3) := by decide +kernel
theorem dX6_courses_96 : decode cX6_courses 96 = .ok (.iconst 2, 1) := by decide +kernel
theorem dX6_courses_97 : decode cX6_courses 97 = .ok (.iaload, 1) := by decide +kernel
theorem dX6_courses_98 : decode cX6_courses 98 = .ok (.iadd, 1) := by decide +kernel
theorem dX6_courses_99 : decode cX6_courses 99 = .ok (.dup2, 1) := by decide +kernel
theorem dX6_courses_100 : decode cX6_courses 100 = .ok (.iaload, 1) := by decide +kernel
theorem dX6_courses_101 : decode cX6_courses 101 = .ok (.iload_n 3, 1) := by decide +kernel
theorem dX6_courses_102 : decode cX6_courses 102 = .ok (.isub, 1) := by decide +kernel
theorem dX6_courses_103 : decode cX6_courses 103 = .ok (.iastore, 1) := by decide +kernel
theorem dX6_courses_104 : decode cX6_courses 104 = .ok (.aload_n 0, 1) := by decide +kernel
theorem dX6_courses_105 : decode cX6_courses 105 = .ok (.getfield 13, 3) := by decide +kernel
theorem dX6_courses_108 : decode cX6_courses 108 = .ok (.bipush 8, 2) := by decide +kernel
theorem dX6_courses_110 : decode cX6_courses 110 = .ok (.dup2, 1) := by decide +kernel
theorem dX6_courses_111 : decode cX6_courses 111 = .ok (.iaload, 1) := by decide +kernel
theorem dX6_courses_112 : decode cX6_courses 112 = .ok (.iload_n 3, 1) := by decide +kernel
theorem dX6_courses_113 : decode cX6_courses 113 = .ok (.iadd, 1) := by decide +kernel
theorem dX6_courses_114 : decode cX6_courses 114 = .ok (.iastore, 1) := by decide +kernel
theorem dX6_courses_115 : decode cX6_courses 115 = .ok (.aload_n 0, 1) := by decide +kernel
theorem dX6_courses_116 : decode cX6_courses 116 = .ok (.getfield 13, 3) := by decide +kernel
theorem dX6_courses_119 : decode cX6_courses 119 = .ok (.iload 4, 2) := by decide +kernel
theorem dX6_courses_121 : decode cX6_courses 121 = .ok (.iload_n 2, 1) := by decide +kernel
theorem dX6_courses_122 : decode cX6_courses 122 = .ok (.iastore, 1) := by decide +kernel
theorem dX6_courses_123 : decode cX6_courses 123 = .ok (.aload_n 0, 1) := by decide +kernel
theorem dX6_courses_124 : decode cX6_courses 124 = .ok (.getfield 13, 3) := by decide +kernel
theorem dX6_courses_127 : decode cX6_courses 127 = .ok (.iload 4, 2) := by decide +kernel
theorem dX6_courses_129 : decode cX6_courses 129 = .ok (.iconst 1, 1) := by decide +kernel
theorem dX6_courses_130 : decode cX6_courses 130 = .ok (.iadd, 1) := by decide +kernel
theorem dX6_courses_131 : decode cX6_courses 131 = .ok (.aload_n 0, 1) := by decide +kernel
theorem dX6_courses_132 : decode cX6_courses 132 = .ok (.getfield 13, 3) := by decide +kernel
theorem dX6_courses_135 : decode cX6_courses 135 = .ok (.iconst 2, 1) := by decide +kernel
theorem dX6_courses_136 : decode cX6_courses 136 = .ok (.iaload, 1) := by decide +kernel
theorem dX6_courses_137 : decode cX6_courses 137 = .ok (.iastore, 1) := by decide +kernel
theorem dX6_courses_138 : decode cX6_courses 138 = .ok (.aload_n 0, 1) := by decide +kernel
theorem dX6_courses_139 : decode cX6_courses 139 = .ok (.getfield 13, 3) := by decide +kernel
theorem dX6_courses_142 : decode cX6_courses 142 = .ok (.iload 4, 2) := by decide +kernel
theorem dX6_courses_144 : decode cX6_courses 144 = .ok (.iconst 2, 1) := by decide +kernel
theorem dX6_courses_145 : decode cX6_courses 145 = .ok (.iadd, 1) := by decide +kernel
theorem dX6_courses_146 : decode cX6_courses 146 = .ok (.iload_n 3, 1) := by decide +kernel
theorem dX6_courses_147 : decode cX6_courses 147 = .ok (.iastore, 1) := by decide +kernel
theorem dX6_courses_148 : decode cX6_courses 148 = .ok (.aload_n 0, 1) := by decide +kernel
theorem dX6_courses_149 : decode cX6_courses 149 = .ok (.getfield 13, 3) := by decide +kernel
theorem dX6_courses_152 : decode cX6_courses 152 = .ok (.iload 4, 2) := by decide +kernel
theorem dX6_courses_154 : decode cX6_courses 154 = .ok (.iconst 3, 1) := by decide +kernel
theorem dX6_courses_155 : decode cX6_courses 155 = .ok (.iadd, 1) := by decide +kernel
theorem dX6_courses_156 : decode cX6_courses 156 = .ok (.aload_n 0, 1) := by decide +kernel
theorem dX6_courses_157 : decode cX6_courses 157 = .ok (.iload_n 1, 1) := by decide +kernel
theorem dX6_courses_158 : decode cX6_courses 158 = .ok (.invokevirtual 147, 3) := by decide +kernel
theorem dX6_courses_161 : decode cX6_courses 161 = .ok (.iastore, 1) := by decide +kernel
theorem dX6_courses_162 : decode cX6_courses 162 = .ok (.aload_n 0, 1) := by decide +kernel
theorem dX6_courses_163 : decode cX6_courses 163 = .ok (.getfield 13, 3) := by decide +kernel
theorem dX6_courses_166 : decode cX6_courses 166 = .ok (.bipush 9, 2) := by decide +kernel
theorem dX6_courses_168 : decode cX6_courses 168 = .ok (.dup2, 1) := by decide +kernel
theorem dX6_courses_169 : decode cX6_courses 169 = .ok (.iaload, 1) := by decide +kernel
theorem dX6_courses_170 : decode cX6_courses 170 = .ok (.aload_n 0, 1) := by decide +kernel
theorem dX6_courses_171 : decode cX6_courses 171 = .ok (.getfield 13, 3) := by decide +kernel
theorem dX6_courses_174 : decode cX6_courses 174 = .ok (.iload 4, 2) := by decide +kernel
theorem dX6_courses_176 : decode cX6_courses 176 = .ok (.iconst 3, 1) := by decide +kernel
theorem dX6_courses_177 : decode cX6_courses 177 = .ok (.iadd, 1) := by decide +kernel
theorem dX6_courses_178 : decode cX6_courses 178 = .ok (.iaload, 1) := by decide +kernel
theorem dX6_courses_179 : decode cX6_courses 179 = .ok (.iadd, 1) := by decide +kernel
theorem dX6_courses_180 : decode cX6_courses 180 = .ok (.iastore, 1) := by decide +kernel
theorem dX6_courses_181 : decode cX6_courses 181 = .ok (.aload_n 0, 1) := by decide +kernel
theorem dX6_courses_182 : decode cX6_courses 182 = .ok (.getfield 13, 3) := by decide +kernel
theorem dX6_courses_185 : decode cX6_courses 185 = .ok (.iconst 5, 1) := by decide +kernel
theorem dX6_courses_186 : decode cX6_courses 186 = .ok (.dup2, 1) := by decide +kernel
theorem dX6_courses_187 : decode cX6_courses 187 = .ok (.iaload, 1) := by decide +kernel
theorem dX6_courses_188 : decode cX6_courses 188 = .ok (.iconst 1, 1) := by decide +kernel
theorem dX6_courses_189 : decode cX6_courses 189 = .ok (.iadd, 1) := by decide +kernel
theorem dX6_courses_190 : decode cX6_courses 190 = .ok (.iastore, 1) := by decide +kernel
theorem dX6_courses_191 : decode cX6_courses 191 = .ok (.iload_n 2, 1) := by decide +kernel
theorem dX6_courses_192 : decode cX6_courses 192 = .ok (.ireturn, 1) := by decide +kernel
theorem dX6_knitsAll_0 : decode cX6_knitsAll 0 = .ok (.iload_n 1, 1) := by decide +kernel
theorem dX6_knitsAll_1 : decode cX6_knitsAll 1 = .ok (.iconst 1, 1) := by decide +kernel
theorem dX6_knitsAll_2 : decode cX6_knitsAll 2 = .ok (.bipush 10, 2) := by decide +kernel
theorem dX6_knitsAll_4 : decode cX6_knitsAll 4 = .ok (.invokestatic 62, 3) := by decide +kernel
theorem dX6_knitsAll_7 : decode cX6_knitsAll 7 = .ok (.ifCond .ne 9, 3) := by decide +kernel
theorem dX6_knitsAll_10 : decode cX6_knitsAll 10 = .ok (.aload_n 0, 1) := by decide +kernel
theorem dX6_knitsAll_11 : decode cX6_knitsAll 11 = .ok (.iconst 1, 1) := by decide +kernel
theorem dX6_knitsAll_12 : decode cX6_knitsAll 12 = .ok (.invokevirtual 51, 3) := by decide +kernel
theorem dX6_knitsAll_15 : decode cX6_knitsAll 15 = .ok (.ireturn, 1) := by decide +kernel
theorem dX6_knitsAll_16 : decode cX6_knitsAll 16 = .ok (.iconst 0, 1) := by decide +kernel
theorem dX6_knitsAll_17 : decode cX6_knitsAll 17 = .ok (.istore_n 2, 1) := by decide +kernel
theorem dX6_knitsAll_18 : decode cX6_knitsAll 18 = .ok (.iconst 0, 1) := by decide +kernel
theorem dX6_knitsAll_19 : decode cX6_knitsAll 19 = .ok (.istore_n 3, 1) := by decide +kernel
theorem dX6_knitsAll_20 : decode cX6_knitsAll 20 = .ok (.iload_n 3, 1) := by decide +kernel
theorem dX6_knitsAll_21 : decode cX6_knitsAll 21 = .ok (.iload_n 1, 1) := by decide +kernel
theorem dX6_knitsAll_22 : decode cX6_knitsAll 22 = .ok (.if_icmp .ge 23, 3) := by decide +kernel
theorem dX6_knitsAll_25 : decode cX6_knitsAll 25 = .ok (.aload_n 0, 1) := by decide +kernel
theorem dX6_knitsAll_26 : decode cX6_knitsAll 26 = .ok (.getfield 35, 3) := by decide +kernel
theorem dX6_knitsAll_29 : decode cX6_knitsAll 29 = .ok (.ifCond .ne 16, 3) := by decide +kernel
theorem dX6_knitsAll_32 : decode cX6_knitsAll 32 = .ok (.iload_n 2, 1) := by decide +kernel
theorem dX6_knitsAll_33 : decode cX6_knitsAll 33 = .ok (.aload_n 0, 1) := by decide +kernel
theorem dX6_knitsAll_34 : decode cX6_knitsAll 34 = .ok (.invokevirtual 150, 3) := by decide +kernel
theorem dX6_knitsAll_37 : decode cX6_knitsAll 37 = .ok (.iadd, 1) := by decide +kernel
theorem dX6_knitsAll_38 : decode cX6_knitsAll 38 = .ok (.istore_n 2, 1) := by decide +kernel
theorem dX6_knitsAll_39 : decode cX6_knitsAll 39 = .ok (.iinc 3 1, 3) := by decide +kernel
theorem dX6_knitsAll_42 : decode cX6_knitsAll 42 = .ok (.goto (-22), 3) := by decide +kernel
theorem dX6_knitsAll_45 : decode cX6_knitsAll 45 = .ok (.iload_n 2, 1) := by decide +kernel
theorem dX6_knitsAll_46 : decode cX6_knitsAll 46 = .ok (.ireturn, 1) := by decide +kernel
theorem dX6_knit_0 : decode cX6_knit 0 = .ok (.aload_n 0, 1) := by decide +kernel
theorem dX6_knit_1 : decode cX6_knit 1 = .ok (.invokevirtual 84, 3) := by decide +kernel
theorem dX6_knit_4 : decode cX6_knit 4 = .ok (.aload_n 0, 1) := by decide +kernel
theorem dX6_knit_5 : decode cX6_knit 5 = .ok (.aload_n 0, 1) := by decide +kernel
theorem dX6_knit_6 : decode cX6_knit 6 = .ok (.iload_n 1, 1) := by decide +kernel
theorem dX6_knit_7 : decode cX6_knit 7 = .ok (.invokevirtual 153, 3) := by decide +kernel
theorem dX6_knit_10 : decode cX6_knit 10 = .ok (.invokevirtual 91, 3) := by decide +kernel
theorem dX6_knit_13 : decode cX6_knit 13 = .ok (.ireturn, 1) := by decide +kernel
theorem dX6_willKnit_0 : decode cX6_willKnit 0 = .ok (.aload_n 0, 1) := by decide +kernel
theorem dX6_willKnit_1 : decode cX6_willKnit 1 = .ok (.iload_n 1, 1) := by decide +kernel
theorem dX6_willKnit_2 : decode cX6_willKnit 2 = .ok (.invokestatic 66, 3) := by decide +kernel
theorem dX6_willKnit_5 : decode cX6_willKnit 5 = .ok (.ifCond .eq 7, 3) := by decide +kernel
theorem dX6_willKnit_8 : decode cX6_willKnit 8 = .ok (.iconst 0, 1) := by decide +kernel
theorem dX6_willKnit_9 : decode cX6_willKnit 9 = .ok (.goto 4, 3) := by decide +kernel
theorem dX6_willKnit_12 : decode cX6_willKnit 12 = .ok (.iconst 1, 1) := by decide +kernel
theorem dX6_willKnit_13 : decode cX6_willKnit 13 = .ok (.putfield 35, 3) := by decide +kernel
theorem dX6_willKnit_16 : decode cX6_willKnit 16 = .ok (.aload_n 0, 1) := by decide +kernel
theorem dX6_willKnit_17 : decode cX6_willKnit 17 = .ok (.getfield 35, 3) := by decide +kernel
theorem dX6_willKnit_20 : decode cX6_willKnit 20 = .ok (.ifCond .ne 21, 3) := by decide +kernel
theorem dX6_willKnit_23 : decode cX6_willKnit 23 = .ok (.aload_n 0, 1) := by decide +kernel
theorem dX6_willKnit_24 : decode cX6_willKnit 24 = .ok (.iload_n 1, 1) := by decide +kernel
theorem dX6_willKnit_25 : decode cX6_willKnit 25 = .ok (.aload_n 0, 1) := by decide +kernel
theorem dX6_willKnit_26 : decode cX6_willKnit 26 = .ok (.getfield 13, 3) := by decide +kernel
theorem dX6_willKnit_29 : decode cX6_willKnit 29 = .ok (.iconst 5, 1) := by decide +kernel
theorem dX6_willKnit_30 : decode cX6_willKnit 30 = .ok (.iaload, 1) := by decide +kernel
theorem dX6_willKnit_31 : decode cX6_willKnit 31 = .ok (.invokevirtual 140, 3) := by decide +kernel
theorem dX6_willKnit_34 : decode cX6_willKnit 34 = .ok (.ifCond .eq 7, 3) := by decide +kernel
theorem dX6_willKnit_37 : decode cX6_willKnit 37 = .ok (.iconst 1, 1) := by decide +kernel
theorem dX6_willKnit_38 : decode cX6_willKnit 38 = .ok (.goto 4, 3) := by decide +kernel
theorem dX6_willKnit_41 : decode cX6_willKnit 41 = .ok (.iconst 0, 1) := by decide +kernel
theorem dX6_willKnit_42 : decode cX6_willKnit 42 = .ok (.ireturn, 1) := by decide +kernel
theorem dX6_nextWidth_0 : decode cX6_nextWidth 0 = .ok (.aload_n 0, 1) := by decide +kernel
theorem dX6_nextWidth_1 : decode cX6_nextWidth 1 = .ok (.iconst 0, 1) := by decide +kernel
theorem dX6_nextWidth_2 : decode cX6_nextWidth 2 = .ok (.putfield 35, 3) := by decide +kernel
theorem dX6_nextWidth_5 : decode cX6_nextWidth 5 = .ok (.aload_n 0, 1) := by decide +kernel
theorem dX6_nextWidth_6 : decode cX6_nextWidth 6 = .ok (.aload_n 0, 1) := by decide +kernel
theorem dX6_nextWidth_7 : decode cX6_nextWidth 7 = .ok (.getfield 13, 3) := by decide +kernel
theorem dX6_nextWidth_10 : decode cX6_nextWidth 10 = .ok (.iconst 5, 1) := by decide +kernel
theorem dX6_nextWidth_11 : decode cX6_nextWidth 11 = .ok (.iaload, 1) := by decide +kernel
theorem dX6_nextWidth_12 : decode cX6_nextWidth 12 = .ok (.invokevirtual 144, 3) := by decide +kernel
theorem dX6_nextWidth_15 : decode cX6_nextWidth 15 = .ok (.ireturn, 1) := by decide +kernel
theorem dX6_nextWidthByMask_0 : decode cX6_nextWidthByMask 0 = .ok (.aload_n 0, 1) := by decide +kernel
theorem dX6_nextWidthByMask_1 : decode cX6_nextWidthByMask 1 = .ok (.invokevirtual 156, 3) := by decide +kernel
theorem dX6_nextWidthByMask_4 : decode cX6_nextWidthByMask 4 = .ok (.ireturn, 1) := by decide +kernel
theorem dX6_comes_0 : decode cX6_comes 0 = .ok (.aload_n 0, 1) := by decide +kernel
theorem dX6_comes_1 : decode cX6_comes 1 = .ok (.iload_n 1, 1) := by decide +kernel
theorem dX6_comes_2 : decode cX6_comes 2 = .ok (.iconst 1, 1) := by decide +kernel
theorem dX6_comes_3 : decode cX6_comes 3 = .ok (.bipush 10, 2) := by decide +kernel
theorem dX6_comes_5 : decode cX6_comes 5 = .ok (.invokestatic 62, 3) := by decide +kernel
theorem dX6_comes_8 : decode cX6_comes 8 = .ok (.ifCond .eq 7, 3) := by decide +kernel
theorem dX6_comes_11 : decode cX6_comes 11 = .ok (.iconst 0, 1) := by decide +kernel
theorem dX6_comes_12 : decode cX6_comes 12 = .ok (.goto 4, 3) := by decide +kernel
theorem dX6_comes_15 : decode cX6_comes 15 = .ok (.iconst 1, 1) := by decide +kernel
theorem dX6_comes_16 : decode cX6_comes 16 = .ok (.putfield 35, 3) := by decide +kernel
theorem dX6_comes_19 : decode cX6_comes 19 = .ok (.aload_n 0, 1) := by decide +kernel
theorem dX6_comes_20 : decode cX6_comes 20 = .ok (.getfield 35, 3) := by decide +kernel
theorem dX6_comes_23 : decode cX6_comes 23 = .ok (.ifCond .eq 5, 3) := by decide +kernel
theorem dX6_comes_26 : decode cX6_comes 26 = .ok (.iconst 0, 1) := by decide +kernel
theorem dX6_comes_27 : decode cX6_comes 27 = .ok (.ireturn, 1) := by decide +kernel
theorem dX6_comes_28 : decode cX6_comes 28 = .ok (.aload_n 0, 1) := by decide +kernel
theorem dX6_comes_29 : decode cX6_comes 29 = .ok (.getfield 23, 3) := by decide +kernel
theorem dX6_comes_32 : decode cX6_comes 32 = .ok (.aload_n 0, 1) := by decide +kernel
theorem dX6_comes_33 : decode cX6_comes 33 = .ok (.getfield 13, 3) := by decide +kernel
theorem dX6_comes_36 : decode cX6_comes 36 = .ok (.invokestatic 55, 3) := by decide +kernel
theorem dX6_comes_39 : decode cX6_comes 39 = .ok (.iconst 0, 1) := by decide +kernel
theorem dX6_comes_40 : decode cX6_comes 40 = .ok (.istore_n 3, 1) := by decide +kernel
theorem dX6_comes_41 : decode cX6_comes 41 = .ok (.iconst 0, 1) := by decide +kernel
theorem dX6_comes_42 : decode cX6_comes 42 = .ok (.istore 4, 2) := by decide +kernel
theorem dX6_comes_44 : decode cX6_comes 44 = .ok (.iconst 0, 1) := by decide +kernel
theorem dX6_comes_45 : decode cX6_comes 45 = .ok (.istore 5, 2) := by decide +kernel
theorem dX6_comes_47 : decode cX6_comes 47 = .ok (.iload 5, 2) := by decide +kernel
theorem dX6_comes_49 : decode cX6_comes 49 = .ok (.iload_n 1, 1) := by decide +kernel
theorem dX6_comes_50 : decode cX6_comes 50 = .ok (.if_icmp .ge 43, 3) := by decide +kernel
theorem dX6_comes_53 : decode cX6_comes 53 = .ok (.iload_n 3, 1) := by decide +kernel
theorem dX6_comes_54 : decode cX6_comes 54 = .ok (.aload_n 0, 1) := by decide +kernel
theorem dX6_comes_55 : decode cX6_comes 55 = .ok (.aload_n 0, 1) := by decide +kernel
theorem dX6_comes_56 : decode cX6_comes 56 = .ok (.getfield 13, 3) := by decide +kernel
theorem dX6_comes_59 : decode cX6_comes 59 = .ok (.iconst 5, 1) := by decide +kernel
theorem dX6_comes_60 : decode cX6_comes 60 = .ok (.iaload, 1) := by decide +kernel
theorem dX6_comes_61 : decode cX6_comes 61 = .ok (.iload 5, 2) := by decide +kernel
theorem dX6_comes_63 : decode cX6_comes 63 = .ok (.iadd, 1) := by decide +kernel
theorem dX6_comes_64 : decode cX6_comes 64 = .ok (.invokevirtual 144, 3) := by decide +kernel
theorem dX6_comes_67 : decode cX6_comes 67 = .ok (.iadd, 1) := by decide +kernel
theorem dX6_comes_68 : decode cX6_comes 68 = .ok (.istore_n 3, 1) := by decide +kernel
theorem dX6_comes_69 : decode cX6_comes 69 = .ok (.iload 4, 2) := by decide +kernel
theorem dX6_comes_71 : decode cX6_comes 71 = .ok (.aload_n 0, 1) := by decide +kernel
theorem dX6_comes_72 : decode cX6_comes 72 = .ok (.aload_n 0, 1) := by decide +kernel
theorem dX6_comes_73 : decode cX6_comes 73 = .ok (.getfield 13, 3) := by decide +kernel
theorem dX6_comes_76 : decode cX6_comes 76 = .ok (.iconst 5, 1) := by decide +kernel
theorem dX6_comes_77 : decode cX6_comes 77 = .ok (.iaload, 1) := by decide +kernel
theorem dX6_comes_78 : decode cX6_comes 78 = .ok (.iload 5, 2) := by decide +kernel
theorem dX6_comes_80 : decode cX6_comes 80 = .ok (.iadd, 1) := by decide +kernel
theorem dX6_comes_81 : decode cX6_comes 81 = .ok (.invokevirtual 147, 3) := by decide +kernel
theorem dX6_comes_84 : decode cX6_comes 84 = .ok (.iadd, 1) := by decide +kernel
theorem dX6_comes_85 : decode cX6_comes 85 = .ok (.istore 4, 2) := by decide +kernel
theorem dX6_comes_87 : decode cX6_comes 87 = .ok (.iinc 5 1, 3) := by decide +kernel
theorem dX6_comes_90 : decode cX6_comes 90 = .ok (.goto (-43), 3) := by decide +kernel
theorem dX6_comes_93 : decode cX6_comes 93 = .ok (.aload_n 0, 1) := by decide +kernel
theorem dX6_comes_94 : decode cX6_comes 94 = .ok (.getfield 13, 3) := by decide +kernel
theorem dX6_comes_97 : decode cX6_comes 97 = .ok (.aload_n 0, 1) := by decide +kernel
theorem dX6_comes_98 : decode cX6_comes 98 = .ok (.getfield 23, 3) := by decide +kernel
theorem dX6_comes_101 : decode cX6_comes 101 = .ok (.invokestatic 55, 3) := by decide +kernel
theorem dX6_comes_104 : decode cX6_comes 104 = .ok (.iload_n 2, 1) := by decide +kernel
theorem dX6_comes_105 : decode cX6_comes 105 = .ok (.ifCond .eq 7, 3) := by decide +kernel
theorem dX6_comes_108 : decode cX6_comes 108 = .ok (.iload_n 3, 1) := by decide +kernel
theorem dX6_comes_109 : decode cX6_comes 109 = .ok (.goto 5, 3) := by decide +kernel
theorem dX6_comes_112 : decode cX6_comes 112 = .ok (.iload 4, 2) := by decide +kernel
theorem dX6_comes_114 : decode cX6_comes 114 = .ok (.ireturn, 1) := by decide +kernel
theorem dX6_stitchesIn_0 : decode cX6_stitchesIn 0 = .ok (.aload_n 0, 1) := by decide +kernel
theorem dX6_stitchesIn_1 : decode cX6_stitchesIn 1 = .ok (.iload_n 1, 1) := by decide +kernel
theorem dX6_stitchesIn_2 : decode cX6_stitchesIn 2 = .ok (.iconst 1, 1) := by decide +kernel
theorem dX6_stitchesIn_3 : decode cX6_stitchesIn 3 = .ok (.invokevirtual 159, 3) := by decide +kernel
theorem dX6_stitchesIn_6 : decode cX6_stitchesIn 6 = .ok (.ireturn, 1) := by decide +kernel
theorem dX6_dropsIn_0 : decode cX6_dropsIn 0 = .ok (.aload_n 0, 1) := by decide +kernel
theorem dX6_dropsIn_1 : decode cX6_dropsIn 1 = .ok (.iload_n 1, 1) := by decide +kernel
theorem dX6_dropsIn_2 : decode cX6_dropsIn 2 = .ok (.iconst 0, 1) := by decide +kernel
theorem dX6_dropsIn_3 : decode cX6_dropsIn 3 = .ok (.invokevirtual 159, 3) := by decide +kernel
theorem dX6_dropsIn_6 : decode cX6_dropsIn 6 = .ok (.ireturn, 1) := by decide +kernel
theorem dX6_coursesPossible_0 : decode cX6_coursesPossible 0 = .ok (.iconst 0, 1) := by decide +kernel
theorem dX6_coursesPossible_1 : decode cX6_coursesPossible 1 = .ok (.istore_n 1, 1) := by decide +kernel
theorem dX6_coursesPossible_2 : decode cX6_coursesPossible 2 = .ok (.iconst 0, 1) := by decide +kernel
theorem dX6_coursesPossible_3 : decode cX6_coursesPossible 3 = .ok (.istore_n 2, 1) := by decide +kernel
theorem dX6_coursesPossible_4 : decode cX6_coursesPossible 4 = .ok (.aload_n 0, 1) := by decide +kernel
theorem dX6_coursesPossible_5 : decode cX6_coursesPossible 5 = .ok (.getfield 38, 3) := by decide +kernel
theorem dX6_coursesPossible_8 : decode cX6_coursesPossible 8 = .ok (.istore_n 3, 1) := by decide +kernel
theorem dX6_coursesPossible_9 : decode cX6_coursesPossible 9 = .ok (.aload_n 0, 1) := by decide +kernel
theorem dX6_coursesPossible_10 : decode cX6_coursesPossible 10 = .ok (.getfield 41, 3) := by decide +kernel
theorem dX6_coursesPossible_13 : decode cX6_coursesPossible 13 = .ok (.istore 4, 2) := by decide +kernel
theorem dX6_coursesPossible_15 : decode cX6_coursesPossible 15 = .ok (.aload_n 0, 1) := by decide +kernel
theorem dX6_coursesPossible_16 : decode cX6_coursesPossible 16 = .ok (.getfield 44, 3) := by decide +kernel
theorem dX6_coursesPossible_19 : decode cX6_coursesPossible 19 = .ok (.istore 5, 2) := by decide +kernel
theorem dX6_coursesPossible_21 : decode cX6_coursesPossible 21 = .ok (.aload_n 0, 1) := by decide +kernel
theorem dX6_coursesPossible_22 : decode cX6_coursesPossible 22 = .ok (.getfield 23, 3) := by decide +kernel
theorem dX6_coursesPossible_25 : decode cX6_coursesPossible 25 = .ok (.aload_n 0, 1) := by decide +kernel
theorem dX6_coursesPossible_26 : decode cX6_coursesPossible 26 = .ok (.getfield 13, 3) := by decide +kernel
theorem dX6_coursesPossible_29 : decode cX6_coursesPossible 29 = .ok (.invokestatic 55, 3) := by decide +kernel
theorem dX6_coursesPossible_32 : decode cX6_coursesPossible 32 = .ok (.aload_n 0, 1) := by decide +kernel
theorem dX6_coursesPossible_33 : decode cX6_coursesPossible 33 = .ok (.iconst 0, 1) := by decide +kernel
theorem dX6_coursesPossible_34 : decode cX6_coursesPossible 34 = .ok (.putfield 35, 3) := by decide +kernel
theorem dX6_coursesPossible_37 : decode cX6_coursesPossible 37 = .ok (.aload_n 0, 1) := by decide +kernel
theorem dX6_coursesPossible_38 : decode cX6_coursesPossible 38 = .ok (.getfield 35, 3) := by decide +kernel
theorem dX6_coursesPossible_41 : decode cX6_coursesPossible 41 = .ok (.ifCond .ne 28, 3) := by decide +kernel
theorem dX6_coursesPossible_44 : decode cX6_coursesPossible 44 = .ok (.iload_n 2, 1) := by decide +kernel
theorem dX6_coursesPossible_45 : decode cX6_coursesPossible 45 = .ok (.aload_n 0, 1) := by decide +kernel
theorem dX6_coursesPossible_46 : decode cX6_coursesPossible 46 = .ok (.invokevirtual 150, 3) := by decide +kernel
theorem dX6_coursesPossible_49 : decode cX6_coursesPossible 49 = .ok (.iadd, 1) := by decide +kernel
theorem dX6_coursesPossible_50 : decode cX6_coursesPossible 50 = .ok (.istore_n 2, 1) := by decide +kernel
theorem dX6_coursesPossible_51 : decode cX6_coursesPossible 51 = .ok (.iload_n 1, 1) := by decide +kernel
theorem dX6_coursesPossible_52 : decode cX6_coursesPossible 52 = .ok (.aload_n 0, 1) := by decide +kernel
theorem dX6_coursesPossible_53 : decode cX6_coursesPossible 53 = .ok (.getfield 35, 3) := by decide +kernel
theorem dX6_coursesPossible_56 : decode cX6_coursesPossible 56 = .ok (.ifCond .ne 7, 3) := by decide +kernel
theorem dX6_coursesPossible_59 : decode cX6_coursesPossible 59 = .ok (.iconst 1, 1) := by decide +kernel
theorem dX6_coursesPossible_60 : decode cX6_coursesPossible 60 = .ok (.goto 4, 3) := by decide +kernel
theorem dX6_coursesPossible_63 : decode cX6_coursesPossible 63 = .ok (.iconst 0, 1) := by decide +kernel
theorem dX6_coursesPossible_64 : decode cX6_coursesPossible 64 = .ok (.iadd, 1) := by decide +kernel
theorem dX6_coursesPossible_65 : decode cX6_coursesPossible 65 = .ok (.istore_n 1, 1) := by decide +kernel
theorem dX6_coursesPossible_66 : decode cX6_coursesPossible 66 = .ok (.goto (-29), 3) := by decide +kernel
theorem dX6_coursesPossible_69 : decode cX6_coursesPossible 69 = .ok (.aload_n 0, 1) := by decide +kernel
theorem dX6_coursesPossible_70 : decode cX6_coursesPossible 70 = .ok (.getfield 13, 3) := by decide +kernel
theorem dX6_coursesPossible_73 : decode cX6_coursesPossible 73 = .ok (.aload_n 0, 1) := by decide +kernel
theorem dX6_coursesPossible_74 : decode cX6_coursesPossible 74 = .ok (.getfield 23, 3) := by decide +kernel
theorem dX6_coursesPossible_77 : decode cX6_coursesPossible 77 = .ok (.invokestatic 55, 3) := by decide +kernel
theorem dX6_coursesPossible_80 : decode cX6_coursesPossible 80 = .ok (.aload_n 0, 1) := by decide +kernel
theorem dX6_coursesPossible_81 : decode cX6_coursesPossible 81 = .ok (.iload_n 3, 1) := by decide +kernel
theorem dX6_coursesPossible_82 : decode cX6_coursesPossible 82 = .ok (.putfield 38, 3) := by decide +kernel
theorem dX6_coursesPossible_85 : decode cX6_coursesPossible 85 = .ok (.aload_n 0, 1) := by decide +kernel
theorem dX6_coursesPossible_86 : decode cX6_coursesPossible 86 = .ok (.iload 4, 2) := by decide +kernel
theorem dX6_coursesPossible_88 : decode cX6_coursesPossible 88 = .ok (.putfield 41, 3) := by decide +kernel
theorem dX6_coursesPossible_91 : decode cX6_coursesPossible 91 = .ok (.aload_n 0, 1) := by decide +kernel
theorem dX6_coursesPossible_92 : decode cX6_coursesPossible 92 = .ok (.iload 5, 2) := by decide +kernel
theorem dX6_coursesPossible_94 : decode cX6_coursesPossible 94 = .ok (.putfield 44, 3) := by decide +kernel
theorem dX6_coursesPossible_97 : decode cX6_coursesPossible 97 = .ok (.aload_n 0, 1) := by decide +kernel
theorem dX6_coursesPossible_98 : decode cX6_coursesPossible 98 = .ok (.iconst 0, 1) := by decide +kernel
theorem dX6_coursesPossible_99 : decode cX6_coursesPossible 99 = .ok (.putfield 35, 3) := by decide +kernel
theorem dX6_coursesPossible_102 : decode cX6_coursesPossible 102 = .ok (.iload_n 1, 1) := by decide +kernel
theorem dX6_coursesPossible_103 : decode cX6_coursesPossible 103 = .ok (.ireturn, 1) := by decide +kernel
theorem dX6_courseCount_0 : decode cX6_courseCount 0 = .ok (.aload_n 0, 1) := by decide +kernel
theorem dX6_courseCount_1 : decode cX6_courseCount 1 = .ok (.iconst 0, 1) := by decide +kernel
theorem dX6_courseCount_2 : decode cX6_courseCount 2 = .ok (.putfield 35, 3) := by decide +kernel
theorem dX6_courseCount_5 : decode cX6_courseCount 5 = .ok (.aload_n 0, 1) := by decide +kernel
theorem dX6_courseCount_6 : decode cX6_courseCount 6 = .ok (.getfield 13, 3) := by decide +kernel
theorem dX6_courseCount_9 : decode cX6_courseCount 9 = .ok (.iconst 5, 1) := by decide +kernel
theorem dX6_courseCount_10 : decode cX6_courseCount 10 = .ok (.iaload, 1) := by decide +kernel
theorem dX6_courseCount_11 : decode cX6_courseCount 11 = .ok (.ireturn, 1) := by decide +kernel
theorem dX6_isCourse_0 : decode cX6_isCourse 0 = .ok (.iload_n 1, 1) := by decide +kernel
theorem dX6_isCourse_1 : decode cX6_isCourse 1 = .ok (.iconst 0, 1) := by decide +kernel
theorem dX6_isCourse_2 : decode cX6_isCourse 2 = .ok (.aload_n 0, 1) := by decide +kernel
theorem dX6_isCourse_3 : decode cX6_isCourse 3 = .ok (.getfield 13, 3) := by decide +kernel
theorem dX6_isCourse_6 : decode cX6_isCourse 6 = .ok (.iconst 5, 1) := by decide +kernel
theorem dX6_isCourse_7 : decode cX6_isCourse 7 = .ok (.iaload, 1) := by decide +kernel
theorem dX6_isCourse_8 : decode cX6_isCourse 8 = .ok (.iconst 1, 1) := by decide +kernel
theorem dX6_isCourse_9 : decode cX6_isCourse 9 = .ok (.isub, 1) := by decide +kernel
theorem dX6_isCourse_10 : decode cX6_isCourse 10 = .ok (.invokestatic 62, 3) := by decide +kernel
theorem dX6_isCourse_13 : decode cX6_isCourse 13 = .ok (.ireturn, 1) := by decide +kernel
theorem dX6_tells_0 : decode cX6_tells 0 = .ok (.aload_n 0, 1) := by decide +kernel
theorem dX6_tells_1 : decode cX6_tells 1 = .ok (.aload_n 0, 1) := by decide +kernel
theorem dX6_tells_2 : decode cX6_tells 2 = .ok (.iload_n 1, 1) := by decide +kernel
theorem dX6_tells_3 : decode cX6_tells 3 = .ok (.invokevirtual 163, 3) := by decide +kernel
theorem dX6_tells_6 : decode cX6_tells 6 = .ok (.ifCond .eq 7, 3) := by decide +kernel
theorem dX6_tells_9 : decode cX6_tells 9 = .ok (.iconst 0, 1) := by decide +kernel
theorem dX6_tells_10 : decode cX6_tells 10 = .ok (.goto 4, 3) := by decide +kernel
theorem dX6_tells_13 : decode cX6_tells 13 = .ok (.iconst 1, 1) := by decide +kernel
theorem dX6_tells_14 : decode cX6_tells 14 = .ok (.putfield 35, 3) := by decide +kernel
theorem dX6_tells_17 : decode cX6_tells 17 = .ok (.aload_n 0, 1) := by decide +kernel
theorem dX6_tells_18 : decode cX6_tells 18 = .ok (.getfield 35, 3) := by decide +kernel
theorem dX6_tells_21 : decode cX6_tells 21 = .ok (.ifCond .ne 19, 3) := by decide +kernel
theorem dX6_tells_24 : decode cX6_tells 24 = .ok (.aload_n 0, 1) := by decide +kernel
theorem dX6_tells_25 : decode cX6_tells 25 = .ok (.getfield 13, 3) := by decide +kernel
theorem dX6_tells_28 : decode cX6_tells 28 = .ok (.bipush 68, 2) := by decide +kernel
theorem dX6_tells_30 : decode cX6_tells 30 = .ok (.iconst 4, 1) := by decide +kernel
theorem dX6_tells_31 : decode cX6_tells 31 = .ok (.iload_n 1, 1) := by decide +kernel
theorem dX6_tells_32 : decode cX6_tells 32 = .ok (.imul, 1) := by decide +kernel
theorem dX6_tells_33 : decode cX6_tells 33 = .ok (.iadd, 1) := by decide +kernel
theorem dX6_tells_34 : decode cX6_tells 34 = .ok (.iload_n 2, 1) := by decide +kernel
theorem dX6_tells_35 : decode cX6_tells 35 = .ok (.iadd, 1) := by decide +kernel
theorem dX6_tells_36 : decode cX6_tells 36 = .ok (.iaload, 1) := by decide +kernel
theorem dX6_tells_37 : decode cX6_tells 37 = .ok (.goto 4, 3) := by decide +kernel
theorem dX6_tells_40 : decode cX6_tells 40 = .ok (.iconst 0, 1) := by decide +kernel
theorem dX6_tells_41 : decode cX6_tells 41 = .ok (.ireturn, 1) := by decide +kernel
theorem dX6_widthOf_0 : decode cX6_widthOf 0 = .ok (.aload_n 0, 1) := by decide +kernel
theorem dX6_widthOf_1 : decode cX6_widthOf 1 = .ok (.iload_n 1, 1) := by decide +kernel
theorem dX6_widthOf_2 : decode cX6_widthOf 2 = .ok (.iconst 0, 1) := by decide +kernel
theorem dX6_widthOf_3 : decode cX6_widthOf 3 = .ok (.invokevirtual 166, 3) := by decide +kernel
theorem dX6_widthOf_6 : decode cX6_widthOf 6 = .ok (.ireturn, 1) := by decide +kernel
theorem dX6_yarnOf_0 : decode cX6_yarnOf 0 = .ok (.aload_n 0, 1) := by decide +kernel
theorem dX6_yarnOf_1 : decode cX6_yarnOf 1 = .ok (.iload_n 1, 1) := by decide +kernel
theorem dX6_yarnOf_2 : decode cX6_yarnOf 2 = .ok (.iconst 2, 1) := by decide +kernel
theorem dX6_yarnOf_3 : decode cX6_yarnOf 3 = .ok (.invokevirtual 166, 3) := by decide +kernel
theorem dX6_yarnOf_6 : decode cX6_yarnOf 6 = .ok (.ireturn, 1) := by decide +kernel
theorem dX6_feederOf_0 : decode cX6_feederOf 0 = .ok (.aload_n 0, 1) := by decide +kernel
theorem dX6_feederOf_1 : decode cX6_feederOf 1 = .ok (.iload_n 1, 1) := by decide +kernel
theorem dX6_feederOf_2 : decode cX6_feederOf 2 = .ok (.iconst 1, 1) := by decide +kernel
theorem dX6_feederOf_3 : decode cX6_feederOf 3 = .ok (.invokevirtual 166, 3) := by decide +kernel
theorem dX6_feederOf_6 : decode cX6_feederOf 6 = .ok (.ireturn, 1) := by decide +kernel
theorem dX6_dropsOf_0 : decode cX6_dropsOf 0 = .ok (.aload_n 0, 1) := by decide +kernel
theorem dX6_dropsOf_1 : decode cX6_dropsOf 1 = .ok (.iload_n 1, 1) := by decide +kernel
theorem dX6_dropsOf_2 : decode cX6_dropsOf 2 = .ok (.iconst 3, 1) := by decide +kernel
theorem dX6_dropsOf_3 : decode cX6_dropsOf 3 = .ok (.invokevirtual 166, 3) := by decide +kernel
theorem dX6_dropsOf_6 : decode cX6_dropsOf 6 = .ok (.ireturn, 1) := by decide +kernel
theorem dX6_courseByWidth_0 : decode cX6_courseByWidth 0 = .ok (.aload_n 0, 1) := by decide +kernel
theorem dX6_courseByWidth_1 : decode cX6_courseByWidth 1 = .ok (.iconst 0, 1) := by decide +kernel
theorem dX6_courseByWidth_2 : decode cX6_courseByWidth 2 = .ok (.putfield 35, 3) := by decide +kernel
theorem dX6_courseByWidth_5 : decode cX6_courseByWidth 5 = .ok (.iconst 0, 1) := by decide +kernel
theorem dX6_courseByWidth_6 : decode cX6_courseByWidth 6 = .ok (.istore_n 2, 1) := by decide +kernel
theorem dX6_courseByWidth_7 : decode cX6_courseByWidth 7 = .ok (.iload_n 2, 1) := by decide +kernel
theorem dX6_courseByWidth_8 : decode cX6_courseByWidth 8 = .ok (.aload_n 0, 1) := by decide +kernel
theorem dX6_courseByWidth_9 : decode cX6_courseByWidth 9 = .ok (.getfield 13, 3) := by decide +kernel
theorem dX6_courseByWidth_12 : decode cX6_courseByWidth 12 = .ok (.iconst 5, 1) := by decide +kernel
theorem dX6_courseByWidth_13 : decode cX6_courseByWidth 13 = .ok (.iaload, 1) := by decide +kernel
theorem dX6_courseByWidth_14 : decode cX6_courseByWidth 14 = .ok (.if_icmp .ge 128, 3) := by decide +kernel
theorem dX6_courseByWidth_17 : decode cX6_courseByWidth 17 = .ok (.iconst 0, 1) := by decide +kernel
theorem dX6_courseByWidth_18 : decode cX6_courseByWidth 18 = .ok (.istore_n 3, 1) := by decide +kernel
theorem dX6_courseByWidth_19 : decode cX6_courseByWidth 19 = .ok (.iconst 0, 1) := by decide +kernel
theorem dX6_courseByWidth_20 : decode cX6_courseByWidth 20 = .ok (.istore 4, 2) := by decide +kernel
theorem dX6_courseByWidth_22 : decode cX6_courseByWidth 22 = .ok (.iload 4, 2) := by decide +kernel
theorem dX6_courseByWidth_24 : decode cX6_courseByWidth 24 = .ok (.aload_n 0, 1) := by decide +kernel
theorem dX6_courseByWidth_25 : decode cX6_courseByWidth 25 = .ok (.getfield 13, 3) := by decide +kernel
theorem dX6_courseByWidth_28 : decode cX6_courseByWidth 28 = .ok (.iconst 5, 1) := by decide +kernel
theorem dX6_courseByWidth_29 : decode cX6_courseByWidth 29 = .ok (.iaload, 1) := by decide +kernel
theorem dX6_courseByWidth_30 : decode cX6_courseByWidth 30 = .ok (.if_icmp .ge 99, 3) := by decide +kernel
theorem dX6_courseByWidth_33 : decode cX6_courseByWidth 33 = .ok (.aload_n 0, 1) := by decide +kernel
theorem dX6_courseByWidth_34 : decode cX6_courseByWidth 34 = .ok (.getfield 13, 3) := by decide +kernel
theorem dX6_courseByWidth_37 : decode cX6_courseByWidth 37 = .ok (.bipush 68, 2) := by decide +kernel
theorem dX6_courseByWidth_39 : decode cX6_courseByWidth 39 = .ok (.iconst 4, 1) := by decide +kernel
theorem dX6_courseByWidth_40 : decode cX6_courseByWidth 40 = .ok (.iload 4, 2) := by decide +kernel
theorem dX6_courseByWidth_42 : decode cX6_courseByWidth 42 = .ok (.imul, 1) := by decide +kernel
theorem dX6_courseByWidth_43 : decode cX6_courseByWidth 43 = .ok (.iadd, 1) := by decide +kernel
theorem dX6_courseByWidth_44 : decode cX6_courseByWidth 44 = .ok (.iaload, 1) := by decide +kernel
theorem dX6_courseByWidth_45 : decode cX6_courseByWidth 45 = .ok (.aload_n 0, 1) := by decide +kernel
theorem dX6_courseByWidth_46 : decode cX6_courseByWidth 46 = .ok (.getfield 13, 3) := by decide +kernel
theorem dX6_courseByWidth_49 : decode cX6_courseByWidth 49 = .ok (.bipush 68, 2) := by decide +kernel
theorem dX6_courseByWidth_51 : decode cX6_courseByWidth 51 = .ok (.iconst 4, 1) := by decide +kernel
theorem dX6_courseByWidth_52 : decode cX6_courseByWidth 52 = .ok (.iload_n 2, 1) := by decide +kernel
theorem dX6_courseByWidth_53 : decode cX6_courseByWidth 53 = .ok (.imul, 1) := by decide +kernel
theorem dX6_courseByWidth_54 : decode cX6_courseByWidth 54 = .ok (.iadd, 1) := by decide +kernel
theorem dX6_courseByWidth_55 : decode cX6_courseByWidth 55 = .ok (.iaload, 1) := by decide +kernel
theorem dX6_courseByWidth_56 : decode cX6_courseByWidth 56 = .ok (.isub, 1) := by decide +kernel
theorem dX6_courseByWidth_57 : decode cX6_courseByWidth 57 = .ok (.istore 5, 2) := by decide +kernel
theorem dX6_courseByWidth_59 : decode cX6_courseByWidth 59 = .ok (.iload 5, 2) := by decide +kernel
theorem dX6_courseByWidth_61 : decode cX6_courseByWidth 61 = .ok (.ifCond .eq 8, 3) := by decide +kernel
theorem dX6_courseByWidth_64 : decode cX6_courseByWidth 64 = .ok (.iload 5, 2) := by decide +kernel
theorem dX6_courseByWidth_66 : decode cX6_courseByWidth 66 = .ok (.goto 31, 3) := by decide +kernel
theorem dX6_courseByWidth_69 : decode cX6_courseByWidth 69 = .ok (.aload_n 0, 1) := by decide +kernel
theorem dX6_courseByWidth_70 : decode cX6_courseByWidth 70 = .ok (.getfield 13, 3) := by decide +kernel
theorem dX6_courseByWidth_73 : decode cX6_courseByWidth 73 = .ok (.bipush 68, 2) := by decide +kernel
theorem dX6_courseByWidth_75 : decode cX6_courseByWidth 75 = .ok (.iconst 4, 1) := by decide +kernel
theorem dX6_courseByWidth_76 : decode cX6_courseByWidth 76 = .ok (.iload_n 2, 1) := by decide +kernel
theorem dX6_courseByWidth_77 : decode cX6_courseByWidth 77 = .ok (.imul, 1) := by decide +kernel
theorem dX6_courseByWidth_78 : decode cX6_courseByWidth 78 = .ok (.iadd, 1) := by decide +kernel
theorem dX6_courseByWidth_79 : decode cX6_courseByWidth 79 = .ok (.iconst 3, 1) := by decide +kernel
theorem dX6_courseByWidth_80 : decode cX6_courseByWidth 80 = .ok (.iadd, 1) := by decide +kernel
theorem dX6_courseByWidth_81 : decode cX6_courseByWidth 81 = .ok (.iaload, 1) := by decide +kernel
theorem dX6_courseByWidth_82 : decode cX6_courseByWidth 82 = .ok (.aload_n 0, 1) := by decide +kernel
theorem dX6_courseByWidth_83 : decode cX6_courseByWidth 83 = .ok (.getfield 13, 3) := by decide +kernel
theorem dX6_courseByWidth_86 : decode cX6_courseByWidth 86 = .ok (.bipush 68, 2) := by decide +kernel
theorem dX6_courseByWidth_88 : decode cX6_courseByWidth 88 = .ok (.iconst 4, 1) := by decide +kernel
theorem dX6_courseByWidth_89 : decode cX6_courseByWidth 89 = .ok (.iload 4, 2) := by decide +kernel
theorem dX6_courseByWidth_91 : decode cX6_courseByWidth 91 = .ok (.imul, 1) := by decide +kernel
theorem dX6_courseByWidth_92 : decode cX6_courseByWidth 92 = .ok (.iadd, 1) := by decide +kernel
theorem dX6_courseByWidth_93 : decode cX6_courseByWidth 93 = .ok (.iconst 3, 1) := by decide +kernel
theorem dX6_courseByWidth_94 : decode cX6_courseByWidth 94 = .ok (.iadd, 1) := by decide +kernel
theorem dX6_courseByWidth_95 : decode cX6_courseByWidth 95 = .ok (.iaload, 1) := by decide +kernel
theorem dX6_courseByWidth_96 : decode cX6_courseByWidth 96 = .ok (.isub, 1) := by decide +kernel
theorem dX6_courseByWidth_97 : decode cX6_courseByWidth 97 = .ok (.istore 5, 2) := by decide +kernel
theorem dX6_courseByWidth_99 : decode cX6_courseByWidth 99 = .ok (.iload_n 3, 1) := by decide +kernel
theorem dX6_courseByWidth_100 : decode cX6_courseByWidth 100 = .ok (.iload 5, 2) := by decide +kernel
theorem dX6_courseByWidth_102 : decode cX6_courseByWidth 102 = .ok (.ifCond .gt 14, 3) := by decide +kernel
theorem dX6_courseByWidth_105 : decode cX6_courseByWidth 105 = .ok (.iload 5, 2) := by decide +kernel
theorem dX6_courseByWidth_107 : decode cX6_courseByWidth 107 = .ok (.ifCond .ne 13, 3) := by decide +kernel
theorem dX6_courseByWidth_110 : decode cX6_courseByWidth 110 = .ok (.iload 4, 2) := by decide +kernel
theorem dX6_courseByWidth_112 : decode cX6_courseByWidth 112 = .ok (.iload_n 2, 1) := by decide +kernel
theorem dX6_courseByWidth_113 : decode cX6_courseByWidth 113 = .ok (.if_icmp .ge 7, 3) := by decide +kernel
theorem dX6_courseByWidth_116 : decode cX6_courseByWidth 116 = .ok (.iconst 1, 1) := by decide +kernel
theorem dX6_courseByWidth_117 : decode cX6_courseByWidth 117 = .ok (.goto 4, 3) := by decide +kernel
theorem dX6_courseByWidth_120 : decode cX6_courseByWidth 120 = .ok (.iconst 0, 1) := by decide +kernel
theorem dX6_courseByWidth_121 : decode cX6_courseByWidth 121 = .ok (.iadd, 1) := by decide +kernel
theorem dX6_courseByWidth_122 : decode cX6_courseByWidth 122 = .ok (.istore_n 3, 1) := by decide +kernel
theorem dX6_courseByWidth_123 : decode cX6_courseByWidth 123 = .ok (.iinc 4 1, 3) := by decide +kernel
theorem dX6_courseByWidth_126 : decode cX6_courseByWidth 126 = .ok (.goto (-104), 3) := by decide +kernel
theorem dX6_courseByWidth_129 : decode cX6_courseByWidth 129 = .ok (.iload_n 3, 1) := by decide +kernel
theorem dX6_courseByWidth_130 : decode cX6_courseByWidth 130 = .ok (.iload_n 1, 1) := by decide +kernel
theorem dX6_courseByWidth_131 : decode cX6_courseByWidth 131 = .ok (.if_icmp .ne 5, 3) := by decide +kernel
theorem dX6_courseByWidth_134 : decode cX6_courseByWidth 134 = .ok (.iload_n 2, 1) := by decide +kernel
theorem dX6_courseByWidth_135 : decode cX6_courseByWidth 135 = .ok (.ireturn, 1) := by decide +kernel
theorem dX6_courseByWidth_136 : decode cX6_courseByWidth 136 = .ok (.iinc 2 1, 3) := by decide +kernel
theorem dX6_courseByWidth_139 : decode cX6_courseByWidth 139 = .ok (.goto (-132), 3) := by decide +kernel
theorem dX6_courseByWidth_142 : decode cX6_courseByWidth 142 = .ok (.aload_n 0, 1) := by decide +kernel
theorem dX6_courseByWidth_143 : decode cX6_courseByWidth 143 = .ok (.iconst 1, 1) := by decide +kernel
theorem dX6_courseByWidth_144 : decode cX6_courseByWidth 144 = .ok (.invokevirtual 51, 3) := by decide +kernel
theorem dX6_courseByWidth_147 : decode cX6_courseByWidth 147 = .ok (.ireturn, 1) := by decide +kernel
theorem dX6_feederByYarn_0 : decode cX6_feederByYarn 0 = .ok (.aload_n 0, 1) := by decide +kernel
theorem dX6_feederByYarn_1 : decode cX6_feederByYarn 1 = .ok (.iconst 0, 1) := by decide +kernel
theorem dX6_feederByYarn_2 : decode cX6_feederByYarn 2 = .ok (.putfield 35, 3) := by decide +kernel
theorem dX6_feederByYarn_5 : decode cX6_feederByYarn 5 = .ok (.iconst 0, 1) := by decide +kernel
theorem dX6_feederByYarn_6 : decode cX6_feederByYarn 6 = .ok (.istore_n 2, 1) := by decide +kernel
theorem dX6_feederByYarn_7 : decode cX6_feederByYarn 7 = .ok (.iload_n 2, 1) := by decide +kernel
theorem dX6_feederByYarn_8 : decode cX6_feederByYarn 8 = .ok (.iconst 4, 1) := by decide +kernel
theorem dX6_feederByYarn_9 : decode cX6_feederByYarn 9 = .ok (.if_icmp .ge 91, 3) := by decide +kernel
theorem dX6_feederByYarn_12 : decode cX6_feederByYarn 12 = .ok (.iconst 0, 1) := by decide +kernel
theorem dX6_feederByYarn_13 : decode cX6_feederByYarn 13 = .ok (.istore_n 3, 1) := by decide +kernel
theorem dX6_feederByYarn_14 : decode cX6_feederByYarn 14 = .ok (.iconst 0, 1) := by decide +kernel
theorem dX6_feederByYarn_15 : decode cX6_feederByYarn 15 = .ok (.istore 4, 2) := by decide +kernel
theorem dX6_feederByYarn_17 : decode cX6_feederByYarn 17 = .ok (.iload 4, 2) := by decide +kernel
theorem dX6_feederByYarn_19 : decode cX6_feederByYarn 19 = .ok (.iconst 4, 1) := by decide +kernel
theorem dX6_feederByYarn_20 : decode cX6_feederByYarn 20 = .ok (.if_icmp .ge 67, 3) := by decide +kernel
theorem dX6_feederByYarn_23 : decode cX6_feederByYarn 23 = .ok (.iload_n 3, 1) := by decide +kernel
theorem dX6_feederByYarn_24 : decode cX6_feederByYarn 24 = .ok (.aload_n 0, 1) := by decide +kernel
theorem dX6_feederByYarn_25 : decode cX6_feederByYarn 25 = .ok (.getfield 13, 3) := by decide +kernel
theorem dX6_feederByYarn_28 : decode cX6_feederByYarn 28 = .ok (.bipush 58, 2) := by decide +kernel
theorem dX6_feederByYarn_30 : decode cX6_feederByYarn 30 = .ok (.iload 4, 2) := by decide +kernel
theorem dX6_feederByYarn_32 : decode cX6_feederByYarn 32 = .ok (.iadd, 1) := by decide +kernel
theorem dX6_feederByYarn_33 : decode cX6_feederByYarn 33 = .ok (.iaload, 1) := by decide +kernel
theorem dX6_feederByYarn_34 : decode cX6_feederByYarn 34 = .ok (.aload_n 0, 1) := by decide +kernel
theorem dX6_feederByYarn_35 : decode cX6_feederByYarn 35 = .ok (.getfield 13, 3) := by decide +kernel
theorem dX6_feederByYarn_38 : decode cX6_feederByYarn 38 = .ok (.bipush 58, 2) := by decide +kernel
theorem dX6_feederByYarn_40 : decode cX6_feederByYarn 40 = .ok (.iload_n 2, 1) := by decide +kernel
theorem dX6_feederByYarn_41 : decode cX6_feederByYarn 41 = .ok (.iadd, 1) := by decide +kernel
theorem dX6_feederByYarn_42 : decode cX6_feederByYarn 42 = .ok (.iaload, 1) := by decide +kernel
theorem dX6_feederByYarn_43 : decode cX6_feederByYarn 43 = .ok (.if_icmp .gt 31, 3) := by decide +kernel
theorem dX6_feederByYarn_46 : decode cX6_feederByYarn 46 = .ok (.aload_n 0, 1) := by decide +kernel
theorem dX6_feederByYarn_47 : decode cX6_feederByYarn 47 = .ok (.getfield 13, 3) := by decide +kernel
theorem dX6_feederByYarn_50 : decode cX6_feederByYarn 50 = .ok (.bipush 58, 2) := by decide +kernel
theorem dX6_feederByYarn_52 : decode cX6_feederByYarn 52 = .ok (.iload 4, 2) := by decide +kernel
theorem dX6_feederByYarn_54 : decode cX6_feederByYarn 54 = .ok (.iadd, 1) := by decide +kernel
theorem dX6_feederByYarn_55 : decode cX6_feederByYarn 55 = .ok (.iaload, 1) := by decide +kernel
theorem dX6_feederByYarn_56 : decode cX6_feederByYarn 56 = .ok (.aload_n 0, 1) := by decide +kernel
theorem dX6_feederByYarn_57 : decode cX6_feederByYarn 57 = .ok (.getfield 13, 3) := by decide +kernel
theorem dX6_feederByYarn_60 : decode cX6_feederByYarn 60 = .ok (.bipush 58, 2) := by decide +kernel
theorem dX6_feederByYarn_62 : decode cX6_feederByYarn 62 = .ok (.iload_n 2, 1) := by decide +kernel
theorem dX6_feederByYarn_63 : decode cX6_feederByYarn 63 = .ok (.iadd, 1) := by decide +kernel
theorem dX6_feederByYarn_64 : decode cX6_feederByYarn 64 = .ok (.iaload, 1) := by decide +kernel
theorem dX6_feederByYarn_65 : decode cX6_feederByYarn 65 = .ok (.if_icmp .ne 13, 3) := by decide +kernel
theorem dX6_feederByYarn_68 : decode cX6_feederByYarn 68 = .ok (.iload 4, 2) := by decide +kernel
theorem dX6_feederByYarn_70 : decode cX6_feederByYarn 70 = .ok (.iload_n 2, 1) := by decide +kernel
theorem dX6_feederByYarn_71 : decode cX6_feederByYarn 71 = .ok (.if_icmp .ge 7, 3) := by decide +kernel
theorem dX6_feederByYarn_74 : decode cX6_feederByYarn 74 = .ok (.iconst 1, 1) := by decide +kernel
theorem dX6_feederByYarn_75 : decode cX6_feederByYarn 75 = .ok (.goto 4, 3) := by decide +kernel
theorem dX6_feederByYarn_78 : decode cX6_feederByYarn 78 = .ok (.iconst 0, 1) := by decide +kernel
theorem dX6_feederByYarn_79 : decode cX6_feederByYarn 79 = .ok (.iadd, 1) := by decide +kernel
theorem dX6_feederByYarn_80 : decode cX6_feederByYarn 80 = .ok (.istore_n 3, 1) := by decide +kernel
theorem dX6_feederByYarn_81 : decode cX6_feederByYarn 81 = .ok (.iinc 4 1, 3) := by decide +kernel
theorem dX6_feederByYarn_84 : decode cX6_feederByYarn 84 = .ok (.goto (-67), 3) := by decide +kernel
theorem dX6_feederByYarn_87 : decode cX6_feederByYarn 87 = .ok (.iload_n 3, 1) := by decide +kernel
theorem dX6_feederByYarn_88 : decode cX6_feederByYarn 88 = .ok (.iload_n 1, 1) := by decide +kernel
theorem dX6_feederByYarn_89 : decode cX6_feederByYarn 89 = .ok (.if_icmp .ne 5, 3) := by decide +kernel
theorem dX6_feederByYarn_92 : decode cX6_feederByYarn 92 = .ok (.iload_n 2, 1) := by decide +kernel
theorem dX6_feederByYarn_93 : decode cX6_feederByYarn 93 = .ok (.ireturn, 1) := by decide +kernel
theorem dX6_feederByYarn_94 : decode cX6_feederByYarn 94 = .ok (.iinc 2 1, 3) := by decide +kernel
theorem dX6_feederByYarn_97 : decode cX6_feederByYarn 97 = .ok (.goto (-90), 3) := by decide +kernel
theorem dX6_feederByYarn_100 : decode cX6_feederByYarn 100 = .ok (.aload_n 0, 1) := by decide +kernel
theorem dX6_feederByYarn_101 : decode cX6_feederByYarn 101 = .ok (.iconst 1, 1) := by decide +kernel
theorem dX6_feederByYarn_102 : decode cX6_feederByYarn 102 = .ok (.invokevirtual 51, 3) := by decide +kernel
theorem dX6_feederByYarn_105 : decode cX6_feederByYarn 105 = .ok (.ireturn, 1) := by decide +kernel
theorem dX6_stitches_0 : decode cX6_stitches 0 = .ok (.iconst 0, 1) := by decide +kernel
theorem dX6_stitches_1 : decode cX6_stitches 1 = .ok (.istore_n 1, 1) := by decide +kernel
theorem dX6_stitches_2 : decode cX6_stitches 2 = .ok (.iconst 0, 1) := by decide +kernel
theorem dX6_stitches_3 : decode cX6_stitches 3 = .ok (.istore_n 2, 1) := by decide +kernel
theorem dX6_stitches_4 : decode cX6_stitches 4 = .ok (.iload_n 2, 1) := by decide +kernel
theorem dX6_stitches_5 : decode cX6_stitches 5 = .ok (.aload_n 0, 1) := by decide +kernel
theorem dX6_stitches_6 : decode cX6_stitches 6 = .ok (.getfield 13, 3) := by decide +kernel
theorem dX6_stitches_9 : decode cX6_stitches 9 = .ok (.iconst 5, 1) := by decide +kernel
theorem dX6_stitches_10 : decode cX6_stitches 10 = .ok (.iaload, 1) := by decide +kernel
theorem dX6_stitches_11 : decode cX6_stitches 11 = .ok (.if_icmp .ge 23, 3) := by decide +kernel
theorem dX6_stitches_14 : decode cX6_stitches 14 = .ok (.iload_n 1, 1) := by decide +kernel
theorem dX6_stitches_15 : decode cX6_stitches 15 = .ok (.aload_n 0, 1) := by decide +kernel
theorem dX6_stitches_16 : decode cX6_stitches 16 = .ok (.getfield 13, 3) := by decide +kernel
theorem dX6_stitches_19 : decode cX6_stitches 19 = .ok (.bipush 68, 2) := by decide +kernel
theorem dX6_stitches_21 : decode cX6_stitches 21 = .ok (.iconst 4, 1) := by decide +kernel
theorem dX6_stitches_22 : decode cX6_stitches 22 = .ok (.iload_n 2, 1) := by decide +kernel
theorem dX6_stitches_23 : decode cX6_stitches 23 = .ok (.imul, 1) := by decide +kernel
theorem dX6_stitches_24 : decode cX6_stitches 24 = .ok (.iadd, 1) := by decide +kernel
theorem dX6_stitches_25 : decode cX6_stitches 25 = .ok (.iaload, 1) := by decide +kernel
theorem dX6_stitches_26 : decode cX6_stitches 26 = .ok (.iadd, 1) := by decide +kernel
theorem dX6_stitches_27 : decode cX6_stitches 27 = .ok (.istore_n 1, 1) := by decide +kernel
theorem dX6_stitches_28 : decode cX6_stitches 28 = .ok (.iinc 2 1, 3) := by decide +kernel
theorem dX6_stitches_31 : decode cX6_stitches 31 = .ok (.goto (-27), 3) := by decide +kernel
theorem dX6_stitches_34 : decode cX6_stitches 34 = .ok (.iload_n 1, 1) := by decide +kernel
theorem dX6_stitches_35 : decode cX6_stitches 35 = .ok (.ireturn, 1) := by decide +kernel
theorem dX6_stitchCount_0 : decode cX6_stitchCount 0 = .ok (.aload_n 0, 1) := by decide +kernel
theorem dX6_stitchCount_1 : decode cX6_stitchCount 1 = .ok (.iconst 0, 1) := by decide +kernel
theorem dX6_stitchCount_2 : decode cX6_stitchCount 2 = .ok (.putfield 35, 3) := by decide +kernel
theorem dX6_stitchCount_5 : decode cX6_stitchCount 5 = .ok (.aload_n 0, 1) := by decide +kernel
theorem dX6_stitchCount_6 : decode cX6_stitchCount 6 = .ok (.invokevirtual 169, 3) := by decide +kernel
theorem dX6_stitchCount_9 : decode cX6_stitchCount 9 = .ok (.ireturn, 1) := by decide +kernel
theorem dX6_finishedShawls_0 : decode cX6_finishedShawls 0 = .ok (.aload_n 0, 1) := by decide +kernel
theorem dX6_finishedShawls_1 : decode cX6_finishedShawls 1 = .ok (.iconst 0, 1) := by decide +kernel
theorem dX6_finishedShawls_2 : decode cX6_finishedShawls 2 = .ok (.putfield 35, 3) := by decide +kernel
theorem dX6_finishedShawls_5 : decode cX6_finishedShawls 5 = .ok (.aload_n 0, 1) := by decide +kernel
theorem dX6_finishedShawls_6 : decode cX6_finishedShawls 6 = .ok (.getfield 13, 3) := by decide +kernel
theorem dX6_finishedShawls_9 : decode cX6_finishedShawls 9 = .ok (.bipush 6, 2) := by decide +kernel
theorem dX6_finishedShawls_11 : decode cX6_finishedShawls 11 = .ok (.iaload, 1) := by decide +kernel
theorem dX6_finishedShawls_12 : decode cX6_finishedShawls 12 = .ok (.ireturn, 1) := by decide +kernel
theorem dX6_yarnAdded_0 : decode cX6_yarnAdded 0 = .ok (.aload_n 0, 1) := by decide +kernel
theorem dX6_yarnAdded_1 : decode cX6_yarnAdded 1 = .ok (.iconst 0, 1) := by decide +kernel
theorem dX6_yarnAdded_2 : decode cX6_yarnAdded 2 = .ok (.putfield 35, 3) := by decide +kernel
theorem dX6_yarnAdded_5 : decode cX6_yarnAdded 5 = .ok (.aload_n 0, 1) := by decide +kernel
theorem dX6_yarnAdded_6 : decode cX6_yarnAdded 6 = .ok (.getfield 13, 3) := by decide +kernel
theorem dX6_yarnAdded_9 : decode cX6_yarnAdded 9 = .ok (.bipush 7, 2) := by decide +kernel
theorem dX6_yarnAdded_11 : decode cX6_yarnAdded 11 = .ok (.iaload, 1) := by decide +kernel
theorem dX6_yarnAdded_12 : decode cX6_yarnAdded 12 = .ok (.ireturn, 1) := by decide +kernel
theorem dX6_yarnUsed_0 : decode cX6_yarnUsed 0 = .ok (.aload_n 0, 1) := by decide +kernel
theorem dX6_yarnUsed_1 : decode cX6_yarnUsed 1 = .ok (.iconst 0, 1) := by decide +kernel
theorem dX6_yarnUsed_2 : decode cX6_yarnUsed 2 = .ok (.putfield 35, 3) := by decide +kernel
theorem dX6_yarnUsed_5 : decode cX6_yarnUsed 5 = .ok (.aload_n 0, 1) := by decide +kernel
theorem dX6_yarnUsed_6 : decode cX6_yarnUsed 6 = .ok (.getfield 13, 3) := by decide +kernel
theorem dX6_yarnUsed_9 : decode cX6_yarnUsed 9 = .ok (.bipush 8, 2) := by decide +kernel
theorem dX6_yarnUsed_11 : decode cX6_yarnUsed 11 = .ok (.iaload, 1) := by decide +kernel
theorem dX6_yarnUsed_12 : decode cX6_yarnUsed 12 = .ok (.ireturn, 1) := by decide +kernel
theorem dX6_droppedLoops_0 : decode cX6_droppedLoops 0 = .ok (.aload_n 0, 1) := by decide +kernel
theorem dX6_droppedLoops_1 : decode cX6_droppedLoops 1 = .ok (.iconst 0, 1) := by decide +kernel
theorem dX6_droppedLoops_2 : decode cX6_droppedLoops 2 = .ok (.putfield 35, 3) := by decide +kernel
theorem dX6_droppedLoops_5 : decode cX6_droppedLoops 5 = .ok (.aload_n 0, 1) := by decide +kernel
theorem dX6_droppedLoops_6 : decode cX6_droppedLoops 6 = .ok (.getfield 13, 3) := by decide +kernel
theorem dX6_droppedLoops_9 : decode cX6_droppedLoops 9 = .ok (.bipush 9, 2) := by decide +kernel
theorem dX6_droppedLoops_11 : decode cX6_droppedLoops 11 = .ok (.iaload, 1) := by decide +kernel
theorem dX6_droppedLoops_12 : decode cX6_droppedLoops 12 = .ok (.ireturn, 1) := by decide +kernel
theorem dX6_meanWidth_0 : decode cX6_meanWidth 0 = .ok (.aload_n 0, 1) := by decide +kernel
theorem dX6_meanWidth_1 : decode cX6_meanWidth 1 = .ok (.aload_n 0, 1) := by decide +kernel
theorem dX6_meanWidth_2 : decode cX6_meanWidth 2 = .ok (.getfield 13, 3) := by decide +kernel
theorem dX6_meanWidth_5 : decode cX6_meanWidth 5 = .ok (.iconst 5, 1) := by decide +kernel
theorem dX6_meanWidth_6 : decode cX6_meanWidth 6 = .ok (.iaload, 1) := by decide +kernel
theorem dX6_meanWidth_7 : decode cX6_meanWidth 7 = .ok (.ifCond .ne 7, 3) := by decide +kernel
theorem dX6_meanWidth_10 : decode cX6_meanWidth 10 = .ok (.iconst 1, 1) := by decide +kernel
theorem dX6_meanWidth_11 : decode cX6_meanWidth 11 = .ok (.goto 4, 3) := by decide +kernel
theorem dX6_meanWidth_14 : decode cX6_meanWidth 14 = .ok (.iconst 0, 1) := by decide +kernel
theorem dX6_meanWidth_15 : decode cX6_meanWidth 15 = .ok (.putfield 35, 3) := by decide +kernel
theorem dX6_meanWidth_18 : decode cX6_meanWidth 18 = .ok (.aload_n 0, 1) := by decide +kernel
theorem dX6_meanWidth_19 : decode cX6_meanWidth 19 = .ok (.getfield 35, 3) := by decide +kernel
theorem dX6_meanWidth_22 : decode cX6_meanWidth 22 = .ok (.ifCond .ne 19, 3) := by decide +kernel
theorem dX6_meanWidth_25 : decode cX6_meanWidth 25 = .ok (.aload_n 0, 1) := by decide +kernel
theorem dX6_meanWidth_26 : decode cX6_meanWidth 26 = .ok (.invokevirtual 169, 3) := by decide +kernel
theorem dX6_meanWidth_29 : decode cX6_meanWidth 29 = .ok (.i2d, 1) := by decide +kernel
theorem dX6_meanWidth_30 : decode cX6_meanWidth 30 = .ok (.aload_n 0, 1) := by decide +kernel
theorem dX6_meanWidth_31 : decode cX6_meanWidth 31 = .ok (.getfield 13, 3) := by decide +kernel
theorem dX6_meanWidth_34 : decode cX6_meanWidth 34 = .ok (.iconst 5, 1) := by decide +kernel
theorem dX6_meanWidth_35 : decode cX6_meanWidth 35 = .ok (.iaload, 1) := by decide +kernel
theorem dX6_meanWidth_36 : decode cX6_meanWidth 36 = .ok (.i2d, 1) := by decide +kernel
theorem dX6_meanWidth_37 : decode cX6_meanWidth 37 = .ok (.ddiv, 1) := by decide +kernel
theorem dX6_meanWidth_38 : decode cX6_meanWidth 38 = .ok (.goto 4, 3) := by decide +kernel
theorem dX6_meanWidth_41 : decode cX6_meanWidth 41 = .ok (.dconst 0, 1) := by decide +kernel
theorem dX6_meanWidth_42 : decode cX6_meanWidth 42 = .ok (.dreturn, 1) := by decide +kernel
theorem dX6_droppedShare_0 : decode cX6_droppedShare 0 = .ok (.aload_n 0, 1) := by decide +kernel
theorem dX6_droppedShare_1 : decode cX6_droppedShare 1 = .ok (.aload_n 0, 1) := by decide +kernel
theorem dX6_droppedShare_2 : decode cX6_droppedShare 2 = .ok (.getfield 13, 3) := by decide +kernel
theorem dX6_droppedShare_5 : decode cX6_droppedShare 5 = .ok (.iconst 0, 1) := by decide +kernel
theorem dX6_droppedShare_6 : decode cX6_droppedShare 6 = .ok (.iaload, 1) := by decide +kernel
theorem dX6_droppedShare_7 : decode cX6_droppedShare 7 = .ok (.ifCond .ne 7, 3) := by decide +kernel
theorem dX6_droppedShare_10 : decode cX6_droppedShare 10 = .ok (.iconst 1, 1) := by decide +kernel
theorem dX6_droppedShare_11 : decode cX6_droppedShare 11 = .ok (.goto 4, 3) := by decide +kernel
theorem dX6_droppedShare_14 : decode cX6_droppedShare 14 = .ok (.iconst 0, 1) := by decide +kernel
theorem dX6_droppedShare_15 : decode cX6_droppedShare 15 = .ok (.putfield 35, 3) := by decide +kernel
theorem dX6_droppedShare_18 : decode cX6_droppedShare 18 = .ok (.iconst 0, 1) := by decide +kernel
theorem dX6_droppedShare_19 : decode cX6_droppedShare 19 = .ok (.istore_n 1, 1) := by decide +kernel
theorem dX6_droppedShare_20 : decode cX6_droppedShare 20 = .ok (.iconst 0, 1) := by decide +kernel
theorem dX6_droppedShare_21 : decode cX6_droppedShare 21 = .ok (.istore_n 2, 1) := by decide +kernel
theorem dX6_droppedShare_22 : decode cX6_droppedShare 22 = .ok (.iload_n 2, 1) := by decide +kernel
theorem dX6_droppedShare_23 : decode cX6_droppedShare 23 = .ok (.bipush 24, 2) := by decide +kernel
theorem dX6_droppedShare_25 : decode cX6_droppedShare 25 = .ok (.if_icmp .ge 37, 3) := by decide +kernel
theorem dX6_droppedShare_28 : decode cX6_droppedShare 28 = .ok (.iload_n 1, 1) := by decide +kernel
theorem dX6_droppedShare_29 : decode cX6_droppedShare 29 = .ok (.aload_n 0, 1) := by decide +kernel
theorem dX6_droppedShare_30 : decode cX6_droppedShare 30 = .ok (.iload_n 2, 1) := by decide +kernel
theorem dX6_droppedShare_31 : decode cX6_droppedShare 31 = .ok (.invokevirtual 70, 3) := by decide +kernel
theorem dX6_droppedShare_34 : decode cX6_droppedShare 34 = .ok (.ifCond .eq 19, 3) := by decide +kernel
theorem dX6_droppedShare_37 : decode cX6_droppedShare 37 = .ok (.aload_n 0, 1) := by decide +kernel
theorem dX6_droppedShare_38 : decode cX6_droppedShare 38 = .ok (.getfield 13, 3) := by decide +kernel
theorem dX6_droppedShare_41 : decode cX6_droppedShare 41 = .ok (.bipush 10, 2) := by decide +kernel
theorem dX6_droppedShare_43 : decode cX6_droppedShare 43 = .ok (.iload_n 2, 1) := by decide +kernel
theorem dX6_droppedShare_44 : decode cX6_droppedShare 44 = .ok (.iadd, 1) := by decide +kernel
theorem dX6_droppedShare_45 : decode cX6_droppedShare 45 = .ok (.iaload, 1) := by decide +kernel
theorem dX6_droppedShare_46 : decode cX6_droppedShare 46 = .ok (.ifCond .ne 7, 3) := by decide +kernel
theorem dX6_droppedShare_49 : decode cX6_droppedShare 49 = .ok (.iconst 1, 1) := by decide +kernel
theorem dX6_droppedShare_50 : decode cX6_droppedShare 50 = .ok (.goto 4, 3) := by decide +kernel
theorem dX6_droppedShare_53 : decode cX6_droppedShare 53 = .ok (.iconst 0, 1) := by decide +kernel
theorem dX6_droppedShare_54 : decode cX6_droppedShare 54 = .ok (.iadd, 1) := by decide +kernel
theorem dX6_droppedShare_55 : decode cX6_droppedShare 55 = .ok (.istore_n 1, 1) := by decide +kernel
theorem dX6_droppedShare_56 : decode cX6_droppedShare 56 = .ok (.iinc 2 1, 3) := by decide +kernel
theorem dX6_droppedShare_59 : decode cX6_droppedShare 59 = .ok (.goto (-37), 3) := by decide +kernel
theorem dX6_droppedShare_62 : decode cX6_droppedShare 62 = .ok (.aload_n 0, 1) := by decide +kernel
theorem dX6_droppedShare_63 : decode cX6_droppedShare 63 = .ok (.getfield 35, 3) := by decide +kernel
theorem dX6_droppedShare_66 : decode cX6_droppedShare 66 = .ok (.ifCond .ne 19, 3) := by decide +kernel
theorem dX6_droppedShare_69 : decode cX6_droppedShare 69 = .ok (.iload_n 1, 1) := by decide +kernel
theorem dX6_droppedShare_70 : decode cX6_droppedShare 70 = .ok (.i2f, 1) := by decide +kernel
theorem dX6_droppedShare_71 : decode cX6_droppedShare 71 = .ok (.aload_n 0, 1) := by decide +kernel
theorem dX6_droppedShare_72 : decode cX6_droppedShare 72 = .ok (.getfield 13, 3) := by decide +kernel
theorem dX6_droppedShare_75 : decode cX6_droppedShare 75 = .ok (.iconst 0, 1) := by decide +kernel
theorem dX6_droppedShare_76 : decode cX6_droppedShare 76 = .ok (.iaload, 1) := by decide +kernel
theorem dX6_droppedShare_77 : decode cX6_droppedShare 77 = .ok (.invokestatic 81, 3) := by decide +kernel
theorem dX6_droppedShare_80 : decode cX6_droppedShare 80 = .ok (.i2f, 1) := by decide +kernel
theorem dX6_droppedShare_81 : decode cX6_droppedShare 81 = .ok (.fdiv, 1) := by decide +kernel
theorem dX6_droppedShare_82 : decode cX6_droppedShare 82 = .ok (.goto 4, 3) := by decide +kernel
theorem dX6_droppedShare_85 : decode cX6_droppedShare 85 = .ok (.fconst 0, 1) := by decide +kernel
theorem dX6_droppedShare_86 : decode cX6_droppedShare 86 = .ok (.freturn, 1) := by decide +kernel
theorem dX6_isConsistent_0 : decode cX6_isConsistent 0 = .ok (.aload_n 0, 1) := by decide +kernel
theorem dX6_isConsistent_1 : decode cX6_isConsistent 1 = .ok (.iconst 0, 1) := by decide +kernel
theorem dX6_isConsistent_2 : decode cX6_isConsistent 2 = .ok (.putfield 35, 3) := by decide +kernel
theorem dX6_isConsistent_5 : decode cX6_isConsistent 5 = .ok (.aload_n 0, 1) := by decide +kernel
theorem dX6_isConsistent_6 : decode cX6_isConsistent 6 = .ok (.getfield 13, 3) := by decide +kernel
theorem dX6_isConsistent_9 : decode cX6_isConsistent 9 = .ok (.bipush 8, 2) := by decide +kernel
theorem dX6_isConsistent_11 : decode cX6_isConsistent 11 = .ok (.iaload, 1) := by decide +kernel
theorem dX6_isConsistent_12 : decode cX6_isConsistent 12 = .ok (.istore_n 1, 1) := by decide +kernel
theorem dX6_isConsistent_13 : decode cX6_isConsistent 13 = .ok (.iconst 0, 1) := by decide +kernel
theorem dX6_isConsistent_14 : decode cX6_isConsistent 14 = .ok (.istore_n 2, 1) := by decide +kernel
theorem dX6_isConsistent_15 : decode cX6_isConsistent 15 = .ok (.iload_n 2, 1) := by decide +kernel
theorem dX6_isConsistent_16 : decode cX6_isConsistent 16 = .ok (.iconst 4, 1) := by decide +kernel
theorem dX6_isConsistent_17 : decode cX6_isConsistent 17 = .ok (.if_icmp .ge 21, 3) := by decide +kernel
theorem dX6_isConsistent_20 : decode cX6_isConsistent 20 = .ok (.iload_n 1, 1) := by decide +kernel
theorem dX6_isConsistent_21 : decode cX6_isConsistent 21 = .ok (.aload_n 0, 1) := by decide +kernel
theorem dX6_isConsistent_22 : decode cX6_isConsistent 22 = .ok (.getfield 13, 3) := by decide +kernel
theorem dX6_isConsistent_25 : decode cX6_isConsistent 25 = .ok (.bipush 58, 2) := by decide +kernel
theorem dX6_isConsistent_27 : decode cX6_isConsistent 27 = .ok (.iload_n 2, 1) := by decide +kernel
theorem dX6_isConsistent_28 : decode cX6_isConsistent 28 = .ok (.iadd, 1) := by decide +kernel
theorem dX6_isConsistent_29 : decode cX6_isConsistent 29 = .ok (.iaload, 1) := by decide +kernel
theorem dX6_isConsistent_30 : decode cX6_isConsistent 30 = .ok (.iadd, 1) := by decide +kernel
theorem dX6_isConsistent_31 : decode cX6_isConsistent 31 = .ok (.istore_n 1, 1) := by decide +kernel
theorem dX6_isConsistent_32 : decode cX6_isConsistent 32 = .ok (.iinc 2 1, 3) := by decide +kernel
theorem dX6_isConsistent_35 : decode cX6_isConsistent 35 = .ok (.goto (-20), 3) := by decide +kernel
theorem dX6_isConsistent_38 : decode cX6_isConsistent 38 = .ok (.iload_n 1, 1) := by decide +kernel
theorem dX6_isConsistent_39 : decode cX6_isConsistent 39 = .ok (.aload_n 0, 1) := by decide +kernel
theorem dX6_isConsistent_40 : decode cX6_isConsistent 40 = .ok (.getfield 13, 3) := by decide +kernel
theorem dX6_isConsistent_43 : decode cX6_isConsistent 43 = .ok (.bipush 7, 2) := by decide +kernel
theorem dX6_isConsistent_45 : decode cX6_isConsistent 45 = .ok (.iaload, 1) := by decide +kernel
theorem dX6_isConsistent_46 : decode cX6_isConsistent 46 = .ok (.if_icmp .ne 25, 3) := by decide +kernel
theorem dX6_isConsistent_49 : decode cX6_isConsistent 49 = .ok (.aload_n 0, 1) := by decide +kernel
theorem dX6_isConsistent_50 : decode cX6_isConsistent 50 = .ok (.getfield 13, 3) := by decide +kernel
theorem dX6_isConsistent_53 : decode cX6_isConsistent 53 = .ok (.iconst 1, 1) := by decide +kernel
theorem dX6_isConsistent_54 : decode cX6_isConsistent 54 = .ok (.iaload, 1) := by decide +kernel
theorem dX6_isConsistent_55 : decode cX6_isConsistent 55 = .ok (.aload_n 0, 1) := by decide +kernel
theorem dX6_isConsistent_56 : decode cX6_isConsistent 56 = .ok (.getfield 13, 3) := by decide +kernel
theorem dX6_isConsistent_59 : decode cX6_isConsistent 59 = .ok (.iconst 0, 1) := by decide +kernel
theorem dX6_isConsistent_60 : decode cX6_isConsistent 60 = .ok (.iaload, 1) := by decide +kernel
theorem dX6_isConsistent_61 : decode cX6_isConsistent 61 = .ok (.iconst (-1), 1) := by decide +kernel
theorem dX6_isConsistent_62 : decode cX6_isConsistent 62 = .ok (.ixor, 1) := by decide +kernel
theorem dX6_isConsistent_63 : decode cX6_isConsistent 63 = .ok (.iand, 1) := by decide +kernel
theorem dX6_isConsistent_64 : decode cX6_isConsistent 64 = .ok (.ifCond .ne 7, 3) := by decide +kernel
theorem dX6_isConsistent_67 : decode cX6_isConsistent 67 = .ok (.iconst 1, 1) := by decide +kernel
theorem dX6_isConsistent_68 : decode cX6_isConsistent 68 = .ok (.goto 4, 3) := by decide +kernel
theorem dX6_isConsistent_71 : decode cX6_isConsistent 71 = .ok (.iconst 0, 1) := by decide +kernel
theorem dX6_isConsistent_72 : decode cX6_isConsistent 72 = .ok (.ireturn, 1) := by decide +kernel
theorem dX6_writes_0 : decode cX6_writes 0 = .ok (.aload_n 0, 1) := by decide +kernel
theorem dX6_writes_1 : decode cX6_writes 1 = .ok (.getfield 32, 3) := by decide +kernel
theorem dX6_writes_4 : decode cX6_writes 4 = .ok (.aload_n 0, 1) := by decide +kernel
theorem dX6_writes_5 : decode cX6_writes 5 = .ok (.getfield 172, 3) := by decide +kernel
theorem dX6_writes_8 : decode cX6_writes 8 = .ok (.iload_n 1, 1) := by decide +kernel
theorem dX6_writes_9 : decode cX6_writes 9 = .ok (.iastore, 1) := by decide +kernel
theorem dX6_writes_10 : decode cX6_writes 10 = .ok (.aload_n 0, 1) := by decide +kernel
theorem dX6_writes_11 : decode cX6_writes 11 = .ok (.dup, 1) := by decide +kernel
theorem dX6_writes_12 : decode cX6_writes 12 = .ok (.getfield 172, 3) := by decide +kernel
theorem dX6_writes_15 : decode cX6_writes 15 = .ok (.iconst 1, 1) := by decide +kernel
theorem dX6_writes_16 : decode cX6_writes 16 = .ok (.iadd, 1) := by decide +kernel
theorem dX6_writes_17 : decode cX6_writes 17 = .ok (.putfield 172, 3) := by decide +kernel
theorem dX6_writes_20 : decode cX6_writes 20 = .ok (.return_, 1) := by decide +kernel
theorem dX6_writesNumber_0 : decode cX6_writesNumber 0 = .ok (.iconst 1, 1) := by decide +kernel
theorem dX6_writesNumber_1 : decode cX6_writesNumber 1 = .ok (.istore_n 2, 1) := by decide +kernel
theorem dX6_writesNumber_2 : decode cX6_writesNumber 2 = .ok (.iload_n 1, 1) := by decide +kernel
theorem dX6_writesNumber_3 : decode cX6_writesNumber 3 = .ok (.iload_n 2, 1) := by decide +kernel
theorem dX6_writesNumber_4 : decode cX6_writesNumber 4 = .ok (.idiv, 1) := by decide +kernel
theorem dX6_writesNumber_5 : decode cX6_writesNumber 5 = .ok (.bipush 10, 2) := by decide +kernel
theorem dX6_writesNumber_7 : decode cX6_writesNumber 7 = .ok (.if_icmp .lt 11, 3) := by decide +kernel
theorem dX6_writesNumber_10 : decode cX6_writesNumber 10 = .ok (.iload_n 2, 1) := by decide +kernel
theorem dX6_writesNumber_11 : decode cX6_writesNumber 11 = .ok (.bipush 10, 2) := by decide +kernel
theorem dX6_writesNumber_13 : decode cX6_writesNumber 13 = .ok (.imul, 1) := by decide +kernel
theorem dX6_writesNumber_14 : decode cX6_writesNumber 14 = .ok (.istore_n 2, 1) := by decide +kernel
theorem dX6_writesNumber_15 : decode cX6_writesNumber 15 = .ok (.goto (-13), 3) := by decide +kernel
theorem dX6_writesNumber_18 : decode cX6_writesNumber 18 = .ok (.iload_n 2, 1) := by decide +kernel
theorem dX6_writesNumber_19 : decode cX6_writesNumber 19 = .ok (.ifCond .le 24, 3) := by decide +kernel
theorem dX6_writesNumber_22 : decode cX6_writesNumber 22 = .ok (.aload_n 0, 1) := by decide +kernel
theorem dX6_writesNumber_23 : decode cX6_writesNumber 23 = .ok (.bipush 48, 2) := by decide +kernel
theorem dX6_writesNumber_25 : decode cX6_writesNumber 25 = .ok (.iload_n 1, 1) := by decide +kernel
theorem dX6_writesNumber_26 : decode cX6_writesNumber 26 = .ok (.iload_n 2, 1) := by decide +kernel
theorem dX6_writesNumber_27 : decode cX6_writesNumber 27 = .ok (.idiv, 1) := by decide +kernel
theorem dX6_writesNumber_28 : decode cX6_writesNumber 28 = .ok (.bipush 10, 2) := by decide +kernel
theorem dX6_writesNumber_30 : decode cX6_writesNumber 30 = .ok (.irem, 1) := by decide +kernel
theorem dX6_writesNumber_31 : decode cX6_writesNumber 31 = .ok (.iadd, 1) := by decide +kernel
theorem dX6_writesNumber_32 : decode cX6_writesNumber 32 = .ok (.invokevirtual 175, 3) := by decide +kernel
theorem dX6_writesNumber_35 : decode cX6_writesNumber 35 = .ok (.iload_n 2, 1) := by decide +kernel
theorem dX6_writesNumber_36 : decode cX6_writesNumber 36 = .ok (.bipush 10, 2) := by decide +kernel
theorem dX6_writesNumber_38 : decode cX6_writesNumber 38 = .ok (.idiv, 1) := by decide +kernel
theorem dX6_writesNumber_39 : decode cX6_writesNumber 39 = .ok (.istore_n 2, 1) := by decide +kernel
theorem dX6_writesNumber_40 : decode cX6_writesNumber 40 = .ok (.goto (-22), 3) := by decide +kernel
theorem dX6_writesNumber_43 : decode cX6_writesNumber 43 = .ok (.return_, 1) := by decide +kernel
theorem dX6_writeBed_0 : decode cX6_writeBed 0 = .ok (.aload_n 0, 1) := by decide +kernel
theorem dX6_writeBed_1 : decode cX6_writeBed 1 = .ok (.iconst 0, 1) := by decide +kernel
theorem dX6_writeBed_2 : decode cX6_writeBed 2 = .ok (.putfield 35, 3) := by decide +kernel
theorem dX6_writeBed_5 : decode cX6_writeBed 5 = .ok (.aload_n 0, 1) := by decide +kernel
theorem dX6_writeBed_6 : decode cX6_writeBed 6 = .ok (.iconst 0, 1) := by decide +kernel
theorem dX6_writeBed_7 : decode cX6_writeBed 7 = .ok (.putfield 172, 3) := by decide +kernel
theorem dX6_writeBed_10 : decode cX6_writeBed 10 = .ok (.iconst 0, 1) := by decide +kernel
theorem dX6_writeBed_11 : decode cX6_writeBed 11 = .ok (.istore_n 1, 1) := by decide +kernel
theorem dX6_writeBed_12 : decode cX6_writeBed 12 = .ok (.iload_n 1, 1) := by decide +kernel
theorem dX6_writeBed_13 : decode cX6_writeBed 13 = .ok (.bipush 24, 2) := by decide +kernel
theorem dX6_writeBed_15 : decode cX6_writeBed 15 = .ok (.if_icmp .ge 81, 3) := by decide +kernel
theorem dX6_writeBed_18 : decode cX6_writeBed 18 = .ok (.aload_n 0, 1) := by decide +kernel
theorem dX6_writeBed_19 : decode cX6_writeBed 19 = .ok (.getfield 13, 3) := by decide +kernel
theorem dX6_writeBed_22 : decode cX6_writeBed 22 = .ok (.bipush 10, 2) := by decide +kernel
theorem dX6_writeBed_24 : decode cX6_writeBed 24 = .ok (.iload_n 1, 1) := by decide +kernel
theorem dX6_writeBed_25 : decode cX6_writeBed 25 = .ok (.iadd, 1) := by decide +kernel
theorem dX6_writeBed_26 : decode cX6_writeBed 26 = .ok (.iaload, 1) := by decide +kernel
theorem dX6_writeBed_27 : decode cX6_writeBed 27 = .ok (.istore_n 2, 1) := by decide +kernel
theorem dX6_writeBed_28 : decode cX6_writeBed 28 = .ok (.iload_n 2, 1) := by decide +kernel
theorem dX6_writeBed_29 : decode cX6_writeBed 29 = .ok (.ifCond .ne 8, 3) := by decide +kernel
theorem dX6_writeBed_32 : decode cX6_writeBed 32 = .ok (.bipush 111, 2) := by decide +kernel
theorem dX6_writeBed_34 : decode cX6_writeBed 34 = .ok (.goto 7, 3) := by decide +kernel
theorem dX6_writeBed_37 : decode cX6_writeBed 37 = .ok (.bipush 48, 2) := by decide +kernel
theorem dX6_writeBed_39 : decode cX6_writeBed 39 = .ok (.iload_n 2, 1) := by decide +kernel
theorem dX6_writeBed_40 : decode cX6_writeBed 40 = .ok (.iadd, 1) := by decide +kernel
theorem dX6_writeBed_41 : decode cX6_writeBed 41 = .ok (.istore_n 3, 1) := by decide +kernel
theorem dX6_writeBed_42 : decode cX6_writeBed 42 = .ok (.iload_n 2, 1) := by decide +kernel
theorem dX6_writeBed_43 : decode cX6_writeBed 43 = .ok (.ifCond .ne 8, 3) := by decide +kernel
theorem dX6_writeBed_46 : decode cX6_writeBed 46 = .ok (.bipush 104, 2) := by decide +kernel
theorem dX6_writeBed_48 : decode cX6_writeBed 48 = .ok (.goto 9, 3) := by decide +kernel
theorem dX6_writeBed_51 : decode cX6_writeBed 51 = .ok (.bipush 97, 2) := by decide +kernel
theorem dX6_writeBed_53 : decode cX6_writeBed 53 = .ok (.iload_n 2, 1) := by decide +kernel
theorem dX6_writeBed_54 : decode cX6_writeBed 54 = .ok (.iadd, 1) := by decide +kernel
theorem dX6_writeBed_55 : decode cX6_writeBed 55 = .ok (.iconst 1, 1) := by decide +kernel
theorem dX6_writeBed_56 : decode cX6_writeBed 56 = .ok (.isub, 1) := by decide +kernel
theorem dX6_writeBed_57 : decode cX6_writeBed 57 = .ok (.istore 4, 2) := by decide +kernel
theorem dX6_writeBed_59 : decode cX6_writeBed 59 = .ok (.aload_n 0, 1) := by decide +kernel
theorem dX6_writeBed_60 : decode cX6_writeBed 60 = .ok (.aload_n 0, 1) := by decide +kernel
theorem dX6_writeBed_61 : decode cX6_writeBed 61 = .ok (.iload_n 1, 1) := by decide +kernel
theorem dX6_writeBed_62 : decode cX6_writeBed 62 = .ok (.invokevirtual 70, 3) := by decide +kernel
theorem dX6_writeBed_65 : decode cX6_writeBed 65 = .ok (.ifCond .ne 8, 3) := by decide +kernel
theorem dX6_writeBed_68 : decode cX6_writeBed 68 = .ok (.bipush 46, 2) := by decide +kernel
theorem dX6_writeBed_70 : decode cX6_writeBed 70 = .ok (.goto 17, 3) := by decide +kernel
theorem dX6_writeBed_73 : decode cX6_writeBed 73 = .ok (.aload_n 0, 1) := by decide +kernel
theorem dX6_writeBed_74 : decode cX6_writeBed 74 = .ok (.iload_n 1, 1) := by decide +kernel
theorem dX6_writeBed_75 : decode cX6_writeBed 75 = .ok (.invokevirtual 101, 3) := by decide +kernel
theorem dX6_writeBed_78 : decode cX6_writeBed 78 = .ok (.ifCond .eq 8, 3) := by decide +kernel
theorem dX6_writeBed_81 : decode cX6_writeBed 81 = .ok (.iload 4, 2) := by decide +kernel
theorem dX6_writeBed_83 : decode cX6_writeBed 83 = .ok (.goto 4, 3) := by decide +kernel
theorem dX6_writeBed_86 : decode cX6_writeBed 86 = .ok (.iload_n 3, 1) := by decide +kernel
theorem dX6_writeBed_87 : decode cX6_writeBed 87 = .ok (.invokevirtual 175, 3) := by decide +kernel
theorem dX6_writeBed_90 : decode cX6_writeBed 90 = .ok (.iinc 1 1, 3) := by decide +kernel
theorem dX6_writeBed_93 : decode cX6_writeBed 93 = .ok (.goto (-81), 3) := by decide +kernel
theorem dX6_writeBed_96 : decode cX6_writeBed 96 = .ok (.aload_n 0, 1) := by decide +kernel
theorem dX6_writeBed_97 : decode cX6_writeBed 97 = .ok (.getfield 172, 3) := by decide +kernel
theorem dX6_writeBed_100 : decode cX6_writeBed 100 = .ok (.ireturn, 1) := by decide +kernel
theorem dX6_writeCourse_0 : decode cX6_writeCourse 0 = .ok (.aload_n 0, 1) := by decide +kernel
theorem dX6_writeCourse_1 : decode cX6_writeCourse 1 = .ok (.aload_n 0, 1) := by decide +kernel
theorem dX6_writeCourse_2 : decode cX6_writeCourse 2 = .ok (.iload_n 1, 1) := by decide +kernel
theorem dX6_writeCourse_3 : decode cX6_writeCourse 3 = .ok (.invokevirtual 163, 3) := by decide +kernel
theorem dX6_writeCourse_6 : decode cX6_writeCourse 6 = .ok (.ifCond .eq 7, 3) := by decide +kernel
theorem dX6_writeCourse_9 : decode cX6_writeCourse 9 = .ok (.iconst 0, 1) := by decide +kernel
theorem dX6_writeCourse_10 : decode cX6_writeCourse 10 = .ok (.goto 4, 3) := by decide +kernel
theorem dX6_writeCourse_13 : decode cX6_writeCourse 13 = .ok (.iconst 1, 1) := by decide +kernel
theorem dX6_writeCourse_14 : decode cX6_writeCourse 14 = .ok (.putfield 35, 3) := by decide +kernel
theorem dX6_writeCourse_17 : decode cX6_writeCourse 17 = .ok (.aload_n 0, 1) := by decide +kernel
theorem dX6_writeCourse_18 : decode cX6_writeCourse 18 = .ok (.getfield 35, 3) := by decide +kernel
theorem dX6_writeCourse_21 : decode cX6_writeCourse 21 = .ok (.ifCond .eq 5, 3) := by decide +kernel
theorem dX6_writeCourse_24 : decode cX6_writeCourse 24 = .ok (.iconst 0, 1) := by decide +kernel
theorem dX6_writeCourse_25 : decode cX6_writeCourse 25 = .ok (.ireturn, 1) := by decide +kernel
theorem dX6_writeCourse_26 : decode cX6_writeCourse 26 = .ok (.bipush 68, 2) := by decide +kernel
theorem dX6_writeCourse_28 : decode cX6_writeCourse 28 = .ok (.iconst 4, 1) := by decide +kernel
theorem dX6_writeCourse_29 : decode cX6_writeCourse 29 = .ok (.iload_n 1, 1) := by decide +kernel
theorem dX6_writeCourse_30 : decode cX6_writeCourse 30 = .ok (.imul, 1) := by decide +kernel
theorem dX6_writeCourse_31 : decode cX6_writeCourse 31 = .ok (.iadd, 1) := by decide +kernel
theorem dX6_writeCourse_32 : decode cX6_writeCourse 32 = .ok (.istore_n 2, 1) := by decide +kernel
theorem dX6_writeCourse_33 : decode cX6_writeCourse 33 = .ok (.aload_n 0, 1) := by decide +kernel
theorem dX6_writeCourse_34 : decode cX6_writeCourse 34 = .ok (.iconst 0, 1) := by decide +kernel
theorem dX6_writeCourse_35 : decode cX6_writeCourse 35 = .ok (.putfield 172, 3) := by decide +kernel
theorem dX6_writeCourse_38 : decode cX6_writeCourse 38 = .ok (.aload_n 0, 1) := by decide +kernel
theorem dX6_writeCourse_39 : decode cX6_writeCourse 39 = .ok (.iload_n 1, 1) := by decide +kernel
theorem dX6_writeCourse_40 : decode cX6_writeCourse 40 = .ok (.invokevirtual 179, 3) := by decide +kernel
theorem dX6_writeCourse_43 : decode cX6_writeCourse 43 = .ok (.aload_n 0, 1) := by decide +kernel
theorem dX6_writeCourse_44 : decode cX6_writeCourse 44 = .ok (.bipush 58, 2) := by decide +kernel
theorem dX6_writeCourse_46 : decode cX6_writeCourse 46 = .ok (.invokevirtual 175, 3) := by decide +kernel
theorem dX6_writeCourse_49 : decode cX6_writeCourse 49 = .ok (.aload_n 0, 1) := by decide +kernel
theorem dX6_writeCourse_50 : decode cX6_writeCourse 50 = .ok (.aload_n 0, 1) := by decide +kernel
theorem dX6_writeCourse_51 : decode cX6_writeCourse 51 = .ok (.getfield 13, 3) := by decide +kernel
theorem dX6_writeCourse_54 : decode cX6_writeCourse 54 = .ok (.iload_n 2, 1) := by decide +kernel
theorem dX6_writeCourse_55 : decode cX6_writeCourse 55 = .ok (.iaload, 1) := by decide +kernel
theorem dX6_writeCourse_56 : decode cX6_writeCourse 56 = .ok (.invokevirtual 179, 3) := by decide +kernel
theorem dX6_writeCourse_59 : decode cX6_writeCourse 59 = .ok (.aload_n 0, 1) := by decide +kernel
theorem dX6_writeCourse_60 : decode cX6_writeCourse 60 = .ok (.bipush 102, 2) := by decide +kernel
theorem dX6_writeCourse_62 : decode cX6_writeCourse 62 = .ok (.invokevirtual 175, 3) := by decide +kernel
theorem dX6_writeCourse_65 : decode cX6_writeCourse 65 = .ok (.aload_n 0, 1) := by decide +kernel
theorem dX6_writeCourse_66 : decode cX6_writeCourse 66 = .ok (.aload_n 0, 1) := by decide +kernel
theorem dX6_writeCourse_67 : decode cX6_writeCourse 67 = .ok (.getfield 13, 3) := by decide +kernel
theorem dX6_writeCourse_70 : decode cX6_writeCourse 70 = .ok (.iload_n 2, 1) := by decide +kernel
theorem dX6_writeCourse_71 : decode cX6_writeCourse 71 = .ok (.iconst 1, 1) := by decide +kernel
theorem dX6_writeCourse_72 : decode cX6_writeCourse 72 = .ok (.iadd, 1) := by decide +kernel
theorem dX6_writeCourse_73 : decode cX6_writeCourse 73 = .ok (.iaload, 1) := by decide +kernel
theorem dX6_writeCourse_74 : decode cX6_writeCourse 74 = .ok (.invokevirtual 179, 3) := by decide +kernel
theorem dX6_writeCourse_77 : decode cX6_writeCourse 77 = .ok (.aload_n 0, 1) := by decide +kernel
theorem dX6_writeCourse_78 : decode cX6_writeCourse 78 = .ok (.bipush 121, 2) := by decide +kernel
theorem dX6_writeCourse_80 : decode cX6_writeCourse 80 = .ok (.invokevirtual 175, 3) := by decide +kernel
theorem dX6_writeCourse_83 : decode cX6_writeCourse 83 = .ok (.aload_n 0, 1) := by decide +kernel
theorem dX6_writeCourse_84 : decode cX6_writeCourse 84 = .ok (.aload_n 0, 1) := by decide +kernel
theorem dX6_writeCourse_85 : decode cX6_writeCourse 85 = .ok (.getfield 13, 3) := by decide +kernel
theorem dX6_writeCourse_88 : decode cX6_writeCourse 88 = .ok (.iload_n 2, 1) := by decide +kernel
theorem dX6_writeCourse_89 : decode cX6_writeCourse 89 = .ok (.iconst 2, 1) := by decide +kernel
theorem dX6_writeCourse_90 : decode cX6_writeCourse 90 = .ok (.iadd, 1) := by decide +kernel
theorem dX6_writeCourse_91 : decode cX6_writeCourse 91 = .ok (.iaload, 1) := by decide +kernel
theorem dX6_writeCourse_92 : decode cX6_writeCourse 92 = .ok (.invokevirtual 179, 3) := by decide +kernel
theorem dX6_writeCourse_95 : decode cX6_writeCourse 95 = .ok (.aload_n 0, 1) := by decide +kernel
theorem dX6_writeCourse_96 : decode cX6_writeCourse 96 = .ok (.getfield 13, 3) := by decide +kernel
theorem dX6_writeCourse_99 : decode cX6_writeCourse 99 = .ok (.iload_n 2, 1) := by decide +kernel
theorem dX6_writeCourse_100 : decode cX6_writeCourse 100 = .ok (.iconst 3, 1) := by decide +kernel
theorem dX6_writeCourse_101 : decode cX6_writeCourse 101 = .ok (.iadd, 1) := by decide +kernel
theorem dX6_writeCourse_102 : decode cX6_writeCourse 102 = .ok (.iaload, 1) := by decide +kernel
theorem dX6_writeCourse_103 : decode cX6_writeCourse 103 = .ok (.ifCond .le 21, 3) := by decide +kernel
theorem dX6_writeCourse_106 : decode cX6_writeCourse 106 = .ok (.aload_n 0, 1) := by decide +kernel
theorem dX6_writeCourse_107 : decode cX6_writeCourse 107 = .ok (.bipush 33, 2) := by decide +kernel
theorem dX6_writeCourse_109 : decode cX6_writeCourse 109 = .ok (.invokevirtual 175, 3) := by decide +kernel
theorem dX6_writeCourse_112 : decode cX6_writeCourse 112 = .ok (.aload_n 0, 1) := by decide +kernel
theorem dX6_writeCourse_113 : decode cX6_writeCourse 113 = .ok (.aload_n 0, 1) := by decide +kernel
theorem dX6_writeCourse_114 : decode cX6_writeCourse 114 = .ok (.getfield 13, 3) := by decide +kernel
theorem dX6_writeCourse_117 : decode cX6_writeCourse 117 = .ok (.iload_n 2, 1) := by decide +kernel
theorem dX6_writeCourse_118 : decode cX6_writeCourse 118 = .ok (.iconst 3, 1) := by decide +kernel
theorem dX6_writeCourse_119 : decode cX6_writeCourse 119 = .ok (.iadd, 1) := by decide +kernel
theorem dX6_writeCourse_120 : decode cX6_writeCourse 120 = .ok (.iaload, 1) := by decide +kernel
theorem dX6_writeCourse_121 : decode cX6_writeCourse 121 = .ok (.invokevirtual 179, 3) := by decide +kernel
theorem dX6_writeCourse_124 : decode cX6_writeCourse 124 = .ok (.aload_n 0, 1) := by decide +kernel
theorem dX6_writeCourse_125 : decode cX6_writeCourse 125 = .ok (.getfield 172, 3) := by decide +kernel
theorem dX6_writeCourse_128 : decode cX6_writeCourse 128 = .ok (.ireturn, 1) := by decide +kernel
theorem dX6_outputAt_0 : decode cX6_outputAt 0 = .ok (.aload_n 0, 1) := by decide +kernel
theorem dX6_outputAt_1 : decode cX6_outputAt 1 = .ok (.iload_n 1, 1) := by decide +kernel
theorem dX6_outputAt_2 : decode cX6_outputAt 2 = .ok (.iconst 0, 1) := by decide +kernel
theorem dX6_outputAt_3 : decode cX6_outputAt 3 = .ok (.aload_n 0, 1) := by decide +kernel
theorem dX6_outputAt_4 : decode cX6_outputAt 4 = .ok (.getfield 172, 3) := by decide +kernel
theorem dX6_outputAt_7 : decode cX6_outputAt 7 = .ok (.iconst 1, 1) := by decide +kernel
theorem dX6_outputAt_8 : decode cX6_outputAt 8 = .ok (.isub, 1) := by decide +kernel
theorem dX6_outputAt_9 : decode cX6_outputAt 9 = .ok (.invokestatic 62, 3) := by decide +kernel
theorem dX6_outputAt_12 : decode cX6_outputAt 12 = .ok (.ifCond .eq 7, 3) := by decide +kernel
theorem dX6_outputAt_15 : decode cX6_outputAt 15 = .ok (.iconst 0, 1) := by decide +kernel
theorem dX6_outputAt_16 : decode cX6_outputAt 16 = .ok (.goto 4, 3) := by decide +kernel
theorem dX6_outputAt_19 : decode cX6_outputAt 19 = .ok (.iconst 1, 1) := by decide +kernel
theorem dX6_outputAt_20 : decode cX6_outputAt 20 = .ok (.putfield 35, 3) := by decide +kernel
theorem dX6_outputAt_23 : decode cX6_outputAt 23 = .ok (.aload_n 0, 1) := by decide +kernel
theorem dX6_outputAt_24 : decode cX6_outputAt 24 = .ok (.getfield 35, 3) := by decide +kernel
theorem dX6_outputAt_27 : decode cX6_outputAt 27 = .ok (.ifCond .ne 13, 3) := by decide +kernel
theorem dX6_outputAt_30 : decode cX6_outputAt 30 = .ok (.aload_n 0, 1) := by decide +kernel
theorem dX6_outputAt_31 : decode cX6_outputAt 31 = .ok (.getfield 32, 3) := by decide +kernel
theorem dX6_outputAt_34 : decode cX6_outputAt 34 = .ok (.iload_n 1, 1) := by decide +kernel
theorem dX6_outputAt_35 : decode cX6_outputAt 35 = .ok (.iaload, 1) := by decide +kernel
theorem dX6_outputAt_36 : decode cX6_outputAt 36 = .ok (.i2c, 1) := by decide +kernel
theorem dX6_outputAt_37 : decode cX6_outputAt 37 = .ok (.goto 5, 3) := by decide +kernel
theorem dX6_outputAt_40 : decode cX6_outputAt 40 = .ok (.bipush 97, 2) := by decide +kernel
theorem dX6_outputAt_42 : decode cX6_outputAt 42 = .ok (.ireturn, 1) := by decide +kernel
theorem dX6_appendInput_0 : decode cX6_appendInput 0 = .ok (.aload_n 0, 1) := by decide +kernel
theorem dX6_appendInput_1 : decode cX6_appendInput 1 = .ok (.iload_n 1, 1) := by decide +kernel
theorem dX6_appendInput_2 : decode cX6_appendInput 2 = .ok (.bipush 32, 2) := by decide +kernel
theorem dX6_appendInput_4 : decode cX6_appendInput 4 = .ok (.bipush 126, 2) := by decide +kernel
theorem dX6_appendInput_6 : decode cX6_appendInput 6 = .ok (.invokestatic 62, 3) := by decide +kernel
theorem dX6_appendInput_9 : decode cX6_appendInput 9 = .ok (.ifCond .ne 7, 3) := by decide +kernel
theorem dX6_appendInput_12 : decode cX6_appendInput 12 = .ok (.iconst 1, 1) := by decide +kernel
theorem dX6_appendInput_13 : decode cX6_appendInput 13 = .ok (.goto 17, 3) := by decide +kernel
theorem dX6_appendInput_16 : decode cX6_appendInput 16 = .ok (.aload_n 0, 1) := by decide +kernel
theorem dX6_appendInput_17 : decode cX6_appendInput 17 = .ok (.getfield 182, 3) := by decide +kernel
theorem dX6_appendInput_20 : decode cX6_appendInput 20 = .ok (.bipush 60, 2) := by decide +kernel
theorem dX6_appendInput_22 : decode cX6_appendInput 22 = .ok (.if_icmp .ne 7, 3) := by decide +kernel
theorem dX6_appendInput_25 : decode cX6_appendInput 25 = .ok (.iconst 2, 1) := by decide +kernel
theorem dX6_appendInput_26 : decode cX6_appendInput 26 = .ok (.goto 4, 3) := by decide +kernel
theorem dX6_appendInput_29 : decode cX6_appendInput 29 = .ok (.iconst 0, 1) := by decide +kernel
theorem dX6_appendInput_30 : decode cX6_appendInput 30 = .ok (.putfield 35, 3) := by decide +kernel
theorem dX6_appendInput_33 : decode cX6_appendInput 33 = .ok (.aload_n 0, 1) := by decide +kernel
theorem dX6_appendInput_34 : decode cX6_appendInput 34 = .ok (.getfield 35, 3) := by decide +kernel
theorem dX6_appendInput_37 : decode cX6_appendInput 37 = .ok (.ifCond .eq 5, 3) := by decide +kernel
theorem dX6_appendInput_40 : decode cX6_appendInput 40 = .ok (.iconst 0, 1) := by decide +kernel
theorem dX6_appendInput_41 : decode cX6_appendInput 41 = .ok (.ireturn, 1) := by decide +kernel
theorem dX6_appendInput_42 : decode cX6_appendInput 42 = .ok (.aload_n 0, 1) := by decide +kernel
theorem dX6_appendInput_43 : decode cX6_appendInput 43 = .ok (.getfield 29, 3) := by decide +kernel
theorem dX6_appendInput_46 : decode cX6_appendInput 46 = .ok (.aload_n 0, 1) := by decide +kernel
theorem dX6_appendInput_47 : decode cX6_appendInput 47 = .ok (.getfield 182, 3) := by decide +kernel
theorem dX6_appendInput_50 : decode cX6_appendInput 50 = .ok (.iload_n 1, 1) := by decide +kernel
theorem dX6_appendInput_51 : decode cX6_appendInput 51 = .ok (.iastore, 1) := by decide +kernel
theorem dX6_appendInput_52 : decode cX6_appendInput 52 = .ok (.aload_n 0, 1) := by decide +kernel
theorem dX6_appendInput_53 : decode cX6_appendInput 53 = .ok (.dup, 1) := by decide +kernel
theorem dX6_appendInput_54 : decode cX6_appendInput 54 = .ok (.getfield 182, 3) := by decide +kernel
theorem dX6_appendInput_57 : decode cX6_appendInput 57 = .ok (.iconst 1, 1) := by decide +kernel
theorem dX6_appendInput_58 : decode cX6_appendInput 58 = .ok (.iadd, 1) := by decide +kernel
theorem dX6_appendInput_59 : decode cX6_appendInput 59 = .ok (.putfield 182, 3) := by decide +kernel
theorem dX6_appendInput_62 : decode cX6_appendInput 62 = .ok (.aload_n 0, 1) := by decide +kernel
theorem dX6_appendInput_63 : decode cX6_appendInput 63 = .ok (.getfield 182, 3) := by decide +kernel
theorem dX6_appendInput_66 : decode cX6_appendInput 66 = .ok (.ireturn, 1) := by decide +kernel
theorem dX6_sign_0 : decode cX6_sign 0 = .ok (.aload_n 0, 1) := by decide +kernel
theorem dX6_sign_1 : decode cX6_sign 1 = .ok (.getfield 185, 3) := by decide +kernel
theorem dX6_sign_4 : decode cX6_sign 4 = .ok (.aload_n 0, 1) := by decide +kernel
theorem dX6_sign_5 : decode cX6_sign 5 = .ok (.getfield 188, 3) := by decide +kernel
theorem dX6_sign_8 : decode cX6_sign 8 = .ok (.if_icmp .ge 15, 3) := by decide +kernel
theorem dX6_sign_11 : decode cX6_sign 11 = .ok (.aload_n 0, 1) := by decide +kernel
theorem dX6_sign_12 : decode cX6_sign 12 = .ok (.getfield 29, 3) := by decide +kernel
theorem dX6_sign_15 : decode cX6_sign 15 = .ok (.aload_n 0, 1) := by decide +kernel
theorem dX6_sign_16 : decode cX6_sign 16 = .ok (.getfield 185, 3) := by decide +kernel
theorem dX6_sign_19 : decode cX6_sign 19 = .ok (.iaload, 1) := by decide +kernel
theorem dX6_sign_20 : decode cX6_sign 20 = .ok (.goto 4, 3) := by decide +kernel
theorem dX6_sign_23 : decode cX6_sign 23 = .ok (.iconst (-1), 1) := by decide +kernel
theorem dX6_sign_24 : decode cX6_sign 24 = .ok (.ireturn, 1) := by decide +kernel
theorem dX6_mark_0 : decode cX6_mark 0 = .ok (.aload_n 0, 1) := by decide +kernel
theorem dX6_mark_1 : decode cX6_mark 1 = .ok (.getfield 191, 3) := by decide +kernel
theorem dX6_mark_4 : decode cX6_mark 4 = .ok (.ifCond .eq 4, 3) := by decide +kernel
theorem dX6_mark_7 : decode cX6_mark 7 = .ok (.return_, 1) := by decide +kernel
theorem dX6_mark_8 : decode cX6_mark 8 = .ok (.aload_n 0, 1) := by decide +kernel
theorem dX6_mark_9 : decode cX6_mark 9 = .ok (.aload_n 0, 1) := by decide +kernel
theorem dX6_mark_10 : decode cX6_mark 10 = .ok (.invokevirtual 194, 3) := by decide +kernel
theorem dX6_mark_13 : decode cX6_mark 13 = .ok (.iload_n 1, 1) := by decide +kernel
theorem dX6_mark_14 : decode cX6_mark 14 = .ok (.if_icmp .eq 7, 3) := by decide +kernel
theorem dX6_mark_17 : decode cX6_mark 17 = .ok (.iconst 1, 1) := by decide +kernel
theorem dX6_mark_18 : decode cX6_mark 18 = .ok (.goto 4, 3) := by decide +kernel
theorem dX6_mark_21 : decode cX6_mark 21 = .ok (.iconst 0, 1) := by decide +kernel
theorem dX6_mark_22 : decode cX6_mark 22 = .ok (.putfield 191, 3) := by decide +kernel
theorem dX6_mark_25 : decode cX6_mark 25 = .ok (.aload_n 0, 1) := by decide +kernel
theorem dX6_mark_26 : decode cX6_mark 26 = .ok (.dup, 1) := by decide +kernel
theorem dX6_mark_27 : decode cX6_mark 27 = .ok (.getfield 185, 3) := by decide +kernel
theorem dX6_mark_30 : decode cX6_mark 30 = .ok (.aload_n 0, 1) := by decide +kernel
theorem dX6_mark_31 : decode cX6_mark 31 = .ok (.getfield 191, 3) := by decide +kernel
theorem dX6_mark_34 : decode cX6_mark 34 = .ok (.ifCond .eq 7, 3) := by decide +kernel
theorem dX6_mark_37 : decode cX6_mark 37 = .ok (.iconst 0, 1) := by decide +kernel
theorem dX6_mark_38 : decode cX6_mark 38 = .ok (.goto 4, 3) := by decide +kernel
theorem dX6_mark_41 : decode cX6_mark 41 = .ok (.iconst 1, 1) := by decide +kernel
theorem dX6_mark_42 : decode cX6_mark 42 = .ok (.iadd, 1) := by decide +kernel
theorem dX6_mark_43 : decode cX6_mark 43 = .ok (.putfield 185, 3) := by decide +kernel
theorem dX6_mark_46 : decode cX6_mark 46 = .ok (.return_, 1) := by decide +kernel
theorem dX6_digits_0 : decode cX6_digits 0 = .ok (.iconst 0, 1) := by decide +kernel
theorem dX6_digits_1 : decode cX6_digits 1 = .ok (.istore_n 2, 1) := by decide +kernel
theorem dX6_digits_2 : decode cX6_digits 2 = .ok (.iconst 0, 1) := by decide +kernel
theorem dX6_digits_3 : decode cX6_digits 3 = .ok (.istore_n 3, 1) := by decide +kernel
theorem dX6_digits_4 : decode cX6_digits 4 = .ok (.aload_n 0, 1) := by decide +kernel
theorem dX6_digits_5 : decode cX6_digits 5 = .ok (.getfield 191, 3) := by decide +kernel
theorem dX6_digits_8 : decode cX6_digits 8 = .ok (.ifCond .ne 51, 3) := by decide +kernel
theorem dX6_digits_11 : decode cX6_digits 11 = .ok (.iload_n 3, 1) := by decide +kernel
theorem dX6_digits_12 : decode cX6_digits 12 = .ok (.iload_n 1, 1) := by decide +kernel
theorem dX6_digits_13 : decode cX6_digits 13 = .ok (.if_icmp .ge 46, 3) := by decide +kernel
theorem dX6_digits_16 : decode cX6_digits 16 = .ok (.aload_n 0, 1) := by decide +kernel
theorem dX6_digits_17 : decode cX6_digits 17 = .ok (.invokevirtual 194, 3) := by decide +kernel
theorem dX6_digits_20 : decode cX6_digits 20 = .ok (.bipush 48, 2) := by decide +kernel
theorem dX6_digits_22 : decode cX6_digits 22 = .ok (.bipush 57, 2) := by decide +kernel
theorem dX6_digits_24 : decode cX6_digits 24 = .ok (.invokestatic 62, 3) := by decide +kernel
theorem dX6_digits_27 : decode cX6_digits 27 = .ok (.ifCond .eq 32, 3) := by decide +kernel
theorem dX6_digits_30 : decode cX6_digits 30 = .ok (.bipush 10, 2) := by decide +kernel
theorem dX6_digits_32 : decode cX6_digits 32 = .ok (.iload_n 2, 1) := by decide +kernel
theorem dX6_digits_33 : decode cX6_digits 33 = .ok (.imul, 1) := by decide +kernel
theorem dX6_digits_34 : decode cX6_digits 34 = .ok (.aload_n 0, 1) := by decide +kernel
theorem dX6_digits_35 : decode cX6_digits 35 = .ok (.invokevirtual 194, 3) := by decide +kernel
theorem dX6_digits_38 : decode cX6_digits 38 = .ok (.iadd, 1) := by decide +kernel
theorem dX6_digits_39 : decode cX6_digits 39 = .ok (.bipush 48, 2) := by decide +kernel
theorem dX6_digits_41 : decode cX6_digits 41 = .ok (.isub, 1) := by decide +kernel
theorem dX6_digits_42 : decode cX6_digits 42 = .ok (.istore_n 2, 1) := by decide +kernel
theorem dX6_digits_43 : decode cX6_digits 43 = .ok (.aload_n 0, 1) := by decide +kernel
theorem dX6_digits_44 : decode cX6_digits 44 = .ok (.dup, 1) := by decide +kernel
theorem dX6_digits_45 : decode cX6_digits 45 = .ok (.getfield 185, 3) := by decide +kernel
theorem dX6_digits_48 : decode cX6_digits 48 = .ok (.iconst 1, 1) := by decide +kernel
theorem dX6_digits_49 : decode cX6_digits 49 = .ok (.iadd, 1) := by decide +kernel
theorem dX6_digits_50 : decode cX6_digits 50 = .ok (.putfield 185, 3) := by decide +kernel
theorem dX6_digits_53 : decode cX6_digits 53 = .ok (.iinc 3 1, 3) := by decide +kernel
theorem dX6_digits_56 : decode cX6_digits 56 = .ok (.goto (-52), 3) := by decide +kernel
theorem dX6_digits_59 : decode cX6_digits 59 = .ok (.aload_n 0, 1) := by decide +kernel
theorem dX6_digits_60 : decode cX6_digits 60 = .ok (.dup, 1) := by decide +kernel
theorem dX6_digits_61 : decode cX6_digits 61 = .ok (.getfield 191, 3) := by decide +kernel
theorem dX6_digits_64 : decode cX6_digits 64 = .ok (.iload_n 3, 1) := by decide +kernel
theorem dX6_digits_65 : decode cX6_digits 65 = .ok (.ifCond .ne 7, 3) := by decide +kernel
theorem dX6_digits_68 : decode cX6_digits 68 = .ok (.iconst 1, 1) := by decide +kernel
theorem dX6_digits_69 : decode cX6_digits 69 = .ok (.goto 4, 3) := by decide +kernel
theorem dX6_digits_72 : decode cX6_digits 72 = .ok (.iconst 0, 1) := by decide +kernel
theorem dX6_digits_73 : decode cX6_digits 73 = .ok (.ior, 1) := by decide +kernel
theorem dX6_digits_74 : decode cX6_digits 74 = .ok (.putfield 191, 3) := by decide +kernel
theorem dX6_digits_77 : decode cX6_digits 77 = .ok (.iload_n 2, 1) := by decide +kernel
theorem dX6_digits_78 : decode cX6_digits 78 = .ok (.ireturn, 1) := by decide +kernel
theorem dX6_behind_0 : decode cX6_behind 0 = .ok (.aload_n 0, 1) := by decide +kernel
theorem dX6_behind_1 : decode cX6_behind 1 = .ok (.iload_n 1, 1) := by decide +kernel
theorem dX6_behind_2 : decode cX6_behind 2 = .ok (.invokevirtual 197, 3) := by decide +kernel
theorem dX6_behind_5 : decode cX6_behind 5 = .ok (.aload_n 0, 1) := by decide +kernel
theorem dX6_behind_6 : decode cX6_behind 6 = .ok (.getfield 191, 3) := by decide +kernel
theorem dX6_behind_9 : decode cX6_behind 9 = .ok (.ifCond .eq 7, 3) := by decide +kernel
theorem dX6_behind_12 : decode cX6_behind 12 = .ok (.iconst 0, 1) := by decide +kernel
theorem dX6_behind_13 : decode cX6_behind 13 = .ok (.goto 8, 3) := by decide +kernel
theorem dX6_behind_16 : decode cX6_behind 16 = .ok (.aload_n 0, 1) := by decide +kernel
theorem dX6_behind_17 : decode cX6_behind 17 = .ok (.iconst 2, 1) := by decide +kernel
theorem dX6_behind_18 : decode cX6_behind 18 = .ok (.invokevirtual 200, 3) := by decide +kernel
theorem dX6_behind_21 : decode cX6_behind 21 = .ok (.ireturn, 1) := by decide +kernel
theorem dX6_mask_0 : decode cX6_mask 0 = .ok (.iconst 0, 1) := by decide +kernel
theorem dX6_mask_1 : decode cX6_mask 1 = .ok (.istore_n 1, 1) := by decide +kernel
theorem dX6_mask_2 : decode cX6_mask 2 = .ok (.iconst 0, 1) := by decide +kernel
theorem dX6_mask_3 : decode cX6_mask 3 = .ok (.istore_n 2, 1) := by decide +kernel
theorem dX6_mask_4 : decode cX6_mask 4 = .ok (.iload_n 2, 1) := by decide +kernel
theorem dX6_mask_5 : decode cX6_mask 5 = .ok (.bipush 8, 2) := by decide +kernel
theorem dX6_mask_7 : decode cX6_mask 7 = .ok (.if_icmp .ge 79, 3) := by decide +kernel
theorem dX6_mask_10 : decode cX6_mask 10 = .ok (.aload_n 0, 1) := by decide +kernel
theorem dX6_mask_11 : decode cX6_mask 11 = .ok (.getfield 191, 3) := by decide +kernel
theorem dX6_mask_14 : decode cX6_mask 14 = .ok (.ifCond .ne 72, 3) := by decide +kernel
theorem dX6_mask_17 : decode cX6_mask 17 = .ok (.aload_n 0, 1) := by decide +kernel
theorem dX6_mask_18 : decode cX6_mask 18 = .ok (.invokevirtual 194, 3) := by decide +kernel
theorem dX6_mask_21 : decode cX6_mask 21 = .ok (.istore_n 3, 1) := by decide +kernel
theorem dX6_mask_22 : decode cX6_mask 22 = .ok (.iload_n 1, 1) := by decide +kernel
theorem dX6_mask_23 : decode cX6_mask 23 = .ok (.iload_n 3, 1) := by decide +kernel
theorem dX6_mask_24 : decode cX6_mask 24 = .ok (.bipush 49, 2) := by decide +kernel
theorem dX6_mask_26 : decode cX6_mask 26 = .ok (.if_icmp .ne 9, 3) := by decide +kernel
theorem dX6_mask_29 : decode cX6_mask 29 = .ok (.iconst 1, 1) := by decide +kernel
theorem dX6_mask_30 : decode cX6_mask 30 = .ok (.iload_n 2, 1) := by decide +kernel
theorem dX6_mask_31 : decode cX6_mask 31 = .ok (.ishl, 1) := by decide +kernel
theorem dX6_mask_32 : decode cX6_mask 32 = .ok (.goto 4, 3) := by decide +kernel
theorem dX6_mask_35 : decode cX6_mask 35 = .ok (.iconst 0, 1) := by decide +kernel
theorem dX6_mask_36 : decode cX6_mask 36 = .ok (.ior, 1) := by decide +kernel
theorem dX6_mask_37 : decode cX6_mask 37 = .ok (.istore_n 1, 1) := by decide +kernel
theorem dX6_mask_38 : decode cX6_mask 38 = .ok (.aload_n 0, 1) := by decide +kernel
theorem dX6_mask_39 : decode cX6_mask 39 = .ok (.iload_n 3, 1) := by decide +kernel
theorem dX6_mask_40 : decode cX6_mask 40 = .ok (.bipush 48, 2) := by decide +kernel
theorem dX6_mask_42 : decode cX6_mask 42 = .ok (.if_icmp .eq 13, 3) := by decide +kernel
theorem dX6_mask_45 : decode cX6_mask 45 = .ok (.iload_n 3, 1) := by decide +kernel
theorem dX6_mask_46 : decode cX6_mask 46 = .ok (.bipush 49, 2) := by decide +kernel
theorem dX6_mask_48 : decode cX6_mask 48 = .ok (.if_icmp .eq 7, 3) := by decide +kernel
theorem dX6_mask_51 : decode cX6_mask 51 = .ok (.iconst 1, 1) := by decide +kernel
theorem dX6_mask_52 : decode cX6_mask 52 = .ok (.goto 4, 3) := by decide +kernel
theorem dX6_mask_55 : decode cX6_mask 55 = .ok (.iconst 0, 1) := by decide +kernel
theorem dX6_mask_56 : decode cX6_mask 56 = .ok (.putfield 191, 3) := by decide +kernel
theorem dX6_mask_59 : decode cX6_mask 59 = .ok (.aload_n 0, 1) := by decide +kernel
theorem dX6_mask_60 : decode cX6_mask 60 = .ok (.dup, 1) := by decide +kernel
theorem dX6_mask_61 : decode cX6_mask 61 = .ok (.getfield 185, 3) := by decide +kernel
theorem dX6_mask_64 : decode cX6_mask 64 = .ok (.aload_n 0, 1) := by decide +kernel
theorem dX6_mask_65 : decode cX6_mask 65 = .ok (.getfield 191, 3) := by decide +kernel
theorem dX6_mask_68 : decode cX6_mask 68 = .ok (.ifCond .eq 7, 3) := by decide +kernel
theorem dX6_mask_71 : decode cX6_mask 71 = .ok (.iconst 0, 1) := by decide +kernel
theorem dX6_mask_72 : decode cX6_mask 72 = .ok (.goto 4, 3) := by decide +kernel
theorem dX6_mask_75 : decode cX6_mask 75 = .ok (.iconst 1, 1) := by decide +kernel
theorem dX6_mask_76 : decode cX6_mask 76 = .ok (.iadd, 1) := by decide +kernel
theorem dX6_mask_77 : decode cX6_mask 77 = .ok (.putfield 185, 3) := by decide +kernel
theorem dX6_mask_80 : decode cX6_mask 80 = .ok (.iinc 2 1, 3) := by decide +kernel
theorem dX6_mask_83 : decode cX6_mask 83 = .ok (.goto (-79), 3) := by decide +kernel
theorem dX6_mask_86 : decode cX6_mask 86 = .ok (.iload_n 1, 1) := by decide +kernel
theorem dX6_mask_87 : decode cX6_mask 87 = .ok (.ireturn, 1) := by decide +kernel
theorem dX6_does_0 : decode cX6_does 0 = .ok (.iload_n 1, 1) := by decide +kernel
theorem dX6_does_1 : decode cX6_does 1 = .ok (.tableswitch 187 99 121 #[107, 131, 187, 164, 150, 119, 187, 187, 187, 143, 187, 187, 187, 176, 182, 125, 187, 170, 137, 187, 187, 114, 157], 107) := by decide +kernel
theorem dX6_does_108 : decode cX6_does 108 = .ok (.aload_n 0, 1) := by decide +kernel
theorem dX6_does_109 : decode cX6_does 109 = .ok (.iload_n 2, 1) := by decide +kernel
theorem dX6_does_110 : decode cX6_does 110 = .ok (.iload_n 3, 1) := by decide +kernel
theorem dX6_does_111 : decode cX6_does 111 = .ok (.invokevirtual 87, 3) := by decide +kernel
theorem dX6_does_114 : decode cX6_does 114 = .ok (.ireturn, 1) := by decide +kernel
theorem dX6_does_115 : decode cX6_does 115 = .ok (.aload_n 0, 1) := by decide +kernel
theorem dX6_does_116 : decode cX6_does 116 = .ok (.invokevirtual 98, 3) := by decide +kernel
theorem dX6_does_119 : decode cX6_does 119 = .ok (.ireturn, 1) := by decide +kernel
theorem dX6_does_120 : decode cX6_does 120 = .ok (.aload_n 0, 1) := by decide +kernel
theorem dX6_does_121 : decode cX6_does 121 = .ok (.iload_n 2, 1) := by decide +kernel
theorem dX6_does_122 : decode cX6_does 122 = .ok (.invokevirtual 104, 3) := by decide +kernel
theorem dX6_does_125 : decode cX6_does 125 = .ok (.ireturn, 1) := by decide +kernel
theorem dX6_does_126 : decode cX6_does 126 = .ok (.aload_n 0, 1) := by decide +kernel
theorem dX6_does_127 : decode cX6_does 127 = .ok (.iload_n 2, 1) := by decide +kernel
theorem dX6_does_128 : decode cX6_does 128 = .ok (.invokevirtual 107, 3) := by decide +kernel
theorem dX6_does_131 : decode cX6_does 131 = .ok (.ireturn, 1) := by decide +kernel
theorem dX6_does_132 : decode cX6_does 132 = .ok (.aload_n 0, 1) := by decide +kernel
theorem dX6_does_133 : decode cX6_does 133 = .ok (.iload_n 2, 1) := by decide +kernel
theorem dX6_does_134 : decode cX6_does 134 = .ok (.invokevirtual 110, 3) := by decide +kernel
theorem dX6_does_137 : decode cX6_does 137 = .ok (.ireturn, 1) := by decide +kernel
theorem dX6_does_138 : decode cX6_does 138 = .ok (.aload_n 0, 1) := by decide +kernel
theorem dX6_does_139 : decode cX6_does 139 = .ok (.iload_n 2, 1) := by decide +kernel
theorem dX6_does_140 : decode cX6_does 140 = .ok (.invokevirtual 113, 3) := by decide +kernel
theorem dX6_does_143 : decode cX6_does 143 = .ok (.ireturn, 1) := by decide +kernel
theorem dX6_does_144 : decode cX6_does 144 = .ok (.aload_n 0, 1) := by decide +kernel
theorem dX6_does_145 : decode cX6_does 145 = .ok (.iload_n 2, 1) := by decide +kernel
theorem dX6_does_146 : decode cX6_does 146 = .ok (.iconst (-1), 1) := by decide +kernel
theorem dX6_does_147 : decode cX6_does 147 = .ok (.invokevirtual 116, 3) := by decide +kernel
theorem dX6_does_150 : decode cX6_does 150 = .ok (.ireturn, 1) := by decide +kernel
theorem dX6_does_151 : decode cX6_does 151 = .ok (.aload_n 0, 1) := by decide +kernel
theorem dX6_does_152 : decode cX6_does 152 = .ok (.iload_n 2, 1) := by decide +kernel
theorem dX6_does_153 : decode cX6_does 153 = .ok (.iconst 1, 1) := by decide +kernel
theorem dX6_does_154 : decode cX6_does 154 = .ok (.invokevirtual 116, 3) := by decide +kernel
theorem dX6_does_157 : decode cX6_does 157 = .ok (.ireturn, 1) := by decide +kernel
theorem dX6_does_158 : decode cX6_does 158 = .ok (.aload_n 0, 1) := by decide +kernel
theorem dX6_does_159 : decode cX6_does 159 = .ok (.iload_n 2, 1) := by decide +kernel
theorem dX6_does_160 : decode cX6_does 160 = .ok (.iload_n 3, 1) := by decide +kernel
theorem dX6_does_161 : decode cX6_does 161 = .ok (.invokevirtual 125, 3) := by decide +kernel
theorem dX6_does_164 : decode cX6_does 164 = .ok (.ireturn, 1) := by decide +kernel
theorem dX6_does_165 : decode cX6_does 165 = .ok (.aload_n 0, 1) := by decide +kernel
theorem dX6_does_166 : decode cX6_does 166 = .ok (.iload_n 2, 1) := by decide +kernel
theorem dX6_does_167 : decode cX6_does 167 = .ok (.invokevirtual 128, 3) := by decide +kernel
theorem dX6_does_170 : decode cX6_does 170 = .ok (.ireturn, 1) := by decide +kernel
theorem dX6_does_171 : decode cX6_does 171 = .ok (.aload_n 0, 1) := by decide +kernel
theorem dX6_does_172 : decode cX6_does 172 = .ok (.iload_n 2, 1) := by decide +kernel
theorem dX6_does_173 : decode cX6_does 173 = .ok (.invokevirtual 131, 3) := by decide +kernel
theorem dX6_does_176 : decode cX6_does 176 = .ok (.ireturn, 1) := by decide +kernel
theorem dX6_does_177 : decode cX6_does 177 = .ok (.aload_n 0, 1) := by decide +kernel
theorem dX6_does_178 : decode cX6_does 178 = .ok (.iload_n 2, 1) := by decide +kernel
theorem dX6_does_179 : decode cX6_does 179 = .ok (.invokevirtual 134, 3) := by decide +kernel
theorem dX6_does_182 : decode cX6_does 182 = .ok (.ireturn, 1) := by decide +kernel
theorem dX6_does_183 : decode cX6_does 183 = .ok (.aload_n 0, 1) := by decide +kernel
theorem dX6_does_184 : decode cX6_does 184 = .ok (.invokevirtual 137, 3) := by decide +kernel
theorem dX6_does_187 : decode cX6_does 187 = .ok (.ireturn, 1) := by decide +kernel
theorem dX6_does_188 : decode cX6_does 188 = .ok (.aload_n 0, 1) := by decide +kernel
theorem dX6_does_189 : decode cX6_does 189 = .ok (.iload_n 2, 1) := by decide +kernel
theorem dX6_does_190 : decode cX6_does 190 = .ok (.invokevirtual 153, 3) := by decide +kernel
theorem dX6_does_193 : decode cX6_does 193 = .ok (.ireturn, 1) := by decide +kernel
theorem dX6_isNumbered_0 : decode cX6_isNumbered 0 = .ok (.iload_n 0, 1) := by decide +kernel
theorem dX6_isNumbered_1 : decode cX6_isNumbered 1 = .ok (.bipush 99, 2) := by decide +kernel
theorem dX6_isNumbered_3 : decode cX6_isNumbered 3 = .ok (.if_icmp .eq 45, 3) := by decide +kernel
theorem dX6_isNumbered_6 : decode cX6_isNumbered 6 = .ok (.iload_n 0, 1) := by decide +kernel
theorem dX6_isNumbered_7 : decode cX6_isNumbered 7 = .ok (.bipush 104, 2) := by decide +kernel
theorem dX6_isNumbered_9 : decode cX6_isNumbered 9 = .ok (.if_icmp .eq 39, 3) := by decide +kernel
theorem dX6_isNumbered_12 : decode cX6_isNumbered 12 = .ok (.iload_n 0, 1) := by decide +kernel
theorem dX6_isNumbered_13 : decode cX6_isNumbered 13 = .ok (.bipush 114, 2) := by decide +kernel
theorem dX6_isNumbered_15 : decode cX6_isNumbered 15 = .ok (.if_icmp .eq 33, 3) := by decide +kernel
theorem dX6_isNumbered_18 : decode cX6_isNumbered 18 = .ok (.iload_n 0, 1) := by decide +kernel
theorem dX6_isNumbered_19 : decode cX6_isNumbered 19 = .ok (.bipush 100, 2) := by decide +kernel
theorem dX6_isNumbered_21 : decode cX6_isNumbered 21 = .ok (.if_icmp .eq 27, 3) := by decide +kernel
theorem dX6_isNumbered_24 : decode cX6_isNumbered 24 = .ok (.iload_n 0, 1) := by decide +kernel
theorem dX6_isNumbered_25 : decode cX6_isNumbered 25 = .ok (.bipush 117, 2) := by decide +kernel
theorem dX6_isNumbered_27 : decode cX6_isNumbered 27 = .ok (.if_icmp .eq 21, 3) := by decide +kernel
theorem dX6_isNumbered_30 : decode cX6_isNumbered 30 = .ok (.iload_n 0, 1) := by decide +kernel
theorem dX6_isNumbered_31 : decode cX6_isNumbered 31 = .ok (.bipush 108, 2) := by decide +kernel
theorem dX6_isNumbered_33 : decode cX6_isNumbered 33 = .ok (.if_icmp .eq 15, 3) := by decide +kernel
theorem dX6_isNumbered_36 : decode cX6_isNumbered 36 = .ok (.iload_n 0, 1) := by decide +kernel
theorem dX6_isNumbered_37 : decode cX6_isNumbered 37 = .ok (.bipush 103, 2) := by decide +kernel
theorem dX6_isNumbered_39 : decode cX6_isNumbered 39 = .ok (.if_icmp .eq 9, 3) := by decide +kernel
theorem dX6_isNumbered_42 : decode cX6_isNumbered 42 = .ok (.iload_n 0, 1) := by decide +kernel
theorem dX6_isNumbered_43 : decode cX6_isNumbered 43 = .ok (.bipush 107, 2) := by decide +kernel
theorem dX6_isNumbered_45 : decode cX6_isNumbered 45 = .ok (.if_icmp .ne 7, 3) := by decide +kernel
theorem dX6_isNumbered_48 : decode cX6_isNumbered 48 = .ok (.iconst 1, 1) := by decide +kernel
theorem dX6_isNumbered_49 : decode cX6_isNumbered 49 = .ok (.goto 4, 3) := by decide +kernel
theorem dX6_isNumbered_52 : decode cX6_isNumbered 52 = .ok (.iconst 0, 1) := by decide +kernel
theorem dX6_isNumbered_53 : decode cX6_isNumbered 53 = .ok (.ireturn, 1) := by decide +kernel
theorem dX6_isDigit_0 : decode cX6_isDigit 0 = .ok (.iload_n 0, 1) := by decide +kernel
theorem dX6_isDigit_1 : decode cX6_isDigit 1 = .ok (.bipush 121, 2) := by decide +kernel
theorem dX6_isDigit_3 : decode cX6_isDigit 3 = .ok (.if_icmp .eq 15, 3) := by decide +kernel
theorem dX6_isDigit_6 : decode cX6_isDigit 6 = .ok (.iload_n 0, 1) := by decide +kernel
theorem dX6_isDigit_7 : decode cX6_isDigit 7 = .ok (.bipush 102, 2) := by decide +kernel
theorem dX6_isDigit_9 : decode cX6_isDigit 9 = .ok (.if_icmp .eq 9, 3) := by decide +kernel
theorem dX6_isDigit_12 : decode cX6_isDigit 12 = .ok (.iload_n 0, 1) := by decide +kernel
theorem dX6_isDigit_13 : decode cX6_isDigit 13 = .ok (.bipush 116, 2) := by decide +kernel
theorem dX6_isDigit_15 : decode cX6_isDigit 15 = .ok (.if_icmp .ne 7, 3) := by decide +kernel
theorem dX6_isDigit_18 : decode cX6_isDigit 18 = .ok (.iconst 1, 1) := by decide +kernel
theorem dX6_isDigit_19 : decode cX6_isDigit 19 = .ok (.goto 4, 3) := by decide +kernel
theorem dX6_isDigit_22 : decode cX6_isDigit 22 = .ok (.iconst 0, 1) := by decide +kernel
theorem dX6_isDigit_23 : decode cX6_isDigit 23 = .ok (.ireturn, 1) := by decide +kernel
theorem dX6_command_0 : decode cX6_command 0 = .ok (.aload_n 0, 1) := by decide +kernel
theorem dX6_command_1 : decode cX6_command 1 = .ok (.invokevirtual 194, 3) := by decide +kernel
theorem dX6_command_4 : decode cX6_command 4 = .ok (.istore_n 1, 1) := by decide +kernel
theorem dX6_command_5 : decode cX6_command 5 = .ok (.iconst 0, 1) := by decide +kernel
theorem dX6_command_6 : decode cX6_command 6 = .ok (.istore_n 2, 1) := by decide +kernel
theorem dX6_command_7 : decode cX6_command 7 = .ok (.iconst 0, 1) := by decide +kernel
theorem dX6_command_8 : decode cX6_command 8 = .ok (.istore_n 3, 1) := by decide +kernel
theorem dX6_command_9 : decode cX6_command 9 = .ok (.aload_n 0, 1) := by decide +kernel
theorem dX6_command_10 : decode cX6_command 10 = .ok (.iload_n 1, 1) := by decide +kernel
theorem dX6_command_11 : decode cX6_command 11 = .ok (.invokestatic 203, 3) := by decide +kernel
theorem dX6_command_14 : decode cX6_command 14 = .ok (.ifCond .ne 32, 3) := by decide +kernel
theorem dX6_command_17 : decode cX6_command 17 = .ok (.iload_n 1, 1) := by decide +kernel
theorem dX6_command_18 : decode cX6_command 18 = .ok (.invokestatic 206, 3) := by decide +kernel
theorem dX6_command_21 : decode cX6_command 21 = .ok (.ifCond .ne 25, 3) := by decide +kernel
theorem dX6_command_24 : decode cX6_command 24 = .ok (.iload_n 1, 1) := by decide +kernel
theorem dX6_command_25 : decode cX6_command 25 = .ok (.bipush 120, 2) := by decide +kernel
theorem dX6_command_27 : decode cX6_command 27 = .ok (.if_icmp .eq 19, 3) := by decide +kernel
theorem dX6_command_30 : decode cX6_command 30 = .ok (.iload_n 1, 1) := by decide +kernel
theorem dX6_command_31 : decode cX6_command 31 = .ok (.bipush 112, 2) := by decide +kernel
theorem dX6_command_33 : decode cX6_command 33 = .ok (.if_icmp .eq 13, 3) := by decide +kernel
theorem dX6_command_36 : decode cX6_command 36 = .ok (.iload_n 1, 1) := by decide +kernel
theorem dX6_command_37 : decode cX6_command 37 = .ok (.bipush 113, 2) := by decide +kernel
theorem dX6_command_39 : decode cX6_command 39 = .ok (.if_icmp .eq 7, 3) := by decide +kernel
theorem dX6_command_42 : decode cX6_command 42 = .ok (.iconst 1, 1) := by decide +kernel
theorem dX6_command_43 : decode cX6_command 43 = .ok (.goto 4, 3) := by decide +kernel
theorem dX6_command_46 : decode cX6_command 46 = .ok (.iconst 0, 1) := by decide +kernel
theorem dX6_command_47 : decode cX6_command 47 = .ok (.putfield 191, 3) := by decide +kernel
theorem dX6_command_50 : decode cX6_command 50 = .ok (.aload_n 0, 1) := by decide +kernel
theorem dX6_command_51 : decode cX6_command 51 = .ok (.getfield 191, 3) := by decide +kernel
theorem dX6_command_54 : decode cX6_command 54 = .ok (.ifCond .eq 4, 3) := by decide +kernel
theorem dX6_command_57 : decode cX6_command 57 = .ok (.return_, 1) := by decide +kernel
theorem dX6_command_58 : decode cX6_command 58 = .ok (.aload_n 0, 1) := by decide +kernel
theorem dX6_command_59 : decode cX6_command 59 = .ok (.dup, 1) := by decide +kernel
theorem dX6_command_60 : decode cX6_command 60 = .ok (.getfield 185, 3) := by decide +kernel
theorem dX6_command_63 : decode cX6_command 63 = .ok (.iconst 1, 1) := by decide +kernel
theorem dX6_command_64 : decode cX6_command 64 = .ok (.iadd, 1) := by decide +kernel
theorem dX6_command_65 : decode cX6_command 65 = .ok (.putfield 185, 3) := by decide +kernel
theorem dX6_command_68 : decode cX6_command 68 = .ok (.iload_n 1, 1) := by decide +kernel
theorem dX6_command_69 : decode cX6_command 69 = .ok (.invokestatic 203, 3) := by decide +kernel
theorem dX6_command_72 : decode cX6_command 72 = .ok (.ifCond .eq 9, 3) := by decide +kernel
theorem dX6_command_75 : decode cX6_command 75 = .ok (.aload_n 0, 1) := by decide +kernel
theorem dX6_command_76 : decode cX6_command 76 = .ok (.iconst 2, 1) := by decide +kernel
theorem dX6_command_77 : decode cX6_command 77 = .ok (.invokevirtual 200, 3) := by decide +kernel
theorem dX6_command_80 : decode cX6_command 80 = .ok (.istore_n 2, 1) := by decide +kernel
theorem dX6_command_81 : decode cX6_command 81 = .ok (.iload_n 1, 1) := by decide +kernel
theorem dX6_command_82 : decode cX6_command 82 = .ok (.invokestatic 206, 3) := by decide +kernel
theorem dX6_command_85 : decode cX6_command 85 = .ok (.ifCond .eq 9, 3) := by decide +kernel
theorem dX6_command_88 : decode cX6_command 88 = .ok (.aload_n 0, 1) := by decide +kernel
theorem dX6_command_89 : decode cX6_command 89 = .ok (.iconst 1, 1) := by decide +kernel
theorem dX6_command_90 : decode cX6_command 90 = .ok (.invokevirtual 200, 3) := by decide +kernel
theorem dX6_command_93 : decode cX6_command 93 = .ok (.istore_n 2, 1) := by decide +kernel
theorem dX6_command_94 : decode cX6_command 94 = .ok (.iload_n 1, 1) := by decide +kernel
theorem dX6_command_95 : decode cX6_command 95 = .ok (.bipush 112, 2) := by decide +kernel
theorem dX6_command_97 : decode cX6_command 97 = .ok (.if_icmp .ne 8, 3) := by decide +kernel
theorem dX6_command_100 : decode cX6_command 100 = .ok (.aload_n 0, 1) := by decide +kernel
theorem dX6_command_101 : decode cX6_command 101 = .ok (.invokevirtual 209, 3) := by decide +kernel
theorem dX6_command_104 : decode cX6_command 104 = .ok (.istore_n 2, 1) := by decide +kernel
theorem dX6_command_105 : decode cX6_command 105 = .ok (.iload_n 1, 1) := by decide +kernel
theorem dX6_command_106 : decode cX6_command 106 = .ok (.bipush 99, 2) := by decide +kernel
theorem dX6_command_108 : decode cX6_command 108 = .ok (.if_icmp .ne 10, 3) := by decide +kernel
theorem dX6_command_111 : decode cX6_command 111 = .ok (.aload_n 0, 1) := by decide +kernel
theorem dX6_command_112 : decode cX6_command 112 = .ok (.bipush 45, 2) := by decide +kernel
theorem dX6_command_114 : decode cX6_command 114 = .ok (.invokevirtual 212, 3) := by decide +kernel
theorem dX6_command_117 : decode cX6_command 117 = .ok (.istore_n 3, 1) := by decide +kernel
theorem dX6_command_118 : decode cX6_command 118 = .ok (.iload_n 1, 1) := by decide +kernel
theorem dX6_command_119 : decode cX6_command 119 = .ok (.bipush 121, 2) := by decide +kernel
theorem dX6_command_121 : decode cX6_command 121 = .ok (.if_icmp .ne 10, 3) := by decide +kernel
theorem dX6_command_124 : decode cX6_command 124 = .ok (.aload_n 0, 1) := by decide +kernel
theorem dX6_command_125 : decode cX6_command 125 = .ok (.bipush 61, 2) := by decide +kernel
theorem dX6_command_127 : decode cX6_command 127 = .ok (.invokevirtual 212, 3) := by decide +kernel
theorem dX6_command_130 : decode cX6_command 130 = .ok (.istore_n 3, 1) := by decide +kernel
theorem dX6_command_131 : decode cX6_command 131 = .ok (.aload_n 0, 1) := by decide +kernel
theorem dX6_command_132 : decode cX6_command 132 = .ok (.getfield 191, 3) := by decide +kernel
theorem dX6_command_135 : decode cX6_command 135 = .ok (.ifCond .ne 10, 3) := by decide +kernel
theorem dX6_command_138 : decode cX6_command 138 = .ok (.aload_n 0, 1) := by decide +kernel
theorem dX6_command_139 : decode cX6_command 139 = .ok (.getfield 215, 3) := by decide +kernel
theorem dX6_command_142 : decode cX6_command 142 = .ok (.ifCond .ne 4, 3) := by decide +kernel
theorem dX6_command_145 : decode cX6_command 145 = .ok (.return_, 1) := by decide +kernel
theorem dX6_command_146 : decode cX6_command 146 = .ok (.aload_n 0, 1) := by decide +kernel
theorem dX6_command_147 : decode cX6_command 147 = .ok (.iload_n 1, 1) := by decide +kernel
theorem dX6_command_148 : decode cX6_command 148 = .ok (.iload_n 2, 1) := by decide +kernel
theorem dX6_command_149 : decode cX6_command 149 = .ok (.iload_n 3, 1) := by decide +kernel
theorem dX6_command_150 : decode cX6_command 150 = .ok (.invokevirtual 218, 3) := by decide +kernel
theorem dX6_command_153 : decode cX6_command 153 = .ok (.istore 4, 2) := by decide +kernel
theorem dX6_command_155 : decode cX6_command 155 = .ok (.return_, 1) := by decide +kernel
theorem dX6_commands_0 : decode cX6_commands 0 = .ok (.aload_n 0, 1) := by decide +kernel
theorem dX6_commands_1 : decode cX6_commands 1 = .ok (.iconst 0, 1) := by decide +kernel
theorem dX6_commands_2 : decode cX6_commands 2 = .ok (.putfield 185, 3) := by decide +kernel
theorem dX6_commands_5 : decode cX6_commands 5 = .ok (.aload_n 0, 1) := by decide +kernel
theorem dX6_commands_6 : decode cX6_commands 6 = .ok (.iconst 0, 1) := by decide +kernel
theorem dX6_commands_7 : decode cX6_commands 7 = .ok (.putfield 191, 3) := by decide +kernel
theorem dX6_commands_10 : decode cX6_commands 10 = .ok (.iconst 1, 1) := by decide +kernel
theorem dX6_commands_11 : decode cX6_commands 11 = .ok (.istore_n 1, 1) := by decide +kernel
theorem dX6_commands_12 : decode cX6_commands 12 = .ok (.aload_n 0, 1) := by decide +kernel
theorem dX6_commands_13 : decode cX6_commands 13 = .ok (.invokevirtual 221, 3) := by decide +kernel
theorem dX6_commands_16 : decode cX6_commands 16 = .ok (.aload_n 0, 1) := by decide +kernel
theorem dX6_commands_17 : decode cX6_commands 17 = .ok (.getfield 191, 3) := by decide +kernel
theorem dX6_commands_20 : decode cX6_commands 20 = .ok (.ifCond .ne 44, 3) := by decide +kernel
theorem dX6_commands_23 : decode cX6_commands 23 = .ok (.aload_n 0, 1) := by decide +kernel
theorem dX6_commands_24 : decode cX6_commands 24 = .ok (.getfield 35, 3) := by decide +kernel
theorem dX6_commands_27 : decode cX6_commands 27 = .ok (.ifCond .ne 37, 3) := by decide +kernel
theorem dX6_commands_30 : decode cX6_commands 30 = .ok (.aload_n 0, 1) := by decide +kernel
theorem dX6_commands_31 : decode cX6_commands 31 = .ok (.getfield 185, 3) := by decide +kernel
theorem dX6_commands_34 : decode cX6_commands 34 = .ok (.aload_n 0, 1) := by decide +kernel
theorem dX6_commands_35 : decode cX6_commands 35 = .ok (.getfield 188, 3) := by decide +kernel
theorem dX6_commands_38 : decode cX6_commands 38 = .ok (.if_icmp .ge 26, 3) := by decide +kernel
theorem dX6_commands_41 : decode cX6_commands 41 = .ok (.aload_n 0, 1) := by decide +kernel
theorem dX6_commands_42 : decode cX6_commands 42 = .ok (.bipush 59, 2) := by decide +kernel
theorem dX6_commands_44 : decode cX6_commands 44 = .ok (.invokevirtual 197, 3) := by decide +kernel
theorem dX6_commands_47 : decode cX6_commands 47 = .ok (.aload_n 0, 1) := by decide +kernel
theorem dX6_commands_48 : decode cX6_commands 48 = .ok (.getfield 191, 3) := by decide +kernel
theorem dX6_commands_51 : decode cX6_commands 51 = .ok (.ifCond .ne 7, 3) := by decide +kernel
theorem dX6_commands_54 : decode cX6_commands 54 = .ok (.aload_n 0, 1) := by decide +kernel
theorem dX6_commands_55 : decode cX6_commands 55 = .ok (.invokevirtual 221, 3) := by decide +kernel
theorem dX6_commands_58 : decode cX6_commands 58 = .ok (.iinc 1 1, 3) := by decide +kernel
theorem dX6_commands_61 : decode cX6_commands 61 = .ok (.goto (-45), 3) := by decide +kernel
theorem dX6_commands_64 : decode cX6_commands 64 = .ok (.iload_n 1, 1) := by decide +kernel
theorem dX6_commands_65 : decode cX6_commands 65 = .ok (.ireturn, 1) := by decide +kernel
theorem dX6_execute_0 : decode cX6_execute 0 = .ok (.aload_n 0, 1) := by decide +kernel
theorem dX6_execute_1 : decode cX6_execute 1 = .ok (.invokevirtual 84, 3) := by decide +kernel
theorem dX6_execute_4 : decode cX6_execute 4 = .ok (.aload_n 0, 1) := by decide +kernel
theorem dX6_execute_5 : decode cX6_execute 5 = .ok (.aload_n 0, 1) := by decide +kernel
theorem dX6_execute_6 : decode cX6_execute 6 = .ok (.getfield 182, 3) := by decide +kernel
theorem dX6_execute_9 : decode cX6_execute 9 = .ok (.putfield 188, 3) := by decide +kernel
theorem dX6_execute_12 : decode cX6_execute 12 = .ok (.aload_n 0, 1) := by decide +kernel
theorem dX6_execute_13 : decode cX6_execute 13 = .ok (.iconst 0, 1) := by decide +kernel
theorem dX6_execute_14 : decode cX6_execute 14 = .ok (.putfield 182, 3) := by decide +kernel
theorem dX6_execute_17 : decode cX6_execute 17 = .ok (.aload_n 0, 1) := by decide +kernel
theorem dX6_execute_18 : decode cX6_execute 18 = .ok (.iconst 0, 1) := by decide +kernel
theorem dX6_execute_19 : decode cX6_execute 19 = .ok (.putfield 215, 3) := by decide +kernel
theorem dX6_execute_22 : decode cX6_execute 22 = .ok (.aload_n 0, 1) := by decide +kernel
theorem dX6_execute_23 : decode cX6_execute 23 = .ok (.invokevirtual 224, 3) := by decide +kernel
theorem dX6_execute_26 : decode cX6_execute 26 = .ok (.istore_n 1, 1) := by decide +kernel
theorem dX6_execute_27 : decode cX6_execute 27 = .ok (.aload_n 0, 1) := by decide +kernel
theorem dX6_execute_28 : decode cX6_execute 28 = .ok (.getfield 191, 3) := by decide +kernel
theorem dX6_execute_31 : decode cX6_execute 31 = .ok (.ifCond .eq 17, 3) := by decide +kernel
theorem dX6_execute_34 : decode cX6_execute 34 = .ok (.aload_n 0, 1) := by decide +kernel
theorem dX6_execute_35 : decode cX6_execute 35 = .ok (.aload_n 0, 1) := by decide +kernel
theorem dX6_execute_36 : decode cX6_execute 36 = .ok (.getfield 185, 3) := by decide +kernel
theorem dX6_execute_39 : decode cX6_execute 39 = .ok (.putfield 7, 3) := by decide +kernel
theorem dX6_execute_42 : decode cX6_execute 42 = .ok (.aload_n 0, 1) := by decide +kernel
theorem dX6_execute_43 : decode cX6_execute 43 = .ok (.iconst 1, 1) := by decide +kernel
theorem dX6_execute_44 : decode cX6_execute 44 = .ok (.invokevirtual 51, 3) := by decide +kernel
theorem dX6_execute_47 : decode cX6_execute 47 = .ok (.ireturn, 1) := by decide +kernel
theorem dX6_execute_48 : decode cX6_execute 48 = .ok (.aload_n 0, 1) := by decide +kernel
theorem dX6_execute_49 : decode cX6_execute 49 = .ok (.iconst 1, 1) := by decide +kernel
theorem dX6_execute_50 : decode cX6_execute 50 = .ok (.putfield 215, 3) := by decide +kernel
theorem dX6_execute_53 : decode cX6_execute 53 = .ok (.aload_n 0, 1) := by decide +kernel
theorem dX6_execute_54 : decode cX6_execute 54 = .ok (.invokevirtual 224, 3) := by decide +kernel
theorem dX6_execute_57 : decode cX6_execute 57 = .ok (.istore_n 1, 1) := by decide +kernel
theorem dX6_execute_58 : decode cX6_execute 58 = .ok (.aload_n 0, 1) := by decide +kernel
theorem dX6_execute_59 : decode cX6_execute 59 = .ok (.getfield 35, 3) := by decide +kernel
theorem dX6_execute_62 : decode cX6_execute 62 = .ok (.ifCond .ne 9, 3) := by decide +kernel
theorem dX6_execute_65 : decode cX6_execute 65 = .ok (.aload_n 0, 1) := by decide +kernel
theorem dX6_execute_66 : decode cX6_execute 66 = .ok (.iload_n 1, 1) := by decide +kernel
theorem dX6_execute_67 : decode cX6_execute 67 = .ok (.invokevirtual 91, 3) := by decide +kernel
theorem dX6_execute_70 : decode cX6_execute 70 = .ok (.ireturn, 1) := by decide +kernel
theorem dX6_execute_71 : decode cX6_execute 71 = .ok (.aload_n 0, 1) := by decide +kernel
theorem dX6_execute_72 : decode cX6_execute 72 = .ok (.getfield 47, 3) := by decide +kernel
theorem dX6_execute_75 : decode cX6_execute 75 = .ok (.ifCond .ne 14, 3) := by decide +kernel
theorem dX6_execute_78 : decode cX6_execute 78 = .ok (.aload_n 0, 1) := by decide +kernel
theorem dX6_execute_79 : decode cX6_execute 79 = .ok (.iconst 2, 1) := by decide +kernel
theorem dX6_execute_80 : decode cX6_execute 80 = .ok (.putfield 35, 3) := by decide +kernel
theorem dX6_execute_83 : decode cX6_execute 83 = .ok (.aload_n 0, 1) := by decide +kernel
theorem dX6_execute_84 : decode cX6_execute 84 = .ok (.iconst 0, 1) := by decide +kernel
theorem dX6_execute_85 : decode cX6_execute 85 = .ok (.invokevirtual 91, 3) := by decide +kernel
theorem dX6_execute_88 : decode cX6_execute 88 = .ok (.ireturn, 1) := by decide +kernel
theorem dX6_execute_89 : decode cX6_execute 89 = .ok (.aload_n 0, 1) := by decide +kernel
theorem dX6_execute_90 : decode cX6_execute 90 = .ok (.getfield 38, 3) := by decide +kernel
theorem dX6_execute_93 : decode cX6_execute 93 = .ok (.istore_n 2, 1) := by decide +kernel
theorem dX6_execute_94 : decode cX6_execute 94 = .ok (.aload_n 0, 1) := by decide +kernel
theorem dX6_execute_95 : decode cX6_execute 95 = .ok (.iconst 3, 1) := by decide +kernel
theorem dX6_execute_96 : decode cX6_execute 96 = .ok (.bipush 15, 2) := by decide +kernel
theorem dX6_execute_98 : decode cX6_execute 98 = .ok (.iload_n 1, 1) := by decide +kernel
theorem dX6_execute_99 : decode cX6_execute 99 = .ok (.iconst 1, 1) := by decide +kernel
theorem dX6_execute_100 : decode cX6_execute 100 = .ok (.isub, 1) := by decide +kernel
theorem dX6_execute_101 : decode cX6_execute 101 = .ok (.invokevirtual 73, 3) := by decide +kernel
theorem dX6_execute_104 : decode cX6_execute 104 = .ok (.istore_n 3, 1) := by decide +kernel
theorem dX6_execute_105 : decode cX6_execute 105 = .ok (.aload_n 0, 1) := by decide +kernel
theorem dX6_execute_106 : decode cX6_execute 106 = .ok (.iload_n 2, 1) := by decide +kernel
theorem dX6_execute_107 : decode cX6_execute 107 = .ok (.putfield 44, 3) := by decide +kernel
theorem dX6_execute_110 : decode cX6_execute 110 = .ok (.aload_n 0, 1) := by decide +kernel
theorem dX6_execute_111 : decode cX6_execute 111 = .ok (.iload_n 3, 1) := by decide +kernel
theorem dX6_execute_112 : decode cX6_execute 112 = .ok (.invokevirtual 91, 3) := by decide +kernel
theorem dX6_execute_115 : decode cX6_execute 115 = .ok (.ireturn, 1) := by decide +kernel
theorem dX6_syntaxErrorOffset_0 : decode cX6_syntaxErrorOffset 0 = .ok (.aload_n 0, 1) := by decide +kernel
theorem dX6_syntaxErrorOffset_1 : decode cX6_syntaxErrorOffset 1 = .ok (.aload_n 0, 1) := by decide +kernel
theorem dX6_syntaxErrorOffset_2 : decode cX6_syntaxErrorOffset 2 = .ok (.getfield 7, 3) := by decide +kernel
theorem dX6_syntaxErrorOffset_5 : decode cX6_syntaxErrorOffset 5 = .ok (.ifCond .ge 7, 3) := by decide +kernel
theorem dX6_syntaxErrorOffset_8 : decode cX6_syntaxErrorOffset 8 = .ok (.iconst 1, 1) := by decide +kernel
theorem dX6_syntaxErrorOffset_9 : decode cX6_syntaxErrorOffset 9 = .ok (.goto 4, 3) := by decide +kernel
theorem dX6_syntaxErrorOffset_12 : decode cX6_syntaxErrorOffset 12 = .ok (.iconst 0, 1) := by decide +kernel
theorem dX6_syntaxErrorOffset_13 : decode cX6_syntaxErrorOffset 13 = .ok (.putfield 35, 3) := by decide +kernel
theorem dX6_syntaxErrorOffset_16 : decode cX6_syntaxErrorOffset 16 = .ok (.aload_n 0, 1) := by decide +kernel
theorem dX6_syntaxErrorOffset_17 : decode cX6_syntaxErrorOffset 17 = .ok (.getfield 35, 3) := by decide +kernel
theorem dX6_syntaxErrorOffset_20 : decode cX6_syntaxErrorOffset 20 = .ok (.ifCond .ne 10, 3) := by decide +kernel
theorem dX6_syntaxErrorOffset_23 : decode cX6_syntaxErrorOffset 23 = .ok (.aload_n 0, 1) := by decide +kernel
theorem dX6_syntaxErrorOffset_24 : decode cX6_syntaxErrorOffset 24 = .ok (.getfield 7, 3) := by decide +kernel
theorem dX6_syntaxErrorOffset_27 : decode cX6_syntaxErrorOffset 27 = .ok (.goto 4, 3) := by decide +kernel
theorem dX6_syntaxErrorOffset_30 : decode cX6_syntaxErrorOffset 30 = .ok (.iconst 0, 1) := by decide +kernel
theorem dX6_syntaxErrorOffset_31 : decode cX6_syntaxErrorOffset 31 = .ok (.ireturn, 1) := by decide +kernel
theorem dX6_rejectionReason_0 : decode cX6_rejectionReason 0 = .ok (.aload_n 0, 1) := by decide +kernel
theorem dX6_rejectionReason_1 : decode cX6_rejectionReason 1 = .ok (.aload_n 0, 1) := by decide +kernel
theorem dX6_rejectionReason_2 : decode cX6_rejectionReason 2 = .ok (.getfield 38, 3) := by decide +kernel
theorem dX6_rejectionReason_5 : decode cX6_rejectionReason 5 = .ok (.ifCond .ne 7, 3) := by decide +kernel
theorem dX6_rejectionReason_8 : decode cX6_rejectionReason 8 = .ok (.iconst 1, 1) := by decide +kernel
theorem dX6_rejectionReason_9 : decode cX6_rejectionReason 9 = .ok (.goto 4, 3) := by decide +kernel
theorem dX6_rejectionReason_12 : decode cX6_rejectionReason 12 = .ok (.iconst 0, 1) := by decide +kernel
theorem dX6_rejectionReason_13 : decode cX6_rejectionReason 13 = .ok (.putfield 35, 3) := by decide +kernel
theorem dX6_rejectionReason_16 : decode cX6_rejectionReason 16 = .ok (.aload_n 0, 1) := by decide +kernel
theorem dX6_rejectionReason_17 : decode cX6_rejectionReason 17 = .ok (.getfield 38, 3) := by decide +kernel
theorem dX6_rejectionReason_20 : decode cX6_rejectionReason 20 = .ok (.ireturn, 1) := by decide +kernel
theorem dX6_rejectionDetail_0 : decode cX6_rejectionDetail 0 = .ok (.aload_n 0, 1) := by decide +kernel
theorem dX6_rejectionDetail_1 : decode cX6_rejectionDetail 1 = .ok (.aload_n 0, 1) := by decide +kernel
theorem dX6_rejectionDetail_2 : decode cX6_rejectionDetail 2 = .ok (.getfield 38, 3) := by decide +kernel
theorem dX6_rejectionDetail_5 : decode cX6_rejectionDetail 5 = .ok (.ifCond .ne 7, 3) := by decide +kernel
theorem dX6_rejectionDetail_8 : decode cX6_rejectionDetail 8 = .ok (.iconst 1, 1) := by decide +kernel
theorem dX6_rejectionDetail_9 : decode cX6_rejectionDetail 9 = .ok (.goto 4, 3) := by decide +kernel
theorem dX6_rejectionDetail_12 : decode cX6_rejectionDetail 12 = .ok (.iconst 0, 1) := by decide +kernel
theorem dX6_rejectionDetail_13 : decode cX6_rejectionDetail 13 = .ok (.putfield 35, 3) := by decide +kernel
theorem dX6_rejectionDetail_16 : decode cX6_rejectionDetail 16 = .ok (.aload_n 0, 1) := by decide +kernel
theorem dX6_rejectionDetail_17 : decode cX6_rejectionDetail 17 = .ok (.getfield 35, 3) := by decide +kernel
theorem dX6_rejectionDetail_20 : decode cX6_rejectionDetail 20 = .ok (.ifCond .ne 10, 3) := by decide +kernel
theorem dX6_rejectionDetail_23 : decode cX6_rejectionDetail 23 = .ok (.aload_n 0, 1) := by decide +kernel
theorem dX6_rejectionDetail_24 : decode cX6_rejectionDetail 24 = .ok (.getfield 41, 3) := by decide +kernel
theorem dX6_rejectionDetail_27 : decode cX6_rejectionDetail 27 = .ok (.goto 4, 3) := by decide +kernel
theorem dX6_rejectionDetail_30 : decode cX6_rejectionDetail 30 = .ok (.iconst 0, 1) := by decide +kernel
theorem dX6_rejectionDetail_31 : decode cX6_rejectionDetail 31 = .ok (.ireturn, 1) := by decide +kernel
theorem dX6_causeReason_0 : decode cX6_causeReason 0 = .ok (.aload_n 0, 1) := by decide +kernel
theorem dX6_causeReason_1 : decode cX6_causeReason 1 = .ok (.aload_n 0, 1) := by decide +kernel
theorem dX6_causeReason_2 : decode cX6_causeReason 2 = .ok (.getfield 44, 3) := by decide +kernel
theorem dX6_causeReason_5 : decode cX6_causeReason 5 = .ok (.ifCond .ne 7, 3) := by decide +kernel
theorem dX6_causeReason_8 : decode cX6_causeReason 8 = .ok (.iconst 1, 1) := by decide +kernel
theorem dX6_causeReason_9 : decode cX6_causeReason 9 = .ok (.goto 4, 3) := by decide +kernel
theorem dX6_causeReason_12 : decode cX6_causeReason 12 = .ok (.iconst 0, 1) := by decide +kernel
theorem dX6_causeReason_13 : decode cX6_causeReason 13 = .ok (.putfield 35, 3) := by decide +kernel
theorem dX6_causeReason_16 : decode cX6_causeReason 16 = .ok (.aload_n 0, 1) := by decide +kernel
theorem dX6_causeReason_17 : decode cX6_causeReason 17 = .ok (.getfield 44, 3) := by decide +kernel
theorem dX6_causeReason_20 : decode cX6_causeReason 20 = .ok (.ireturn, 1) := by decide +kernel
theorem dX6_undo_0 : decode cX6_undo 0 = .ok (.aload_n 0, 1) := by decide +kernel
theorem dX6_undo_1 : decode cX6_undo 1 = .ok (.aload_n 0, 1) := by decide +kernel
theorem dX6_undo_2 : decode cX6_undo 2 = .ok (.getfield 59, 3) := by decide +kernel
theorem dX6_undo_5 : decode cX6_undo 5 = .ok (.ifCond .ne 7, 3) := by decide +kernel
theorem dX6_undo_8 : decode cX6_undo 8 = .ok (.iconst 1, 1) := by decide +kernel
theorem dX6_undo_9 : decode cX6_undo 9 = .ok (.goto 4, 3) := by decide +kernel
theorem dX6_undo_12 : decode cX6_undo 12 = .ok (.iconst 0, 1) := by decide +kernel
theorem dX6_undo_13 : decode cX6_undo 13 = .ok (.putfield 35, 3) := by decide +kernel
theorem dX6_undo_16 : decode cX6_undo 16 = .ok (.aload_n 0, 1) := by decide +kernel
theorem dX6_undo_17 : decode cX6_undo 17 = .ok (.getfield 35, 3) := by decide +kernel
theorem dX6_undo_20 : decode cX6_undo 20 = .ok (.ifCond .eq 5, 3) := by decide +kernel
theorem dX6_undo_23 : decode cX6_undo 23 = .ok (.iconst 0, 1) := by decide +kernel
theorem dX6_undo_24 : decode cX6_undo 24 = .ok (.ireturn, 1) := by decide +kernel
theorem dX6_undo_25 : decode cX6_undo 25 = .ok (.aload_n 0, 1) := by decide +kernel
theorem dX6_undo_26 : decode cX6_undo 26 = .ok (.dup, 1) := by decide +kernel
theorem dX6_undo_27 : decode cX6_undo 27 = .ok (.getfield 59, 3) := by decide +kernel
theorem dX6_undo_30 : decode cX6_undo 30 = .ok (.iconst 1, 1) := by decide +kernel
theorem dX6_undo_31 : decode cX6_undo 31 = .ok (.isub, 1) := by decide +kernel
theorem dX6_undo_32 : decode cX6_undo 32 = .ok (.putfield 59, 3) := by decide +kernel
theorem dX6_undo_35 : decode cX6_undo 35 = .ok (.iconst 0, 1) := by decide +kernel
theorem dX6_undo_36 : decode cX6_undo 36 = .ok (.istore_n 1, 1) := by decide +kernel
theorem dX6_undo_37 : decode cX6_undo 37 = .ok (.iload_n 1, 1) := by decide +kernel
theorem dX6_undo_38 : decode cX6_undo 38 = .ok (.sipush 188, 3) := by decide +kernel
theorem dX6_undo_41 : decode cX6_undo 41 = .ok (.if_icmp .ge 30, 3) := by decide +kernel
theorem dX6_undo_44 : decode cX6_undo 44 = .ok (.aload_n 0, 1) := by decide +kernel
theorem dX6_undo_45 : decode cX6_undo 45 = .ok (.getfield 13, 3) := by decide +kernel
theorem dX6_undo_48 : decode cX6_undo 48 = .ok (.iload_n 1, 1) := by decide +kernel
theorem dX6_undo_49 : decode cX6_undo 49 = .ok (.aload_n 0, 1) := by decide +kernel
theorem dX6_undo_50 : decode cX6_undo 50 = .ok (.getfield 26, 3) := by decide +kernel
theorem dX6_undo_53 : decode cX6_undo 53 = .ok (.aload_n 0, 1) := by decide +kernel
theorem dX6_undo_54 : decode cX6_undo 54 = .ok (.getfield 59, 3) := by decide +kernel
theorem dX6_undo_57 : decode cX6_undo 57 = .ok (.sipush 188, 3) := by decide +kernel
theorem dX6_undo_60 : decode cX6_undo 60 = .ok (.imul, 1) := by decide +kernel
theorem dX6_undo_61 : decode cX6_undo 61 = .ok (.iload_n 1, 1) := by decide +kernel
theorem dX6_undo_62 : decode cX6_undo 62 = .ok (.iadd, 1) := by decide +kernel
theorem dX6_undo_63 : decode cX6_undo 63 = .ok (.iaload, 1) := by decide +kernel
theorem dX6_undo_64 : decode cX6_undo 64 = .ok (.iastore, 1) := by decide +kernel
theorem dX6_undo_65 : decode cX6_undo 65 = .ok (.iinc 1 1, 3) := by decide +kernel
theorem dX6_undo_68 : decode cX6_undo 68 = .ok (.goto (-31), 3) := by decide +kernel
theorem dX6_undo_71 : decode cX6_undo 71 = .ok (.aload_n 0, 1) := by decide +kernel
theorem dX6_undo_72 : decode cX6_undo 72 = .ok (.getfield 59, 3) := by decide +kernel
theorem dX6_undo_75 : decode cX6_undo 75 = .ok (.ireturn, 1) := by decide +kernel
theorem dX6_saveSnapshot_0 : decode cX6_saveSnapshot 0 = .ok (.aload_n 0, 1) := by decide +kernel
theorem dX6_saveSnapshot_1 : decode cX6_saveSnapshot 1 = .ok (.iconst 0, 1) := by decide +kernel
theorem dX6_saveSnapshot_2 : decode cX6_saveSnapshot 2 = .ok (.putfield 35, 3) := by decide +kernel
theorem dX6_saveSnapshot_5 : decode cX6_saveSnapshot 5 = .ok (.aload_n 0, 1) := by decide +kernel
theorem dX6_saveSnapshot_6 : decode cX6_saveSnapshot 6 = .ok (.getfield 20, 3) := by decide +kernel
theorem dX6_saveSnapshot_9 : decode cX6_saveSnapshot 9 = .ok (.aload_n 0, 1) := by decide +kernel
theorem dX6_saveSnapshot_10 : decode cX6_saveSnapshot 10 = .ok (.getfield 13, 3) := by decide +kernel
theorem dX6_saveSnapshot_13 : decode cX6_saveSnapshot 13 = .ok (.invokestatic 55, 3) := by decide +kernel
theorem dX6_saveSnapshot_16 : decode cX6_saveSnapshot 16 = .ok (.aload_n 0, 1) := by decide +kernel
theorem dX6_saveSnapshot_17 : decode cX6_saveSnapshot 17 = .ok (.iconst 1, 1) := by decide +kernel
theorem dX6_saveSnapshot_18 : decode cX6_saveSnapshot 18 = .ok (.putfield 227, 3) := by decide +kernel
theorem dX6_saveSnapshot_21 : decode cX6_saveSnapshot 21 = .ok (.aload_n 0, 1) := by decide +kernel
theorem dX6_saveSnapshot_22 : decode cX6_saveSnapshot 22 = .ok (.getfield 13, 3) := by decide +kernel
theorem dX6_saveSnapshot_25 : decode cX6_saveSnapshot 25 = .ok (.iconst 5, 1) := by decide +kernel
theorem dX6_saveSnapshot_26 : decode cX6_saveSnapshot 26 = .ok (.iaload, 1) := by decide +kernel
theorem dX6_saveSnapshot_27 : decode cX6_saveSnapshot 27 = .ok (.ireturn, 1) := by decide +kernel
theorem dX6_restoreSnapshot_0 : decode cX6_restoreSnapshot 0 = .ok (.aload_n 0, 1) := by decide +kernel
theorem dX6_restoreSnapshot_1 : decode cX6_restoreSnapshot 1 = .ok (.aload_n 0, 1) := by decide +kernel
theorem dX6_restoreSnapshot_2 : decode cX6_restoreSnapshot 2 = .ok (.getfield 227, 3) := by decide +kernel
theorem dX6_restoreSnapshot_5 : decode cX6_restoreSnapshot 5 = .ok (.ifCond .eq 7, 3) := by decide +kernel
theorem dX6_restoreSnapshot_8 : decode cX6_restoreSnapshot 8 = .ok (.iconst 0, 1) := by decide +kernel
theorem dX6_restoreSnapshot_9 : decode cX6_restoreSnapshot 9 = .ok (.goto 4, 3) := by decide +kernel
theorem dX6_restoreSnapshot_12 : decode cX6_restoreSnapshot 12 = .ok (.iconst 1, 1) := by decide +kernel
theorem dX6_restoreSnapshot_13 : decode cX6_restoreSnapshot 13 = .ok (.putfield 35, 3) := by decide +kernel
theorem dX6_restoreSnapshot_16 : decode cX6_restoreSnapshot 16 = .ok (.aload_n 0, 1) := by decide +kernel
theorem dX6_restoreSnapshot_17 : decode cX6_restoreSnapshot 17 = .ok (.getfield 35, 3) := by decide +kernel
theorem dX6_restoreSnapshot_20 : decode cX6_restoreSnapshot 20 = .ok (.ifCond .eq 5, 3) := by decide +kernel
theorem dX6_restoreSnapshot_23 : decode cX6_restoreSnapshot 23 = .ok (.iconst 0, 1) := by decide +kernel
theorem dX6_restoreSnapshot_24 : decode cX6_restoreSnapshot 24 = .ok (.ireturn, 1) := by decide +kernel
theorem dX6_restoreSnapshot_25 : decode cX6_restoreSnapshot 25 = .ok (.aload_n 0, 1) := by decide +kernel
theorem dX6_restoreSnapshot_26 : decode cX6_restoreSnapshot 26 = .ok (.getfield 13, 3) := by decide +kernel
theorem dX6_restoreSnapshot_29 : decode cX6_restoreSnapshot 29 = .ok (.aload_n 0, 1) := by decide +kernel
theorem dX6_restoreSnapshot_30 : decode cX6_restoreSnapshot 30 = .ok (.getfield 20, 3) := by decide +kernel
theorem dX6_restoreSnapshot_33 : decode cX6_restoreSnapshot 33 = .ok (.invokestatic 55, 3) := by decide +kernel
theorem dX6_restoreSnapshot_36 : decode cX6_restoreSnapshot 36 = .ok (.aload_n 0, 1) := by decide +kernel
theorem dX6_restoreSnapshot_37 : decode cX6_restoreSnapshot 37 = .ok (.iconst 0, 1) := by decide +kernel
theorem dX6_restoreSnapshot_38 : decode cX6_restoreSnapshot 38 = .ok (.putfield 59, 3) := by decide +kernel
theorem dX6_restoreSnapshot_41 : decode cX6_restoreSnapshot 41 = .ok (.aload_n 0, 1) := by decide +kernel
theorem dX6_restoreSnapshot_42 : decode cX6_restoreSnapshot 42 = .ok (.getfield 13, 3) := by decide +kernel
theorem dX6_restoreSnapshot_45 : decode cX6_restoreSnapshot 45 = .ok (.iconst 5, 1) := by decide +kernel
theorem dX6_restoreSnapshot_46 : decode cX6_restoreSnapshot 46 = .ok (.iaload, 1) := by decide +kernel
theorem dX6_restoreSnapshot_47 : decode cX6_restoreSnapshot 47 = .ok (.ireturn, 1) := by decide +kernel
