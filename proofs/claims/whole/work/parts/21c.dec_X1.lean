theorem dX1_goThroughNights_16 : decode cX1_goThroughNights 16 = .ok (.invokevirtual 154, 3) := by decide +kernel
theorem dX1_goThroughNights_19 : decode cX1_goThroughNights 19 = .ok (.aload_n 0, 1) := by decide +kernel
theorem dX1_goThroughNights_20 : decode cX1_goThroughNights 20 = .ok (.invokevirtual 157, 3) := by decide +kernel
theorem dX1_goThroughNights_23 : decode cX1_goThroughNights 23 = .ok (.aload_n 0, 1) := by decide +kernel
theorem dX1_goThroughNights_24 : decode cX1_goThroughNights 24 = .ok (.getfield 62, 3) := by decide +kernel
theorem dX1_goThroughNights_27 : decode cX1_goThroughNights 27 = .ok (.bipush 14, 2) := by decide +kernel
theorem dX1_goThroughNights_29 : decode cX1_goThroughNights 29 = .ok (.invokestatic 101, 3) := by decide +kernel
theorem dX1_goThroughNights_32 : decode cX1_goThroughNights 32 = .ok (.bipush 13, 2) := by decide +kernel
theorem dX1_goThroughNights_34 : decode cX1_goThroughNights 34 = .ok (.if_icmp .ne 7, 3) := by decide +kernel
theorem dX1_goThroughNights_37 : decode cX1_goThroughNights 37 = .ok (.aload_n 0, 1) := by decide +kernel
theorem dX1_goThroughNights_38 : decode cX1_goThroughNights 38 = .ok (.invokevirtual 160, 3) := by decide +kernel
theorem dX1_goThroughNights_41 : decode cX1_goThroughNights 41 = .ok (.aload_n 0, 1) := by decide +kernel
theorem dX1_goThroughNights_42 : decode cX1_goThroughNights 42 = .ok (.dup, 1) := by decide +kernel
theorem dX1_goThroughNights_43 : decode cX1_goThroughNights 43 = .ok (.getfield 62, 3) := by decide +kernel
theorem dX1_goThroughNights_46 : decode cX1_goThroughNights 46 = .ok (.iconst 1, 1) := by decide +kernel
theorem dX1_goThroughNights_47 : decode cX1_goThroughNights 47 = .ok (.iadd, 1) := by decide +kernel
theorem dX1_goThroughNights_48 : decode cX1_goThroughNights 48 = .ok (.putfield 62, 3) := by decide +kernel
theorem dX1_goThroughNights_51 : decode cX1_goThroughNights 51 = .ok (.iinc 2 1, 3) := by decide +kernel
theorem dX1_goThroughNights_54 : decode cX1_goThroughNights 54 = .ok (.goto (-52), 3) := by decide +kernel
theorem dX1_goThroughNights_57 : decode cX1_goThroughNights 57 = .ok (.return_, 1) := by decide +kernel
theorem dX1_catchEels_0 : decode cX1_catchEels 0 = .ok (.aload_n 0, 1) := by decide +kernel
theorem dX1_catchEels_1 : decode cX1_catchEels 1 = .ok (.invokevirtual 111, 3) := by decide +kernel
theorem dX1_catchEels_4 : decode cX1_catchEels 4 = .ok (.istore_n 1, 1) := by decide +kernel
theorem dX1_catchEels_5 : decode cX1_catchEels 5 = .ok (.iconst 0, 1) := by decide +kernel
theorem dX1_catchEels_6 : decode cX1_catchEels 6 = .ok (.istore_n 2, 1) := by decide +kernel
theorem dX1_catchEels_7 : decode cX1_catchEels 7 = .ok (.iload_n 2, 1) := by decide +kernel
theorem dX1_catchEels_8 : decode cX1_catchEels 8 = .ok (.aload_n 0, 1) := by decide +kernel
theorem dX1_catchEels_9 : decode cX1_catchEels 9 = .ok (.getfield 39, 3) := by decide +kernel
theorem dX1_catchEels_12 : decode cX1_catchEels 12 = .ok (.if_icmp .ge 38, 3) := by decide +kernel
theorem dX1_catchEels_15 : decode cX1_catchEels 15 = .ok (.aload_n 0, 1) := by decide +kernel
theorem dX1_catchEels_16 : decode cX1_catchEels 16 = .ok (.aload_n 0, 1) := by decide +kernel
theorem dX1_catchEels_17 : decode cX1_catchEels 17 = .ok (.iload_n 2, 1) := by decide +kernel
theorem dX1_catchEels_18 : decode cX1_catchEels 18 = .ok (.invokevirtual 36, 3) := by decide +kernel
theorem dX1_catchEels_21 : decode cX1_catchEels 21 = .ok (.invokevirtual 43, 3) := by decide +kernel
theorem dX1_catchEels_24 : decode cX1_catchEels 24 = .ok (.astore_n 3, 1) := by decide +kernel
theorem dX1_catchEels_25 : decode cX1_catchEels 25 = .ok (.aload_n 3, 1) := by decide +kernel
theorem dX1_catchEels_26 : decode cX1_catchEels 26 = .ok (.ifnull 18, 3) := by decide +kernel
theorem dX1_catchEels_29 : decode cX1_catchEels 29 = .ok (.aload_n 3, 1) := by decide +kernel
theorem dX1_catchEels_30 : decode cX1_catchEels 30 = .ok (.invokevirtual 163, 3) := by decide +kernel
theorem dX1_catchEels_33 : decode cX1_catchEels 33 = .ok (.ifCond .eq 11, 3) := by decide +kernel
theorem dX1_catchEels_36 : decode cX1_catchEels 36 = .ok (.iload_n 1, 1) := by decide +kernel
theorem dX1_catchEels_37 : decode cX1_catchEels 37 = .ok (.aload_n 3, 1) := by decide +kernel
theorem dX1_catchEels_38 : decode cX1_catchEels 38 = .ok (.iload_n 1, 1) := by decide +kernel
theorem dX1_catchEels_39 : decode cX1_catchEels 39 = .ok (.invokevirtual 166, 3) := by decide +kernel
theorem dX1_catchEels_42 : decode cX1_catchEels 42 = .ok (.isub, 1) := by decide +kernel
theorem dX1_catchEels_43 : decode cX1_catchEels 43 = .ok (.istore_n 1, 1) := by decide +kernel
theorem dX1_catchEels_44 : decode cX1_catchEels 44 = .ok (.iinc 2 1, 3) := by decide +kernel
theorem dX1_catchEels_47 : decode cX1_catchEels 47 = .ok (.goto (-40), 3) := by decide +kernel
theorem dX1_catchEels_50 : decode cX1_catchEels 50 = .ok (.return_, 1) := by decide +kernel
theorem dX1_moveBarges_0 : decode cX1_moveBarges 0 = .ok (.iconst 0, 1) := by decide +kernel
theorem dX1_moveBarges_1 : decode cX1_moveBarges 1 = .ok (.istore_n 1, 1) := by decide +kernel
theorem dX1_moveBarges_2 : decode cX1_moveBarges 2 = .ok (.iload_n 1, 1) := by decide +kernel
theorem dX1_moveBarges_3 : decode cX1_moveBarges 3 = .ok (.aload_n 0, 1) := by decide +kernel
theorem dX1_moveBarges_4 : decode cX1_moveBarges 4 = .ok (.getfield 51, 3) := by decide +kernel
theorem dX1_moveBarges_7 : decode cX1_moveBarges 7 = .ok (.if_icmp .ge 51, 3) := by decide +kernel
theorem dX1_moveBarges_10 : decode cX1_moveBarges 10 = .ok (.aload_n 0, 1) := by decide +kernel
theorem dX1_moveBarges_11 : decode cX1_moveBarges 11 = .ok (.iload_n 1, 1) := by decide +kernel
theorem dX1_moveBarges_12 : decode cX1_moveBarges 12 = .ok (.invokevirtual 54, 3) := by decide +kernel
theorem dX1_moveBarges_15 : decode cX1_moveBarges 15 = .ok (.astore_n 2, 1) := by decide +kernel
theorem dX1_moveBarges_16 : decode cX1_moveBarges 16 = .ok (.aload_n 2, 1) := by decide +kernel
theorem dX1_moveBarges_17 : decode cX1_moveBarges 17 = .ok (.ifnull 35, 3) := by decide +kernel
theorem dX1_moveBarges_20 : decode cX1_moveBarges 20 = .ok (.aload_n 0, 1) := by decide +kernel
theorem dX1_moveBarges_21 : decode cX1_moveBarges 21 = .ok (.aload_n 0, 1) := by decide +kernel
theorem dX1_moveBarges_22 : decode cX1_moveBarges 22 = .ok (.aload_n 2, 1) := by decide +kernel
theorem dX1_moveBarges_23 : decode cX1_moveBarges 23 = .ok (.invokevirtual 127, 3) := by decide +kernel
theorem dX1_moveBarges_26 : decode cX1_moveBarges 26 = .ok (.invokevirtual 43, 3) := by decide +kernel
theorem dX1_moveBarges_29 : decode cX1_moveBarges 29 = .ok (.astore_n 3, 1) := by decide +kernel
theorem dX1_moveBarges_30 : decode cX1_moveBarges 30 = .ok (.aload_n 2, 1) := by decide +kernel
theorem dX1_moveBarges_31 : decode cX1_moveBarges 31 = .ok (.aload_n 3, 1) := by decide +kernel
theorem dX1_moveBarges_32 : decode cX1_moveBarges 32 = .ok (.ifnonnull 8, 3) := by decide +kernel
theorem dX1_moveBarges_35 : decode cX1_moveBarges 35 = .ok (.bipush 39, 2) := by decide +kernel
theorem dX1_moveBarges_37 : decode cX1_moveBarges 37 = .ok (.goto 7, 3) := by decide +kernel
theorem dX1_moveBarges_40 : decode cX1_moveBarges 40 = .ok (.aload_n 3, 1) := by decide +kernel
theorem dX1_moveBarges_41 : decode cX1_moveBarges 41 = .ok (.getfield 93, 3) := by decide +kernel
theorem dX1_moveBarges_44 : decode cX1_moveBarges 44 = .ok (.invokevirtual 169, 3) := by decide +kernel
theorem dX1_moveBarges_47 : decode cX1_moveBarges 47 = .ok (.aload_n 0, 1) := by decide +kernel
theorem dX1_moveBarges_48 : decode cX1_moveBarges 48 = .ok (.aload_n 2, 1) := by decide +kernel
theorem dX1_moveBarges_49 : decode cX1_moveBarges 49 = .ok (.invokevirtual 173, 3) := by decide +kernel
theorem dX1_moveBarges_52 : decode cX1_moveBarges 52 = .ok (.iinc 1 1, 3) := by decide +kernel
theorem dX1_moveBarges_55 : decode cX1_moveBarges 55 = .ok (.goto (-53), 3) := by decide +kernel
theorem dX1_moveBarges_58 : decode cX1_moveBarges 58 = .ok (.return_, 1) := by decide +kernel
theorem dX1_breakThrough_0 : decode cX1_breakThrough 0 = .ok (.iconst 0, 1) := by decide +kernel
theorem dX1_breakThrough_1 : decode cX1_breakThrough 1 = .ok (.istore_n 2, 1) := by decide +kernel
theorem dX1_breakThrough_2 : decode cX1_breakThrough 2 = .ok (.iload_n 2, 1) := by decide +kernel
theorem dX1_breakThrough_3 : decode cX1_breakThrough 3 = .ok (.aload_n 0, 1) := by decide +kernel
theorem dX1_breakThrough_4 : decode cX1_breakThrough 4 = .ok (.getfield 39, 3) := by decide +kernel
theorem dX1_breakThrough_7 : decode cX1_breakThrough 7 = .ok (.if_icmp .ge 68, 3) := by decide +kernel
theorem dX1_breakThrough_10 : decode cX1_breakThrough 10 = .ok (.aload_n 0, 1) := by decide +kernel
theorem dX1_breakThrough_11 : decode cX1_breakThrough 11 = .ok (.iload_n 2, 1) := by decide +kernel
theorem dX1_breakThrough_12 : decode cX1_breakThrough 12 = .ok (.invokevirtual 43, 3) := by decide +kernel
theorem dX1_breakThrough_15 : decode cX1_breakThrough 15 = .ok (.astore_n 3, 1) := by decide +kernel
theorem dX1_breakThrough_16 : decode cX1_breakThrough 16 = .ok (.aload_n 3, 1) := by decide +kernel
theorem dX1_breakThrough_17 : decode cX1_breakThrough 17 = .ok (.ifnull 52, 3) := by decide +kernel
theorem dX1_breakThrough_20 : decode cX1_breakThrough 20 = .ok (.aload_n 3, 1) := by decide +kernel
theorem dX1_breakThrough_21 : decode cX1_breakThrough 21 = .ok (.getfield 93, 3) := by decide +kernel
theorem dX1_breakThrough_24 : decode cX1_breakThrough 24 = .ok (.aload_n 1, 1) := by decide +kernel
theorem dX1_breakThrough_25 : decode cX1_breakThrough 25 = .ok (.getfield 123, 3) := by decide +kernel
theorem dX1_breakThrough_28 : decode cX1_breakThrough 28 = .ok (.if_icmp .ne 41, 3) := by decide +kernel
theorem dX1_breakThrough_31 : decode cX1_breakThrough 31 = .ok (.aload_n 3, 1) := by decide +kernel
theorem dX1_breakThrough_32 : decode cX1_breakThrough 32 = .ok (.aload_n 1, 1) := by decide +kernel
theorem dX1_breakThrough_33 : decode cX1_breakThrough 33 = .ok (.getfield 120, 3) := by decide +kernel
theorem dX1_breakThrough_36 : decode cX1_breakThrough 36 = .ok (.invokevirtual 141, 3) := by decide +kernel
theorem dX1_breakThrough_39 : decode cX1_breakThrough 39 = .ok (.ifCond .eq 30, 3) := by decide +kernel
theorem dX1_breakThrough_42 : decode cX1_breakThrough 42 = .ok (.aload_n 0, 1) := by decide +kernel
theorem dX1_breakThrough_43 : decode cX1_breakThrough 43 = .ok (.dup, 1) := by decide +kernel
theorem dX1_breakThrough_44 : decode cX1_breakThrough 44 = .ok (.getfield 68, 3) := by decide +kernel
theorem dX1_breakThrough_47 : decode cX1_breakThrough 47 = .ok (.aload_n 3, 1) := by decide +kernel
theorem dX1_breakThrough_48 : decode cX1_breakThrough 48 = .ok (.aload_n 1, 1) := by decide +kernel
theorem dX1_breakThrough_49 : decode cX1_breakThrough 49 = .ok (.getfield 120, 3) := by decide +kernel
theorem dX1_breakThrough_52 : decode cX1_breakThrough 52 = .ok (.invokevirtual 176, 3) := by decide +kernel
theorem dX1_breakThrough_55 : decode cX1_breakThrough 55 = .ok (.iadd, 1) := by decide +kernel
theorem dX1_breakThrough_56 : decode cX1_breakThrough 56 = .ok (.putfield 68, 3) := by decide +kernel
theorem dX1_breakThrough_59 : decode cX1_breakThrough 59 = .ok (.aload_n 1, 1) := by decide +kernel
theorem dX1_breakThrough_60 : decode cX1_breakThrough 60 = .ok (.dup, 1) := by decide +kernel
theorem dX1_breakThrough_61 : decode cX1_breakThrough 61 = .ok (.getfield 124, 3) := by decide +kernel
theorem dX1_breakThrough_64 : decode cX1_breakThrough 64 = .ok (.iconst 1, 1) := by decide +kernel
theorem dX1_breakThrough_65 : decode cX1_breakThrough 65 = .ok (.iadd, 1) := by decide +kernel
theorem dX1_breakThrough_66 : decode cX1_breakThrough 66 = .ok (.putfield 124, 3) := by decide +kernel
theorem dX1_breakThrough_69 : decode cX1_breakThrough 69 = .ok (.iinc 2 1, 3) := by decide +kernel
theorem dX1_breakThrough_72 : decode cX1_breakThrough 72 = .ok (.goto (-70), 3) := by decide +kernel
theorem dX1_breakThrough_75 : decode cX1_breakThrough 75 = .ok (.return_, 1) := by decide +kernel
theorem dX1_leaveOutArrived_0 : decode cX1_leaveOutArrived 0 = .ok (.iconst 0, 1) := by decide +kernel
theorem dX1_leaveOutArrived_1 : decode cX1_leaveOutArrived 1 = .ok (.istore_n 1, 1) := by decide +kernel
theorem dX1_leaveOutArrived_2 : decode cX1_leaveOutArrived 2 = .ok (.iconst 0, 1) := by decide +kernel
theorem dX1_leaveOutArrived_3 : decode cX1_leaveOutArrived 3 = .ok (.istore_n 2, 1) := by decide +kernel
theorem dX1_leaveOutArrived_4 : decode cX1_leaveOutArrived 4 = .ok (.iload_n 2, 1) := by decide +kernel
theorem dX1_leaveOutArrived_5 : decode cX1_leaveOutArrived 5 = .ok (.aload_n 0, 1) := by decide +kernel
theorem dX1_leaveOutArrived_6 : decode cX1_leaveOutArrived 6 = .ok (.getfield 51, 3) := by decide +kernel
theorem dX1_leaveOutArrived_9 : decode cX1_leaveOutArrived 9 = .ok (.if_icmp .ge 40, 3) := by decide +kernel
theorem dX1_leaveOutArrived_12 : decode cX1_leaveOutArrived 12 = .ok (.aload_n 0, 1) := by decide +kernel
theorem dX1_leaveOutArrived_13 : decode cX1_leaveOutArrived 13 = .ok (.iload_n 2, 1) := by decide +kernel
theorem dX1_leaveOutArrived_14 : decode cX1_leaveOutArrived 14 = .ok (.invokevirtual 54, 3) := by decide +kernel
theorem dX1_leaveOutArrived_17 : decode cX1_leaveOutArrived 17 = .ok (.astore_n 3, 1) := by decide +kernel
theorem dX1_leaveOutArrived_18 : decode cX1_leaveOutArrived 18 = .ok (.aload_n 3, 1) := by decide +kernel
theorem dX1_leaveOutArrived_19 : decode cX1_leaveOutArrived 19 = .ok (.ifnull 24, 3) := by decide +kernel
theorem dX1_leaveOutArrived_22 : decode cX1_leaveOutArrived 22 = .ok (.aload_n 3, 1) := by decide +kernel
theorem dX1_leaveOutArrived_23 : decode cX1_leaveOutArrived 23 = .ok (.getfield 123, 3) := by decide +kernel
theorem dX1_leaveOutArrived_26 : decode cX1_leaveOutArrived 26 = .ok (.bipush 39, 2) := by decide +kernel
theorem dX1_leaveOutArrived_28 : decode cX1_leaveOutArrived 28 = .ok (.if_icmp .ge 15, 3) := by decide +kernel
theorem dX1_leaveOutArrived_31 : decode cX1_leaveOutArrived 31 = .ok (.aload_n 0, 1) := by decide +kernel
theorem dX1_leaveOutArrived_32 : decode cX1_leaveOutArrived 32 = .ok (.iload_n 1, 1) := by decide +kernel
theorem dX1_leaveOutArrived_33 : decode cX1_leaveOutArrived 33 = .ok (.invokevirtual 54, 3) := by decide +kernel
theorem dX1_leaveOutArrived_36 : decode cX1_leaveOutArrived 36 = .ok (.aload_n 3, 1) := by decide +kernel
theorem dX1_leaveOutArrived_37 : decode cX1_leaveOutArrived 37 = .ok (.invokestatic 58, 3) := by decide +kernel
theorem dX1_leaveOutArrived_40 : decode cX1_leaveOutArrived 40 = .ok (.iinc 1 1, 3) := by decide +kernel
theorem dX1_leaveOutArrived_43 : decode cX1_leaveOutArrived 43 = .ok (.iinc 2 1, 3) := by decide +kernel
theorem dX1_leaveOutArrived_46 : decode cX1_leaveOutArrived 46 = .ok (.goto (-42), 3) := by decide +kernel
theorem dX1_leaveOutArrived_49 : decode cX1_leaveOutArrived 49 = .ok (.aload_n 0, 1) := by decide +kernel
theorem dX1_leaveOutArrived_50 : decode cX1_leaveOutArrived 50 = .ok (.dup, 1) := by decide +kernel
theorem dX1_leaveOutArrived_51 : decode cX1_leaveOutArrived 51 = .ok (.getfield 65, 3) := by decide +kernel
theorem dX1_leaveOutArrived_54 : decode cX1_leaveOutArrived 54 = .ok (.aload_n 0, 1) := by decide +kernel
theorem dX1_leaveOutArrived_55 : decode cX1_leaveOutArrived 55 = .ok (.getfield 51, 3) := by decide +kernel
theorem dX1_leaveOutArrived_58 : decode cX1_leaveOutArrived 58 = .ok (.iload_n 1, 1) := by decide +kernel
theorem dX1_leaveOutArrived_59 : decode cX1_leaveOutArrived 59 = .ok (.isub, 1) := by decide +kernel
theorem dX1_leaveOutArrived_60 : decode cX1_leaveOutArrived 60 = .ok (.iadd, 1) := by decide +kernel
theorem dX1_leaveOutArrived_61 : decode cX1_leaveOutArrived 61 = .ok (.putfield 65, 3) := by decide +kernel
theorem dX1_leaveOutArrived_64 : decode cX1_leaveOutArrived 64 = .ok (.aload_n 0, 1) := by decide +kernel
theorem dX1_leaveOutArrived_65 : decode cX1_leaveOutArrived 65 = .ok (.iload_n 1, 1) := by decide +kernel
theorem dX1_leaveOutArrived_66 : decode cX1_leaveOutArrived 66 = .ok (.putfield 51, 3) := by decide +kernel
theorem dX1_leaveOutArrived_69 : decode cX1_leaveOutArrived 69 = .ok (.return_, 1) := by decide +kernel
theorem dX1_rotWattle_0 : decode cX1_rotWattle 0 = .ok (.aload_n 0, 1) := by decide +kernel
theorem dX1_rotWattle_1 : decode cX1_rotWattle 1 = .ok (.invokevirtual 107, 3) := by decide +kernel
theorem dX1_rotWattle_4 : decode cX1_rotWattle 4 = .ok (.iconst 1, 1) := by decide +kernel
theorem dX1_rotWattle_5 : decode cX1_rotWattle 5 = .ok (.if_icmp .ne 7, 3) := by decide +kernel
theorem dX1_rotWattle_8 : decode cX1_rotWattle 8 = .ok (.iconst 1, 1) := by decide +kernel
theorem dX1_rotWattle_9 : decode cX1_rotWattle 9 = .ok (.goto 4, 3) := by decide +kernel
theorem dX1_rotWattle_12 : decode cX1_rotWattle 12 = .ok (.iconst 3, 1) := by decide +kernel
theorem dX1_rotWattle_13 : decode cX1_rotWattle 13 = .ok (.istore_n 1, 1) := by decide +kernel
theorem dX1_rotWattle_14 : decode cX1_rotWattle 14 = .ok (.iconst 0, 1) := by decide +kernel
theorem dX1_rotWattle_15 : decode cX1_rotWattle 15 = .ok (.istore_n 2, 1) := by decide +kernel
theorem dX1_rotWattle_16 : decode cX1_rotWattle 16 = .ok (.iload_n 2, 1) := by decide +kernel
theorem dX1_rotWattle_17 : decode cX1_rotWattle 17 = .ok (.aload_n 0, 1) := by decide +kernel
theorem dX1_rotWattle_18 : decode cX1_rotWattle 18 = .ok (.getfield 39, 3) := by decide +kernel
theorem dX1_rotWattle_21 : decode cX1_rotWattle 21 = .ok (.if_icmp .ge 31, 3) := by decide +kernel
theorem dX1_rotWattle_24 : decode cX1_rotWattle 24 = .ok (.aload_n 0, 1) := by decide +kernel
theorem dX1_rotWattle_25 : decode cX1_rotWattle 25 = .ok (.iload_n 2, 1) := by decide +kernel
theorem dX1_rotWattle_26 : decode cX1_rotWattle 26 = .ok (.invokevirtual 43, 3) := by decide +kernel
theorem dX1_rotWattle_29 : decode cX1_rotWattle 29 = .ok (.astore_n 3, 1) := by decide +kernel
theorem dX1_rotWattle_30 : decode cX1_rotWattle 30 = .ok (.aload_n 3, 1) := by decide +kernel
theorem dX1_rotWattle_31 : decode cX1_rotWattle 31 = .ok (.ifnull 15, 3) := by decide +kernel
theorem dX1_rotWattle_34 : decode cX1_rotWattle 34 = .ok (.aload_n 3, 1) := by decide +kernel
theorem dX1_rotWattle_35 : decode cX1_rotWattle 35 = .ok (.invokevirtual 131, 3) := by decide +kernel
theorem dX1_rotWattle_38 : decode cX1_rotWattle 38 = .ok (.ifCond .eq 8, 3) := by decide +kernel
theorem dX1_rotWattle_41 : decode cX1_rotWattle 41 = .ok (.aload_n 3, 1) := by decide +kernel
theorem dX1_rotWattle_42 : decode cX1_rotWattle 42 = .ok (.iload_n 1, 1) := by decide +kernel
theorem dX1_rotWattle_43 : decode cX1_rotWattle 43 = .ok (.invokevirtual 179, 3) := by decide +kernel
theorem dX1_rotWattle_46 : decode cX1_rotWattle 46 = .ok (.iinc 2 1, 3) := by decide +kernel
theorem dX1_rotWattle_49 : decode cX1_rotWattle 49 = .ok (.goto (-33), 3) := by decide +kernel
theorem dX1_rotWattle_52 : decode cX1_rotWattle 52 = .ok (.return_, 1) := by decide +kernel
theorem dX1_collectRents_0 : decode cX1_collectRents 0 = .ok (.iconst 0, 1) := by decide +kernel
theorem dX1_collectRents_1 : decode cX1_collectRents 1 = .ok (.istore_n 1, 1) := by decide +kernel
theorem dX1_collectRents_2 : decode cX1_collectRents 2 = .ok (.iload_n 1, 1) := by decide +kernel
theorem dX1_collectRents_3 : decode cX1_collectRents 3 = .ok (.aload_n 0, 1) := by decide +kernel
theorem dX1_collectRents_4 : decode cX1_collectRents 4 = .ok (.getfield 39, 3) := by decide +kernel
theorem dX1_collectRents_7 : decode cX1_collectRents 7 = .ok (.if_icmp .ge 39, 3) := by decide +kernel
theorem dX1_collectRents_10 : decode cX1_collectRents 10 = .ok (.aload_n 0, 1) := by decide +kernel
theorem dX1_collectRents_11 : decode cX1_collectRents 11 = .ok (.iload_n 1, 1) := by decide +kernel
theorem dX1_collectRents_12 : decode cX1_collectRents 12 = .ok (.invokevirtual 43, 3) := by decide +kernel
theorem dX1_collectRents_15 : decode cX1_collectRents 15 = .ok (.astore_n 2, 1) := by decide +kernel
theorem dX1_collectRents_16 : decode cX1_collectRents 16 = .ok (.aload_n 2, 1) := by decide +kernel
theorem dX1_collectRents_17 : decode cX1_collectRents 17 = .ok (.ifnull 23, 3) := by decide +kernel
theorem dX1_collectRents_20 : decode cX1_collectRents 20 = .ok (.aload_n 2, 1) := by decide +kernel
theorem dX1_collectRents_21 : decode cX1_collectRents 21 = .ok (.invokevirtual 131, 3) := by decide +kernel
theorem dX1_collectRents_24 : decode cX1_collectRents 24 = .ok (.ifCond .eq 16, 3) := by decide +kernel
theorem dX1_collectRents_27 : decode cX1_collectRents 27 = .ok (.aload_n 0, 1) := by decide +kernel
theorem dX1_collectRents_28 : decode cX1_collectRents 28 = .ok (.dup, 1) := by decide +kernel
theorem dX1_collectRents_29 : decode cX1_collectRents 29 = .ok (.getfield 71, 3) := by decide +kernel
theorem dX1_collectRents_32 : decode cX1_collectRents 32 = .ok (.aload_n 2, 1) := by decide +kernel
theorem dX1_collectRents_33 : decode cX1_collectRents 33 = .ok (.invokevirtual 182, 3) := by decide +kernel
theorem dX1_collectRents_36 : decode cX1_collectRents 36 = .ok (.iadd, 1) := by decide +kernel
theorem dX1_collectRents_37 : decode cX1_collectRents 37 = .ok (.putfield 71, 3) := by decide +kernel
theorem dX1_collectRents_40 : decode cX1_collectRents 40 = .ok (.iinc 1 1, 3) := by decide +kernel
theorem dX1_collectRents_43 : decode cX1_collectRents 43 = .ok (.goto (-41), 3) := by decide +kernel
theorem dX1_collectRents_46 : decode cX1_collectRents 46 = .ok (.return_, 1) := by decide +kernel
