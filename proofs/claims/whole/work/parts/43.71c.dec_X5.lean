theorem dX5_bargeTold_22 : decode cX5_bargeTold 22 = .ok (.getfield 24, 3) := by decide +kernel
theorem dX5_bargeTold_25 : decode cX5_bargeTold 25 = .ok (.getfield 78, 3) := by decide +kernel
theorem dX5_bargeTold_28 : decode cX5_bargeTold 28 = .ok (.iload_n 1, 1) := by decide +kernel
theorem dX5_bargeTold_29 : decode cX5_bargeTold 29 = .ok (.iaload, 1) := by decide +kernel
theorem dX5_bargeTold_30 : decode cX5_bargeTold 30 = .ok (.goto 25, 3) := by decide +kernel
theorem dX5_bargeTold_33 : decode cX5_bargeTold 33 = .ok (.iload_n 2, 1) := by decide +kernel
theorem dX5_bargeTold_34 : decode cX5_bargeTold 34 = .ok (.iconst 2, 1) := by decide +kernel
theorem dX5_bargeTold_35 : decode cX5_bargeTold 35 = .ok (.if_icmp .ne 15, 3) := by decide +kernel
theorem dX5_bargeTold_38 : decode cX5_bargeTold 38 = .ok (.aload_n 0, 1) := by decide +kernel
theorem dX5_bargeTold_39 : decode cX5_bargeTold 39 = .ok (.getfield 24, 3) := by decide +kernel
theorem dX5_bargeTold_42 : decode cX5_bargeTold 42 = .ok (.getfield 81, 3) := by decide +kernel
theorem dX5_bargeTold_45 : decode cX5_bargeTold 45 = .ok (.iload_n 1, 1) := by decide +kernel
theorem dX5_bargeTold_46 : decode cX5_bargeTold 46 = .ok (.iaload, 1) := by decide +kernel
theorem dX5_bargeTold_47 : decode cX5_bargeTold 47 = .ok (.goto 8, 3) := by decide +kernel
theorem dX5_bargeTold_50 : decode cX5_bargeTold 50 = .ok (.aload_n 0, 1) := by decide +kernel
theorem dX5_bargeTold_51 : decode cX5_bargeTold 51 = .ok (.iload_n 1, 1) := by decide +kernel
theorem dX5_bargeTold_52 : decode cX5_bargeTold 52 = .ok (.invokevirtual 95, 3) := by decide +kernel
theorem dX5_bargeTold_55 : decode cX5_bargeTold 55 = .ok (.ireturn, 1) := by decide +kernel
theorem dX5_told_0 : decode cX5_told 0 = .ok (.aload_n 0, 1) := by decide +kernel
theorem dX5_told_1 : decode cX5_told 1 = .ok (.iconst 0, 1) := by decide +kernel
theorem dX5_told_2 : decode cX5_told 2 = .ok (.putfield 31, 3) := by decide +kernel
theorem dX5_told_5 : decode cX5_told 5 = .ok (.aload_n 0, 1) := by decide +kernel
theorem dX5_told_6 : decode cX5_told 6 = .ok (.iload_n 1, 1) := by decide +kernel
theorem dX5_told_7 : decode cX5_told 7 = .ok (.invokevirtual 98, 3) := by decide +kernel
theorem dX5_told_10 : decode cX5_told 10 = .ok (.ifCond .eq 21, 3) := by decide +kernel
theorem dX5_told_13 : decode cX5_told 13 = .ok (.iload_n 2, 1) := by decide +kernel
theorem dX5_told_14 : decode cX5_told 14 = .ok (.iconst 0, 1) := by decide +kernel
theorem dX5_told_15 : decode cX5_told 15 = .ok (.iconst 3, 1) := by decide +kernel
theorem dX5_told_16 : decode cX5_told 16 = .ok (.invokestatic 38, 3) := by decide +kernel
theorem dX5_told_19 : decode cX5_told 19 = .ok (.ifCond .eq 12, 3) := by decide +kernel
theorem dX5_told_22 : decode cX5_told 22 = .ok (.aload_n 0, 1) := by decide +kernel
theorem dX5_told_23 : decode cX5_told 23 = .ok (.iload_n 1, 1) := by decide +kernel
theorem dX5_told_24 : decode cX5_told 24 = .ok (.iload_n 2, 1) := by decide +kernel
theorem dX5_told_25 : decode cX5_told 25 = .ok (.invokevirtual 101, 3) := by decide +kernel
theorem dX5_told_28 : decode cX5_told 28 = .ok (.goto 8, 3) := by decide +kernel
theorem dX5_told_31 : decode cX5_told 31 = .ok (.aload_n 0, 1) := by decide +kernel
theorem dX5_told_32 : decode cX5_told 32 = .ok (.iconst 1, 1) := by decide +kernel
theorem dX5_told_33 : decode cX5_told 33 = .ok (.invokevirtual 45, 3) := by decide +kernel
theorem dX5_told_36 : decode cX5_told 36 = .ok (.ireturn, 1) := by decide +kernel
theorem dX5_count_0 : decode cX5_count 0 = .ok (.aload_n 0, 1) := by decide +kernel
theorem dX5_count_1 : decode cX5_count 1 = .ok (.iconst 0, 1) := by decide +kernel
theorem dX5_count_2 : decode cX5_count 2 = .ok (.putfield 31, 3) := by decide +kernel
theorem dX5_count_5 : decode cX5_count 5 = .ok (.iload_n 1, 1) := by decide +kernel
theorem dX5_count_6 : decode cX5_count 6 = .ok (.iconst 0, 1) := by decide +kernel
theorem dX5_count_7 : decode cX5_count 7 = .ok (.bipush 9, 2) := by decide +kernel
theorem dX5_count_9 : decode cX5_count 9 = .ok (.invokestatic 38, 3) := by decide +kernel
theorem dX5_count_12 : decode cX5_count 12 = .ok (.ifCond .eq 14, 3) := by decide +kernel
theorem dX5_count_15 : decode cX5_count 15 = .ok (.aload_n 0, 1) := by decide +kernel
theorem dX5_count_16 : decode cX5_count 16 = .ok (.getfield 24, 3) := by decide +kernel
theorem dX5_count_19 : decode cX5_count 19 = .ok (.iload_n 1, 1) := by decide +kernel
theorem dX5_count_20 : decode cX5_count 20 = .ok (.invokevirtual 104, 3) := by decide +kernel
theorem dX5_count_23 : decode cX5_count 23 = .ok (.goto 8, 3) := by decide +kernel
theorem dX5_count_26 : decode cX5_count 26 = .ok (.aload_n 0, 1) := by decide +kernel
theorem dX5_count_27 : decode cX5_count 27 = .ok (.iconst 1, 1) := by decide +kernel
theorem dX5_count_28 : decode cX5_count 28 = .ok (.invokevirtual 45, 3) := by decide +kernel
theorem dX5_count_31 : decode cX5_count 31 = .ok (.ireturn, 1) := by decide +kernel
theorem dX5_hinders_0 : decode cX5_hinders 0 = .ok (.aload_n 0, 1) := by decide +kernel
theorem dX5_hinders_1 : decode cX5_hinders 1 = .ok (.iconst 0, 1) := by decide +kernel
theorem dX5_hinders_2 : decode cX5_hinders 2 = .ok (.putfield 31, 3) := by decide +kernel
theorem dX5_hinders_5 : decode cX5_hinders 5 = .ok (.iload_n 1, 1) := by decide +kernel
theorem dX5_hinders_6 : decode cX5_hinders 6 = .ok (.iconst 1, 1) := by decide +kernel
theorem dX5_hinders_7 : decode cX5_hinders 7 = .ok (.bipush 20, 2) := by decide +kernel
theorem dX5_hinders_9 : decode cX5_hinders 9 = .ok (.invokestatic 38, 3) := by decide +kernel
theorem dX5_hinders_12 : decode cX5_hinders 12 = .ok (.ifCond .ne 9, 3) := by decide +kernel
theorem dX5_hinders_15 : decode cX5_hinders 15 = .ok (.aload_n 0, 1) := by decide +kernel
theorem dX5_hinders_16 : decode cX5_hinders 16 = .ok (.iconst 1, 1) := by decide +kernel
theorem dX5_hinders_17 : decode cX5_hinders 17 = .ok (.invokevirtual 45, 3) := by decide +kernel
theorem dX5_hinders_20 : decode cX5_hinders 20 = .ok (.ireturn, 1) := by decide +kernel
theorem dX5_hinders_21 : decode cX5_hinders 21 = .ok (.iconst 0, 1) := by decide +kernel
theorem dX5_hinders_22 : decode cX5_hinders 22 = .ok (.istore_n 2, 1) := by decide +kernel
theorem dX5_hinders_23 : decode cX5_hinders 23 = .ok (.iconst 0, 1) := by decide +kernel
theorem dX5_hinders_24 : decode cX5_hinders 24 = .ok (.istore_n 3, 1) := by decide +kernel
theorem dX5_hinders_25 : decode cX5_hinders 25 = .ok (.iload_n 3, 1) := by decide +kernel
theorem dX5_hinders_26 : decode cX5_hinders 26 = .ok (.aload_n 0, 1) := by decide +kernel
theorem dX5_hinders_27 : decode cX5_hinders 27 = .ok (.getfield 35, 3) := by decide +kernel
theorem dX5_hinders_30 : decode cX5_hinders 30 = .ok (.if_icmp .ge 29, 3) := by decide +kernel
theorem dX5_hinders_33 : decode cX5_hinders 33 = .ok (.iload_n 2, 1) := by decide +kernel
theorem dX5_hinders_34 : decode cX5_hinders 34 = .ok (.aload_n 0, 1) := by decide +kernel
theorem dX5_hinders_35 : decode cX5_hinders 35 = .ok (.getfield 24, 3) := by decide +kernel
theorem dX5_hinders_38 : decode cX5_hinders 38 = .ok (.iload_n 3, 1) := by decide +kernel
theorem dX5_hinders_39 : decode cX5_hinders 39 = .ok (.iload_n 1, 1) := by decide +kernel
theorem dX5_hinders_40 : decode cX5_hinders 40 = .ok (.invokevirtual 91, 3) := by decide +kernel
theorem dX5_hinders_43 : decode cX5_hinders 43 = .ok (.ifCond .eq 7, 3) := by decide +kernel
theorem dX5_hinders_46 : decode cX5_hinders 46 = .ok (.iconst 1, 1) := by decide +kernel
theorem dX5_hinders_47 : decode cX5_hinders 47 = .ok (.goto 4, 3) := by decide +kernel
theorem dX5_hinders_50 : decode cX5_hinders 50 = .ok (.iconst 0, 1) := by decide +kernel
theorem dX5_hinders_51 : decode cX5_hinders 51 = .ok (.iadd, 1) := by decide +kernel
theorem dX5_hinders_52 : decode cX5_hinders 52 = .ok (.istore_n 2, 1) := by decide +kernel
theorem dX5_hinders_53 : decode cX5_hinders 53 = .ok (.iinc 3 1, 3) := by decide +kernel
theorem dX5_hinders_56 : decode cX5_hinders 56 = .ok (.goto (-31), 3) := by decide +kernel
theorem dX5_hinders_59 : decode cX5_hinders 59 = .ok (.iload_n 2, 1) := by decide +kernel
theorem dX5_hinders_60 : decode cX5_hinders 60 = .ok (.ireturn, 1) := by decide +kernel
theorem dX5_richest_0 : decode cX5_richest 0 = .ok (.aload_n 0, 1) := by decide +kernel
theorem dX5_richest_1 : decode cX5_richest 1 = .ok (.iconst 0, 1) := by decide +kernel
theorem dX5_richest_2 : decode cX5_richest 2 = .ok (.putfield 31, 3) := by decide +kernel
theorem dX5_richest_5 : decode cX5_richest 5 = .ok (.iconst (-1), 1) := by decide +kernel
theorem dX5_richest_6 : decode cX5_richest 6 = .ok (.istore_n 1, 1) := by decide +kernel
theorem dX5_richest_7 : decode cX5_richest 7 = .ok (.iconst 0, 1) := by decide +kernel
theorem dX5_richest_8 : decode cX5_richest 8 = .ok (.istore_n 2, 1) := by decide +kernel
theorem dX5_richest_9 : decode cX5_richest 9 = .ok (.iload_n 2, 1) := by decide +kernel
theorem dX5_richest_10 : decode cX5_richest 10 = .ok (.aload_n 0, 1) := by decide +kernel
theorem dX5_richest_11 : decode cX5_richest 11 = .ok (.getfield 35, 3) := by decide +kernel
theorem dX5_richest_14 : decode cX5_richest 14 = .ok (.if_icmp .ge 48, 3) := by decide +kernel
theorem dX5_richest_17 : decode cX5_richest 17 = .ok (.aload_n 0, 1) := by decide +kernel
theorem dX5_richest_18 : decode cX5_richest 18 = .ok (.getfield 24, 3) := by decide +kernel
theorem dX5_richest_21 : decode cX5_richest 21 = .ok (.iload_n 2, 1) := by decide +kernel
theorem dX5_richest_22 : decode cX5_richest 22 = .ok (.invokevirtual 62, 3) := by decide +kernel
theorem dX5_richest_25 : decode cX5_richest 25 = .ok (.ifCond .eq 31, 3) := by decide +kernel
theorem dX5_richest_28 : decode cX5_richest 28 = .ok (.iload_n 1, 1) := by decide +kernel
theorem dX5_richest_29 : decode cX5_richest 29 = .ok (.iconst (-1), 1) := by decide +kernel
theorem dX5_richest_30 : decode cX5_richest 30 = .ok (.if_icmp .eq 24, 3) := by decide +kernel
theorem dX5_richest_33 : decode cX5_richest 33 = .ok (.aload_n 0, 1) := by decide +kernel
theorem dX5_richest_34 : decode cX5_richest 34 = .ok (.getfield 24, 3) := by decide +kernel
theorem dX5_richest_37 : decode cX5_richest 37 = .ok (.getfield 55, 3) := by decide +kernel
theorem dX5_richest_40 : decode cX5_richest 40 = .ok (.iload_n 2, 1) := by decide +kernel
theorem dX5_richest_41 : decode cX5_richest 41 = .ok (.iaload, 1) := by decide +kernel
theorem dX5_richest_42 : decode cX5_richest 42 = .ok (.aload_n 0, 1) := by decide +kernel
theorem dX5_richest_43 : decode cX5_richest 43 = .ok (.getfield 24, 3) := by decide +kernel
theorem dX5_richest_46 : decode cX5_richest 46 = .ok (.getfield 55, 3) := by decide +kernel
theorem dX5_richest_49 : decode cX5_richest 49 = .ok (.iload_n 1, 1) := by decide +kernel
theorem dX5_richest_50 : decode cX5_richest 50 = .ok (.iaload, 1) := by decide +kernel
theorem dX5_richest_51 : decode cX5_richest 51 = .ok (.if_icmp .le 5, 3) := by decide +kernel
theorem dX5_richest_54 : decode cX5_richest 54 = .ok (.iload_n 2, 1) := by decide +kernel
theorem dX5_richest_55 : decode cX5_richest 55 = .ok (.istore_n 1, 1) := by decide +kernel
theorem dX5_richest_56 : decode cX5_richest 56 = .ok (.iinc 2 1, 3) := by decide +kernel
theorem dX5_richest_59 : decode cX5_richest 59 = .ok (.goto (-50), 3) := by decide +kernel
theorem dX5_richest_62 : decode cX5_richest 62 = .ok (.iload_n 1, 1) := by decide +kernel
theorem dX5_richest_63 : decode cX5_richest 63 = .ok (.ireturn, 1) := by decide +kernel
theorem dX5_pass_0 : decode cX5_pass 0 = .ok (.aload_n 0, 1) := by decide +kernel
theorem dX5_pass_1 : decode cX5_pass 1 = .ok (.iconst 0, 1) := by decide +kernel
theorem dX5_pass_2 : decode cX5_pass 2 = .ok (.putfield 31, 3) := by decide +kernel
theorem dX5_pass_5 : decode cX5_pass 5 = .ok (.iload_n 1, 1) := by decide +kernel
theorem dX5_pass_6 : decode cX5_pass 6 = .ok (.iconst 1, 1) := by decide +kernel
theorem dX5_pass_7 : decode cX5_pass 7 = .ok (.bipush 60, 2) := by decide +kernel
theorem dX5_pass_9 : decode cX5_pass 9 = .ok (.invokestatic 38, 3) := by decide +kernel
theorem dX5_pass_12 : decode cX5_pass 12 = .ok (.ifCond .ne 9, 3) := by decide +kernel
theorem dX5_pass_15 : decode cX5_pass 15 = .ok (.aload_n 0, 1) := by decide +kernel
theorem dX5_pass_16 : decode cX5_pass 16 = .ok (.iconst 1, 1) := by decide +kernel
theorem dX5_pass_17 : decode cX5_pass 17 = .ok (.invokevirtual 45, 3) := by decide +kernel
theorem dX5_pass_20 : decode cX5_pass 20 = .ok (.ireturn, 1) := by decide +kernel
theorem dX5_pass_21 : decode cX5_pass 21 = .ok (.aload_n 0, 1) := by decide +kernel
theorem dX5_pass_22 : decode cX5_pass 22 = .ok (.getfield 24, 3) := by decide +kernel
theorem dX5_pass_25 : decode cX5_pass 25 = .ok (.getfield 107, 3) := by decide +kernel
theorem dX5_pass_28 : decode cX5_pass 28 = .ok (.istore_n 2, 1) := by decide +kernel
theorem dX5_pass_29 : decode cX5_pass 29 = .ok (.aload_n 0, 1) := by decide +kernel
theorem dX5_pass_30 : decode cX5_pass 30 = .ok (.getfield 24, 3) := by decide +kernel
theorem dX5_pass_33 : decode cX5_pass 33 = .ok (.iload_n 1, 1) := by decide +kernel
theorem dX5_pass_34 : decode cX5_pass 34 = .ok (.invokevirtual 110, 3) := by decide +kernel
theorem dX5_pass_37 : decode cX5_pass 37 = .ok (.aload_n 0, 1) := by decide +kernel
theorem dX5_pass_38 : decode cX5_pass 38 = .ok (.getfield 24, 3) := by decide +kernel
theorem dX5_pass_41 : decode cX5_pass 41 = .ok (.getfield 107, 3) := by decide +kernel
theorem dX5_pass_44 : decode cX5_pass 44 = .ok (.iload_n 2, 1) := by decide +kernel
theorem dX5_pass_45 : decode cX5_pass 45 = .ok (.isub, 1) := by decide +kernel
theorem dX5_pass_46 : decode cX5_pass 46 = .ok (.ireturn, 1) := by decide +kernel
theorem dX5_catches_0 : decode cX5_catches 0 = .ok (.aload_n 0, 1) := by decide +kernel
theorem dX5_catches_1 : decode cX5_catches 1 = .ok (.iconst 0, 1) := by decide +kernel
theorem dX5_catches_2 : decode cX5_catches 2 = .ok (.putfield 31, 3) := by decide +kernel
theorem dX5_catches_5 : decode cX5_catches 5 = .ok (.aload_n 0, 1) := by decide +kernel
theorem dX5_catches_6 : decode cX5_catches 6 = .ok (.iload_n 1, 1) := by decide +kernel
theorem dX5_catches_7 : decode cX5_catches 7 = .ok (.invokevirtual 58, 3) := by decide +kernel
theorem dX5_catches_10 : decode cX5_catches 10 = .ok (.ifCond .eq 21, 3) := by decide +kernel
theorem dX5_catches_13 : decode cX5_catches 13 = .ok (.aload_n 0, 1) := by decide +kernel
theorem dX5_catches_14 : decode cX5_catches 14 = .ok (.getfield 28, 3) := by decide +kernel
theorem dX5_catches_17 : decode cX5_catches 17 = .ok (.aload_n 0, 1) := by decide +kernel
theorem dX5_catches_18 : decode cX5_catches 18 = .ok (.getfield 24, 3) := by decide +kernel
theorem dX5_catches_21 : decode cX5_catches 21 = .ok (.invokevirtual 114, 3) := by decide +kernel
theorem dX5_catches_24 : decode cX5_catches 24 = .ok (.iload_n 1, 1) := by decide +kernel
theorem dX5_catches_25 : decode cX5_catches 25 = .ok (.invokevirtual 118, 3) := by decide +kernel
theorem dX5_catches_28 : decode cX5_catches 28 = .ok (.goto 8, 3) := by decide +kernel
theorem dX5_catches_31 : decode cX5_catches 31 = .ok (.aload_n 0, 1) := by decide +kernel
theorem dX5_catches_32 : decode cX5_catches 32 = .ok (.iconst 1, 1) := by decide +kernel
theorem dX5_catches_33 : decode cX5_catches 33 = .ok (.invokevirtual 45, 3) := by decide +kernel
theorem dX5_catches_36 : decode cX5_catches 36 = .ok (.ireturn, 1) := by decide +kernel
theorem dX5_isUnderWay_0 : decode cX5_isUnderWay 0 = .ok (.iconst 0, 1) := by decide +kernel
theorem dX5_isUnderWay_1 : decode cX5_isUnderWay 1 = .ok (.istore_n 2, 1) := by decide +kernel
theorem dX5_isUnderWay_2 : decode cX5_isUnderWay 2 = .ok (.iload_n 2, 1) := by decide +kernel
theorem dX5_isUnderWay_3 : decode cX5_isUnderWay 3 = .ok (.aload_n 0, 1) := by decide +kernel
theorem dX5_isUnderWay_4 : decode cX5_isUnderWay 4 = .ok (.getfield 28, 3) := by decide +kernel
theorem dX5_isUnderWay_7 : decode cX5_isUnderWay 7 = .ok (.getfield 42, 3) := by decide +kernel
theorem dX5_isUnderWay_10 : decode cX5_isUnderWay 10 = .ok (.if_icmp .ge 24, 3) := by decide +kernel
theorem dX5_isUnderWay_13 : decode cX5_isUnderWay 13 = .ok (.aload_n 0, 1) := by decide +kernel
theorem dX5_isUnderWay_14 : decode cX5_isUnderWay 14 = .ok (.getfield 28, 3) := by decide +kernel
theorem dX5_isUnderWay_17 : decode cX5_isUnderWay 17 = .ok (.getfield 121, 3) := by decide +kernel
theorem dX5_isUnderWay_20 : decode cX5_isUnderWay 20 = .ok (.iload_n 2, 1) := by decide +kernel
theorem dX5_isUnderWay_21 : decode cX5_isUnderWay 21 = .ok (.iaload, 1) := by decide +kernel
theorem dX5_isUnderWay_22 : decode cX5_isUnderWay 22 = .ok (.iload_n 1, 1) := by decide +kernel
theorem dX5_isUnderWay_23 : decode cX5_isUnderWay 23 = .ok (.if_icmp .ne 5, 3) := by decide +kernel
theorem dX5_isUnderWay_26 : decode cX5_isUnderWay 26 = .ok (.iconst 1, 1) := by decide +kernel
theorem dX5_isUnderWay_27 : decode cX5_isUnderWay 27 = .ok (.ireturn, 1) := by decide +kernel
theorem dX5_isUnderWay_28 : decode cX5_isUnderWay 28 = .ok (.iinc 2 1, 3) := by decide +kernel
theorem dX5_isUnderWay_31 : decode cX5_isUnderWay 31 = .ok (.goto (-29), 3) := by decide +kernel
theorem dX5_isUnderWay_34 : decode cX5_isUnderWay 34 = .ok (.iconst 0, 1) := by decide +kernel
theorem dX5_isUnderWay_35 : decode cX5_isUnderWay 35 = .ok (.ireturn, 1) := by decide +kernel
theorem dX5_arrives_0 : decode cX5_arrives 0 = .ok (.aload_n 0, 1) := by decide +kernel
theorem dX5_arrives_1 : decode cX5_arrives 1 = .ok (.iconst 0, 1) := by decide +kernel
theorem dX5_arrives_2 : decode cX5_arrives 2 = .ok (.putfield 31, 3) := by decide +kernel
theorem dX5_arrives_5 : decode cX5_arrives 5 = .ok (.aload_n 0, 1) := by decide +kernel
theorem dX5_arrives_6 : decode cX5_arrives 6 = .ok (.iload_n 1, 1) := by decide +kernel
theorem dX5_arrives_7 : decode cX5_arrives 7 = .ok (.invokevirtual 98, 3) := by decide +kernel
theorem dX5_arrives_10 : decode cX5_arrives 10 = .ok (.ifCond .ne 9, 3) := by decide +kernel
theorem dX5_arrives_13 : decode cX5_arrives 13 = .ok (.aload_n 0, 1) := by decide +kernel
theorem dX5_arrives_14 : decode cX5_arrives 14 = .ok (.iconst 1, 1) := by decide +kernel
theorem dX5_arrives_15 : decode cX5_arrives 15 = .ok (.invokevirtual 45, 3) := by decide +kernel
theorem dX5_arrives_18 : decode cX5_arrives 18 = .ok (.ireturn, 1) := by decide +kernel
theorem dX5_arrives_19 : decode cX5_arrives 19 = .ok (.aload_n 0, 1) := by decide +kernel
theorem dX5_arrives_20 : decode cX5_arrives 20 = .ok (.getfield 28, 3) := by decide +kernel
theorem dX5_arrives_23 : decode cX5_arrives 23 = .ok (.aload_n 0, 1) := by decide +kernel
theorem dX5_arrives_24 : decode cX5_arrives 24 = .ok (.getfield 24, 3) := by decide +kernel
theorem dX5_arrives_27 : decode cX5_arrives 27 = .ok (.invokevirtual 114, 3) := by decide +kernel
theorem dX5_arrives_30 : decode cX5_arrives 30 = .ok (.pop, 1) := by decide +kernel
theorem dX5_arrives_31 : decode cX5_arrives 31 = .ok (.iconst 0, 1) := by decide +kernel
theorem dX5_arrives_32 : decode cX5_arrives 32 = .ok (.istore_n 2, 1) := by decide +kernel
theorem dX5_arrives_33 : decode cX5_arrives 33 = .ok (.aload_n 0, 1) := by decide +kernel
theorem dX5_arrives_34 : decode cX5_arrives 34 = .ok (.iload_n 1, 1) := by decide +kernel
theorem dX5_arrives_35 : decode cX5_arrives 35 = .ok (.invokevirtual 124, 3) := by decide +kernel
theorem dX5_arrives_38 : decode cX5_arrives 38 = .ok (.ifCond .eq 16, 3) := by decide +kernel
theorem dX5_arrives_41 : decode cX5_arrives 41 = .ok (.aload_n 0, 1) := by decide +kernel
theorem dX5_arrives_42 : decode cX5_arrives 42 = .ok (.getfield 28, 3) := by decide +kernel
theorem dX5_arrives_45 : decode cX5_arrives 45 = .ok (.invokevirtual 127, 3) := by decide +kernel
theorem dX5_arrives_48 : decode cX5_arrives 48 = .ok (.iinc 2 1, 3) := by decide +kernel
theorem dX5_arrives_51 : decode cX5_arrives 51 = .ok (.goto (-18), 3) := by decide +kernel
theorem dX5_arrives_54 : decode cX5_arrives 54 = .ok (.iload_n 2, 1) := by decide +kernel
theorem dX5_arrives_55 : decode cX5_arrives 55 = .ok (.ireturn, 1) := by decide +kernel
theorem dX5_lasts_0 : decode cX5_lasts 0 = .ok (.aload_n 0, 1) := by decide +kernel
theorem dX5_lasts_1 : decode cX5_lasts 1 = .ok (.iconst 0, 1) := by decide +kernel
theorem dX5_lasts_2 : decode cX5_lasts 2 = .ok (.putfield 31, 3) := by decide +kernel
theorem dX5_lasts_5 : decode cX5_lasts 5 = .ok (.aload_n 0, 1) := by decide +kernel
theorem dX5_lasts_6 : decode cX5_lasts 6 = .ok (.iload_n 1, 1) := by decide +kernel
theorem dX5_lasts_7 : decode cX5_lasts 7 = .ok (.invokevirtual 58, 3) := by decide +kernel
theorem dX5_lasts_10 : decode cX5_lasts 10 = .ok (.ifCond .ne 9, 3) := by decide +kernel
theorem dX5_lasts_13 : decode cX5_lasts 13 = .ok (.aload_n 0, 1) := by decide +kernel
theorem dX5_lasts_14 : decode cX5_lasts 14 = .ok (.iconst 1, 1) := by decide +kernel
theorem dX5_lasts_15 : decode cX5_lasts 15 = .ok (.invokevirtual 45, 3) := by decide +kernel
theorem dX5_lasts_18 : decode cX5_lasts 18 = .ok (.ireturn, 1) := by decide +kernel
theorem dX5_lasts_19 : decode cX5_lasts 19 = .ok (.aload_n 0, 1) := by decide +kernel
theorem dX5_lasts_20 : decode cX5_lasts 20 = .ok (.getfield 28, 3) := by decide +kernel
theorem dX5_lasts_23 : decode cX5_lasts 23 = .ok (.aload_n 0, 1) := by decide +kernel
theorem dX5_lasts_24 : decode cX5_lasts 24 = .ok (.getfield 24, 3) := by decide +kernel
theorem dX5_lasts_27 : decode cX5_lasts 27 = .ok (.invokevirtual 114, 3) := by decide +kernel
theorem dX5_lasts_30 : decode cX5_lasts 30 = .ok (.pop, 1) := by decide +kernel
theorem dX5_lasts_31 : decode cX5_lasts 31 = .ok (.iconst 0, 1) := by decide +kernel
theorem dX5_lasts_32 : decode cX5_lasts 32 = .ok (.istore_n 2, 1) := by decide +kernel
theorem dX5_lasts_33 : decode cX5_lasts 33 = .ok (.aload_n 0, 1) := by decide +kernel
theorem dX5_lasts_34 : decode cX5_lasts 34 = .ok (.getfield 28, 3) := by decide +kernel
theorem dX5_lasts_37 : decode cX5_lasts 37 = .ok (.getfield 52, 3) := by decide +kernel
theorem dX5_lasts_40 : decode cX5_lasts 40 = .ok (.iload_n 1, 1) := by decide +kernel
theorem dX5_lasts_41 : decode cX5_lasts 41 = .ok (.iaload, 1) := by decide +kernel
theorem dX5_lasts_42 : decode cX5_lasts 42 = .ok (.ifCond .le 27, 3) := by decide +kernel
theorem dX5_lasts_45 : decode cX5_lasts 45 = .ok (.aload_n 0, 1) := by decide +kernel
theorem dX5_lasts_46 : decode cX5_lasts 46 = .ok (.getfield 28, 3) := by decide +kernel
theorem dX5_lasts_49 : decode cX5_lasts 49 = .ok (.iload_n 1, 1) := by decide +kernel
theorem dX5_lasts_50 : decode cX5_lasts 50 = .ok (.invokevirtual 62, 3) := by decide +kernel
theorem dX5_lasts_53 : decode cX5_lasts 53 = .ok (.ifCond .eq 16, 3) := by decide +kernel
theorem dX5_lasts_56 : decode cX5_lasts 56 = .ok (.aload_n 0, 1) := by decide +kernel
theorem dX5_lasts_57 : decode cX5_lasts 57 = .ok (.getfield 28, 3) := by decide +kernel
theorem dX5_lasts_60 : decode cX5_lasts 60 = .ok (.invokevirtual 127, 3) := by decide +kernel
theorem dX5_lasts_63 : decode cX5_lasts 63 = .ok (.iinc 2 1, 3) := by decide +kernel
theorem dX5_lasts_66 : decode cX5_lasts 66 = .ok (.goto (-33), 3) := by decide +kernel
theorem dX5_lasts_69 : decode cX5_lasts 69 = .ok (.iload_n 2, 1) := by decide +kernel
theorem dX5_lasts_70 : decode cX5_lasts 70 = .ok (.ireturn, 1) := by decide +kernel
theorem dX5_foresee_0 : decode cX5_foresee 0 = .ok (.aload_n 0, 1) := by decide +kernel
theorem dX5_foresee_1 : decode cX5_foresee 1 = .ok (.iconst 0, 1) := by decide +kernel
theorem dX5_foresee_2 : decode cX5_foresee 2 = .ok (.putfield 31, 3) := by decide +kernel
theorem dX5_foresee_5 : decode cX5_foresee 5 = .ok (.iload_n 1, 1) := by decide +kernel
theorem dX5_foresee_6 : decode cX5_foresee 6 = .ok (.iconst 1, 1) := by decide +kernel
theorem dX5_foresee_7 : decode cX5_foresee 7 = .ok (.bipush 56, 2) := by decide +kernel
theorem dX5_foresee_9 : decode cX5_foresee 9 = .ok (.invokestatic 38, 3) := by decide +kernel
theorem dX5_foresee_12 : decode cX5_foresee 12 = .ok (.ifCond .ne 9, 3) := by decide +kernel
theorem dX5_foresee_15 : decode cX5_foresee 15 = .ok (.aload_n 0, 1) := by decide +kernel
theorem dX5_foresee_16 : decode cX5_foresee 16 = .ok (.iconst 1, 1) := by decide +kernel
theorem dX5_foresee_17 : decode cX5_foresee 17 = .ok (.invokevirtual 45, 3) := by decide +kernel
theorem dX5_foresee_20 : decode cX5_foresee 20 = .ok (.ireturn, 1) := by decide +kernel
theorem dX5_foresee_21 : decode cX5_foresee 21 = .ok (.iload_n 2, 1) := by decide +kernel
theorem dX5_foresee_22 : decode cX5_foresee 22 = .ok (.iconst 4, 1) := by decide +kernel
theorem dX5_foresee_23 : decode cX5_foresee 23 = .ok (.if_icmp .eq 20, 3) := by decide +kernel
theorem dX5_foresee_26 : decode cX5_foresee 26 = .ok (.iload_n 2, 1) := by decide +kernel
theorem dX5_foresee_27 : decode cX5_foresee 27 = .ok (.bipush 6, 2) := by decide +kernel
theorem dX5_foresee_29 : decode cX5_foresee 29 = .ok (.bipush 9, 2) := by decide +kernel
theorem dX5_foresee_31 : decode cX5_foresee 31 = .ok (.invokestatic 38, 3) := by decide +kernel
theorem dX5_foresee_34 : decode cX5_foresee 34 = .ok (.ifCond .ne 9, 3) := by decide +kernel
theorem dX5_foresee_37 : decode cX5_foresee 37 = .ok (.aload_n 0, 1) := by decide +kernel
theorem dX5_foresee_38 : decode cX5_foresee 38 = .ok (.iconst 2, 1) := by decide +kernel
theorem dX5_foresee_39 : decode cX5_foresee 39 = .ok (.invokevirtual 45, 3) := by decide +kernel
theorem dX5_foresee_42 : decode cX5_foresee 42 = .ok (.ireturn, 1) := by decide +kernel
theorem dX5_foresee_43 : decode cX5_foresee 43 = .ok (.aload_n 0, 1) := by decide +kernel
theorem dX5_foresee_44 : decode cX5_foresee 44 = .ok (.getfield 28, 3) := by decide +kernel
theorem dX5_foresee_47 : decode cX5_foresee 47 = .ok (.aload_n 0, 1) := by decide +kernel
theorem dX5_foresee_48 : decode cX5_foresee 48 = .ok (.getfield 24, 3) := by decide +kernel
theorem dX5_foresee_51 : decode cX5_foresee 51 = .ok (.invokevirtual 114, 3) := by decide +kernel
theorem dX5_foresee_54 : decode cX5_foresee 54 = .ok (.iload_n 1, 1) := by decide +kernel
theorem dX5_foresee_55 : decode cX5_foresee 55 = .ok (.invokevirtual 110, 3) := by decide +kernel
theorem dX5_foresee_58 : decode cX5_foresee 58 = .ok (.aload_n 0, 1) := by decide +kernel
theorem dX5_foresee_59 : decode cX5_foresee 59 = .ok (.getfield 28, 3) := by decide +kernel
theorem dX5_foresee_62 : decode cX5_foresee 62 = .ok (.iload_n 2, 1) := by decide +kernel
theorem dX5_foresee_63 : decode cX5_foresee 63 = .ok (.invokevirtual 104, 3) := by decide +kernel
theorem dX5_foresee_66 : decode cX5_foresee 66 = .ok (.ireturn, 1) := by decide +kernel
theorem dX5_advise_0 : decode cX5_advise 0 = .ok (.aload_n 0, 1) := by decide +kernel
theorem dX5_advise_1 : decode cX5_advise 1 = .ok (.iconst 0, 1) := by decide +kernel
theorem dX5_advise_2 : decode cX5_advise 2 = .ok (.putfield 31, 3) := by decide +kernel
theorem dX5_advise_5 : decode cX5_advise 5 = .ok (.aload_n 0, 1) := by decide +kernel
theorem dX5_advise_6 : decode cX5_advise 6 = .ok (.iload_n 1, 1) := by decide +kernel
theorem dX5_advise_7 : decode cX5_advise 7 = .ok (.invokevirtual 58, 3) := by decide +kernel
theorem dX5_advise_10 : decode cX5_advise 10 = .ok (.ifCond .ne 9, 3) := by decide +kernel
theorem dX5_advise_13 : decode cX5_advise 13 = .ok (.aload_n 0, 1) := by decide +kernel
theorem dX5_advise_14 : decode cX5_advise 14 = .ok (.iconst 1, 1) := by decide +kernel
theorem dX5_advise_15 : decode cX5_advise 15 = .ok (.invokevirtual 45, 3) := by decide +kernel
theorem dX5_advise_18 : decode cX5_advise 18 = .ok (.ireturn, 1) := by decide +kernel
theorem dX5_advise_19 : decode cX5_advise 19 = .ok (.iload_n 2, 1) := by decide +kernel
theorem dX5_advise_20 : decode cX5_advise 20 = .ok (.iconst 1, 1) := by decide +kernel
theorem dX5_advise_21 : decode cX5_advise 21 = .ok (.bipush 20, 2) := by decide +kernel
theorem dX5_advise_23 : decode cX5_advise 23 = .ok (.invokestatic 38, 3) := by decide +kernel
theorem dX5_advise_26 : decode cX5_advise 26 = .ok (.ifCond .ne 9, 3) := by decide +kernel
theorem dX5_advise_29 : decode cX5_advise 29 = .ok (.aload_n 0, 1) := by decide +kernel
theorem dX5_advise_30 : decode cX5_advise 30 = .ok (.iconst 2, 1) := by decide +kernel
theorem dX5_advise_31 : decode cX5_advise 31 = .ok (.invokevirtual 45, 3) := by decide +kernel
theorem dX5_advise_34 : decode cX5_advise 34 = .ok (.ireturn, 1) := by decide +kernel
theorem dX5_advise_35 : decode cX5_advise 35 = .ok (.iconst 0, 1) := by decide +kernel
theorem dX5_advise_36 : decode cX5_advise 36 = .ok (.istore_n 3, 1) := by decide +kernel
theorem dX5_advise_37 : decode cX5_advise 37 = .ok (.iconst (-1), 1) := by decide +kernel
theorem dX5_advise_38 : decode cX5_advise 38 = .ok (.istore 4, 2) := by decide +kernel
theorem dX5_advise_40 : decode cX5_advise 40 = .ok (.iconst 1, 1) := by decide +kernel
theorem dX5_advise_41 : decode cX5_advise 41 = .ok (.istore 5, 2) := by decide +kernel
theorem dX5_advise_43 : decode cX5_advise 43 = .ok (.iload 5, 2) := by decide +kernel
theorem dX5_advise_45 : decode cX5_advise 45 = .ok (.bipush 30, 2) := by decide +kernel
theorem dX5_advise_47 : decode cX5_advise 47 = .ok (.if_icmp .gt 71, 3) := by decide +kernel
theorem dX5_advise_50 : decode cX5_advise 50 = .ok (.aload_n 0, 1) := by decide +kernel
theorem dX5_advise_51 : decode cX5_advise 51 = .ok (.getfield 28, 3) := by decide +kernel
theorem dX5_advise_54 : decode cX5_advise 54 = .ok (.aload_n 0, 1) := by decide +kernel
theorem dX5_advise_55 : decode cX5_advise 55 = .ok (.getfield 24, 3) := by decide +kernel
theorem dX5_advise_58 : decode cX5_advise 58 = .ok (.invokevirtual 114, 3) := by decide +kernel
