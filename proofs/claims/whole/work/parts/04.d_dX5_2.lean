theorem dX5_about_25 : decode cX5_about 25 = .ok (.iload_n 2, 1) := by decide +kernel
theorem dX5_about_26 : decode cX5_about 26 = .ok (.invokevirtual 87, 3) := by decide +kernel
theorem dX5_about_29 : decode cX5_about 29 = .ok (.goto 8, 3) := by decide +kernel
theorem dX5_about_32 : decode cX5_about 32 = .ok (.aload_n 0, 1) := by decide +kernel
theorem dX5_about_33 : decode cX5_about 33 = .ok (.iconst 1, 1) := by decide +kernel
theorem dX5_about_34 : decode cX5_about 34 = .ok (.invokevirtual 45, 3) := by decide +kernel
theorem dX5_about_37 : decode cX5_about 37 = .ok (.ireturn, 1) := by decide +kernel
theorem dX5_nextFor_0 : decode cX5_nextFor 0 = .ok (.aload_n 0, 1) := by decide +kernel
theorem dX5_nextFor_1 : decode cX5_nextFor 1 = .ok (.getfield 24, 3) := by decide +kernel
theorem dX5_nextFor_4 : decode cX5_nextFor 4 = .ok (.getfield 78, 3) := by decide +kernel
theorem dX5_nextFor_7 : decode cX5_nextFor 7 = .ok (.iload_n 1, 1) := by decide +kernel
theorem dX5_nextFor_8 : decode cX5_nextFor 8 = .ok (.iaload, 1) := by decide +kernel
theorem dX5_nextFor_9 : decode cX5_nextFor 9 = .ok (.iconst 1, 1) := by decide +kernel
theorem dX5_nextFor_10 : decode cX5_nextFor 10 = .ok (.iadd, 1) := by decide +kernel
theorem dX5_nextFor_11 : decode cX5_nextFor 11 = .ok (.istore_n 2, 1) := by decide +kernel
theorem dX5_nextFor_12 : decode cX5_nextFor 12 = .ok (.iload_n 2, 1) := by decide +kernel
theorem dX5_nextFor_13 : decode cX5_nextFor 13 = .ok (.bipush 40, 2) := by decide +kernel
theorem dX5_nextFor_15 : decode cX5_nextFor 15 = .ok (.if_icmp .ge 57, 3) := by decide +kernel
theorem dX5_nextFor_18 : decode cX5_nextFor 18 = .ok (.iconst 0, 1) := by decide +kernel
theorem dX5_nextFor_19 : decode cX5_nextFor 19 = .ok (.istore_n 3, 1) := by decide +kernel
theorem dX5_nextFor_20 : decode cX5_nextFor 20 = .ok (.iload_n 3, 1) := by decide +kernel
theorem dX5_nextFor_21 : decode cX5_nextFor 21 = .ok (.aload_n 0, 1) := by decide +kernel
theorem dX5_nextFor_22 : decode cX5_nextFor 22 = .ok (.getfield 35, 3) := by decide +kernel
theorem dX5_nextFor_25 : decode cX5_nextFor 25 = .ok (.if_icmp .ge 41, 3) := by decide +kernel
theorem dX5_nextFor_28 : decode cX5_nextFor 28 = .ok (.aload_n 0, 1) := by decide +kernel
theorem dX5_nextFor_29 : decode cX5_nextFor 29 = .ok (.getfield 13, 3) := by decide +kernel
theorem dX5_nextFor_32 : decode cX5_nextFor 32 = .ok (.iload_n 3, 1) := by decide +kernel
theorem dX5_nextFor_33 : decode cX5_nextFor 33 = .ok (.iaload, 1) := by decide +kernel
theorem dX5_nextFor_34 : decode cX5_nextFor 34 = .ok (.iload_n 2, 1) := by decide +kernel
theorem dX5_nextFor_35 : decode cX5_nextFor 35 = .ok (.if_icmp .ne 25, 3) := by decide +kernel
theorem dX5_nextFor_38 : decode cX5_nextFor 38 = .ok (.aload_n 0, 1) := by decide +kernel
theorem dX5_nextFor_39 : decode cX5_nextFor 39 = .ok (.getfield 24, 3) := by decide +kernel
theorem dX5_nextFor_42 : decode cX5_nextFor 42 = .ok (.iload_n 3, 1) := by decide +kernel
theorem dX5_nextFor_43 : decode cX5_nextFor 43 = .ok (.aload_n 0, 1) := by decide +kernel
theorem dX5_nextFor_44 : decode cX5_nextFor 44 = .ok (.getfield 24, 3) := by decide +kernel
theorem dX5_nextFor_47 : decode cX5_nextFor 47 = .ok (.getfield 75, 3) := by decide +kernel
theorem dX5_nextFor_50 : decode cX5_nextFor 50 = .ok (.iload_n 1, 1) := by decide +kernel
theorem dX5_nextFor_51 : decode cX5_nextFor 51 = .ok (.iaload, 1) := by decide +kernel
theorem dX5_nextFor_52 : decode cX5_nextFor 52 = .ok (.invokevirtual 91, 3) := by decide +kernel
theorem dX5_nextFor_55 : decode cX5_nextFor 55 = .ok (.ifCond .eq 5, 3) := by decide +kernel
theorem dX5_nextFor_58 : decode cX5_nextFor 58 = .ok (.iload_n 3, 1) := by decide +kernel
theorem dX5_nextFor_59 : decode cX5_nextFor 59 = .ok (.ireturn, 1) := by decide +kernel
theorem dX5_nextFor_60 : decode cX5_nextFor 60 = .ok (.iinc 3 1, 3) := by decide +kernel
theorem dX5_nextFor_63 : decode cX5_nextFor 63 = .ok (.goto (-43), 3) := by decide +kernel
theorem dX5_nextFor_66 : decode cX5_nextFor 66 = .ok (.iinc 2 1, 3) := by decide +kernel
theorem dX5_nextFor_69 : decode cX5_nextFor 69 = .ok (.goto (-57), 3) := by decide +kernel
theorem dX5_nextFor_72 : decode cX5_nextFor 72 = .ok (.iconst (-1), 1) := by decide +kernel
theorem dX5_nextFor_73 : decode cX5_nextFor 73 = .ok (.ireturn, 1) := by decide +kernel
theorem dX5_bargeTold_0 : decode cX5_bargeTold 0 = .ok (.iload_n 2, 1) := by decide +kernel
theorem dX5_bargeTold_1 : decode cX5_bargeTold 1 = .ok (.ifCond .ne 15, 3) := by decide +kernel
theorem dX5_bargeTold_4 : decode cX5_bargeTold 4 = .ok (.aload_n 0, 1) := by decide +kernel
theorem dX5_bargeTold_5 : decode cX5_bargeTold 5 = .ok (.getfield 24, 3) := by decide +kernel
theorem dX5_bargeTold_8 : decode cX5_bargeTold 8 = .ok (.getfield 75, 3) := by decide +kernel
theorem dX5_bargeTold_11 : decode cX5_bargeTold 11 = .ok (.iload_n 1, 1) := by decide +kernel
theorem dX5_bargeTold_12 : decode cX5_bargeTold 12 = .ok (.iaload, 1) := by decide +kernel
theorem dX5_bargeTold_13 : decode cX5_bargeTold 13 = .ok (.goto 42, 3) := by decide +kernel
theorem dX5_bargeTold_16 : decode cX5_bargeTold 16 = .ok (.iload_n 2, 1) := by decide +kernel
theorem dX5_bargeTold_17 : decode cX5_bargeTold 17 = .ok (.iconst 1, 1) := by decide +kernel
theorem dX5_bargeTold_18 : decode cX5_bargeTold 18 = .ok (.if_icmp .ne 15, 3) := by decide +kernel
theorem dX5_bargeTold_21 : decode cX5_bargeTold 21 = .ok (.aload_n 0, 1) := by decide +kernel
theorem dX5_bargeTold_22 : decode cX5_bargeTold 22 = .ok (.getfield 24, 3) := by decide +kernel
theorem dX5_bargeTold_25 : decode cX5_bargeTold 25 = .ok (.getfield 78, 3) := by decide +kernel
theorem dX5_bargeTold_28 : decode cX5_bargeTold 28 = .ok (.iload_n 1, 1) := by decide +kernel
theorem dX5_bargeTold_29 : decode cX5_bargeTold 29 = .ok (.iaload, 1) := by decide +kernel
theorem dX5_bargeTold_30 : decode cX5_bargeTold 30 = .ok (.goto 25, 3) := by decide +kernel
theorem dX5_bargeTold_33 : decode cX5_bargeTold 33 = .ok (.iload_n 2, 1) := by decide +kernel
theorem dX5_bargeTold_34 : decode cX5_bargeTold 34 = .ok (.iconst 2, 1) := by decide +kernel
theorem dX5_bargeTold_35 : decode cX5_bargeTold 35 = .ok (.if_icmp .ne 15, 3) := by decide +kernel
theorem dX5_bargeTold_38 : decode cX5_bargeTold 38 = .ok (.aload_n 0, 1) := by decide +kernel
theorem dX5_bargeTold_39 : decode cX5_bargeTold 39 = .ok (.getfield 24, 3) := by decide +kernel
theorem dX5_bargeTold_42 : decode cX5_bargeTold 42 = .ok (.getfield 81, 3) := by decide +kernel
theorem dX5_bargeTold_45 : decode cX5_bargeTold 45 = .ok (.iload_n 1, 1) := by decide +kernel
theorem dX5_bargeTold_46 : decode cX5_bargeTold 46 = .ok (.iaload, 1) := by decide +kernel
theorem dX5_bargeTold_47 : decode cX5_bargeTold 47 = .ok (.goto 8, 3) := by decide +kernel
theorem dX5_bargeTold_50 : decode cX5_bargeTold 50 = .ok (.aload_n 0, 1) := by decide +kernel
theorem dX5_bargeTold_51 : decode cX5_bargeTold 51 = .ok (.iload_n 1, 1) := by decide +kernel
theorem dX5_bargeTold_52 : decode cX5_bargeTold 52 = .ok (.invokevirtual 95, 3) := by decide +kernel
theorem dX5_bargeTold_55 : decode cX5_bargeTold 55 = .ok (.ireturn, 1) := by decide +kernel
theorem dX5_told_0 : decode cX5_told 0 = .ok (.aload_n 0, 1) := by decide +kernel
theorem dX5_told_1 : decode cX5_told 1 = .ok (.iconst 0, 1) := by decide +kernel
theorem dX5_told_2 : decode cX5_told 2 = .ok (.putfield 31, 3) := by decide +kernel
theorem dX5_told_5 : decode cX5_told 5 = .ok (.aload_n 0, 1) := by decide +kernel
theorem dX5_told_6 : decode cX5_told 6 = .ok (.iload_n 1, 1) := by decide +kernel
theorem dX5_told_7 : decode cX5_told 7 = .ok (.invokevirtual 98, 3) := by decide +kernel
theorem dX5_told_10 : decode cX5_told 10 = .ok (.ifCond .eq 21, 3) := by decide +kernel
theorem dX5_told_13 : decode cX5_told 13 = .ok (.iload_n 2, 1) := by decide +kernel
theorem dX5_told_14 : decode cX5_told 14 = .ok (.iconst 0, 1) := by decide +kernel
theorem dX5_told_15 : decode cX5_told 15 = .ok (.iconst 3, 1) := by decide +kernel
theorem dX5_told_16 : decode cX5_told 16 = .ok (.invokestatic 38, 3) := by decide +kernel
theorem dX5_told_19 : decode cX5_told 19 = .ok (.ifCond .eq 12, 3) := by decide +kernel
theorem dX5_told_22 : decode cX5_told 22 = .ok (.aload_n 0, 1) := by decide +kernel
theorem dX5_told_23 : decode cX5_told 23 = .ok (.iload_n 1, 1) := by decide +kernel
theorem dX5_told_24 : decode cX5_told 24 = .ok (.iload_n 2, 1) := by decide +kernel
theorem dX5_told_25 : decode cX5_told 25 = .ok (.invokevirtual 101, 3) := by decide +kernel
theorem dX5_told_28 : decode cX5_told 28 = .ok (.goto 8, 3) := by decide +kernel
theorem dX5_told_31 : decode cX5_told 31 = .ok (.aload_n 0, 1) := by decide +kernel
theorem dX5_told_32 : decode cX5_told 32 = .ok (.iconst 1, 1) := by decide +kernel
theorem dX5_told_33 : decode cX5_told 33 = .ok (.invokevirtual 45, 3) := by decide +kernel
theorem dX5_told_36 : decode cX5_told 36 = .ok (.ireturn, 1) := by decide +kernel
theorem dX5_count_0 : decode cX5_count 0 = .ok (.aload_n 0, 1) := by decide +kernel
theorem dX5_count_1 : decode cX5_count 1 = .ok (.iconst 0, 1) := by decide +kernel
theorem dX5_count_2 : decode cX5_count 2 = .ok (.putfield 31, 3) := by decide +kernel
theorem dX5_count_5 : decode cX5_count 5 = .ok (.iload_n 1, 1) := by decide +kernel
theorem dX5_count_6 : decode cX5_count 6 = .ok (.iconst 0, 1) := by decide +kernel
theorem dX5_count_7 : decode cX5_count 7 = .ok (.bipush 9, 2) := by decide +kernel
theorem dX5_count_9 : decode cX5_count 9 = .ok (.invokestatic 38, 3) := by decide +kernel
theorem dX5_count_12 : decode cX5_count 12 = .ok (.ifCond .eq 14, 3) := by decide +kernel
theorem dX5_count_15 : decode cX5_count 15 = .ok (.aload_n 0, 1) := by decide +kernel
theorem dX5_count_16 : decode cX5_count 16 = .ok (.getfield 24, 3) := by decide +kernel
theorem dX5_count_19 : decode cX5_count 19 = .ok (.iload_n 1, 1) := by decide +kernel
theorem dX5_count_20 : decode cX5_count 20 = .ok (.invokevirtual 104, 3) := by decide +kernel
theorem dX5_count_23 : decode cX5_count 23 = .ok (.goto 8, 3) := by decide +kernel
theorem dX5_count_26 : decode cX5_count 26 = .ok (.aload_n 0, 1) := by decide +kernel
theorem dX5_count_27 : decode cX5_count 27 = .ok (.iconst 1, 1) := by decide +kernel
theorem dX5_count_28 : decode cX5_count 28 = .ok (.invokevirtual 45, 3) := by decide +kernel
theorem dX5_count_31 : decode cX5_count 31 = .ok (.ireturn, 1) := by decide +kernel
theorem dX5_hinders_0 : decode cX5_hinders 0 = .ok (.aload_n 0, 1) := by decide +kernel
theorem dX5_hinders_1 : decode cX5_hinders 1 = .ok (.iconst 0, 1) := by decide +kernel
theorem dX5_hinders_2 : decode cX5_hinders 2 = .ok (.putfield 31, 3) := by decide +kernel
theorem dX5_hinders_5 : decode cX5_hinders 5 = .ok (.iload_n 1, 1) := by decide +kernel
theorem dX5_hinders_6 : decode cX5_hinders 6 = .ok (.iconst 1, 1) := by decide +kernel
theorem dX5_hinders_7 : decode cX5_hinders 7 = .ok (.bipush 20, 2) := by decide +kernel
theorem dX5_hinders_9 : decode cX5_hinders 9 = .ok (.invokestatic 38, 3) := by decide +kernel
theorem dX5_hinders_12 : decode cX5_hinders 12 = .ok (.ifCond .ne 9, 3) := by decide +kernel
theorem dX5_hinders_15 : decode cX5_hinders 15 = .ok (.aload_n 0, 1) := by decide +kernel
theorem dX5_hinders_16 : decode cX5_hinders 16 = .ok (.iconst 1, 1) := by decide +kernel
theorem dX5_hinders_17 : decode cX5_hinders 17 = .ok (.invokevirtual 45, 3) := by decide +kernel
theorem dX5_hinders_20 : decode cX5_hinders 20 = .ok (.ireturn, 1) := by decide +kernel
theorem dX5_hinders_21 : decode cX5_hinders 21 = .ok (.iconst 0, 1) := by decide +kernel
theorem dX5_hinders_22 : decode cX5_hinders 22 = .ok (.istore_n 2, 1) := by decide +kernel
theorem dX5_hinders_23 : decode cX5_hinders 23 = .ok (.iconst 0, 1) := by decide +kernel
theorem dX5_hinders_24 : decode cX5_hinders 24 = .ok (.istore_n 3, 1) := by decide +kernel
theorem dX5_hinders_25 : decode cX5_hinders 25 = .ok (.iload_n 3, 1) := by decide +kernel
theorem dX5_hinders_26 : decode cX5_hinders 26 = .ok (.aload_n 0, 1) := by decide +kernel
theorem dX5_hinders_27 : decode cX5_hinders 27 = .ok (.getfield 35, 3) := by decide +kernel
theorem dX5_hinders_30 : decode cX5_hinders 30 = .ok (.if_icmp .ge 29, 3) := by decide +kernel
theorem dX5_hinders_33 : decode cX5_hinders 33 = .ok (.iload_n 2, 1) := by decide +kernel
theorem dX5_hinders_34 : decode cX5_hinders 34 = .ok (.aload_n 0, 1) := by decide +kernel
theorem dX5_hinders_35 : decode cX5_hinders 35 = .ok (.getfield 24, 3) := by decide +kernel
theorem dX5_hinders_38 : decode cX5_hinders 38 = .ok (.iload_n 3, 1) := by decide +kernel
theorem dX5_hinders_39 : decode cX5_hinders 39 = .ok (.iload_n 1, 1) := by decide +kernel
theorem dX5_hinders_40 : decode cX5_hinders 40 = .ok (.invokevirtual 91, 3) := by decide +kernel
theorem dX5_hinders_43 : decode cX5_hinders 43 = .ok (.ifCond .eq 7, 3) := by decide +kernel
theorem dX5_hinders_46 : decode cX5_hinders 46 = .ok (.iconst 1, 1) := by decide +kernel
theorem dX5_hinders_47 : decode cX5_hinders 47 = .ok (.goto 4, 3) := by decide +kernel
theorem dX5_hinders_50 : decode cX5_hinders 50 = .ok (.iconst 0, 1) := by decide +kernel
theorem dX5_hinders_51 : decode cX5_hinders 51 = .ok (.iadd, 1) := by decide +kernel
theorem dX5_hinders_52 : decode cX5_hinders 52 = .ok (.istore_n 2, 1) := by decide +kernel
theorem dX5_hinders_53 : decode cX5_hinders 53 = .ok (.iinc 3 1, 3) := by decide +kernel
theorem dX5_hinders_56 : decode cX5_hinders 56 = .ok (.goto (-31), 3) := by decide +kernel
theorem dX5_hinders_59 : decode cX5_hinders 59 = .ok (.iload_n 2, 1) := by decide +kernel
theorem dX5_hinders_60 : decode cX5_hinders 60 = .ok (.ireturn, 1) := by decide +kernel
theorem dX5_richest_0 : decode cX5_richest 0 = .ok (.aload_n 0, 1) := by decide +kernel
theorem dX5_richest_1 : decode cX5_richest 1 = .ok (.iconst 0, 1) := by decide +kernel
theorem dX5_richest_2 : decode cX5_richest 2 = .ok (.putfield 31, 3) := by decide +kernel
theorem dX5_richest_5 : decode cX5_richest 5 = .ok (.iconst (-1), 1) := by decide +kernel
theorem dX5_richest_6 : decode cX5_richest 6 = .ok (.istore_n 1, 1) := by decide +kernel
theorem dX5_richest_7 : decode cX5_richest 7 = .ok (.iconst 0, 1) := by decide +kernel
theorem dX5_richest_8 : decode cX5_richest 8 = .ok (.istore_n 2, 1) := by decide +kernel
theorem dX5_richest_9 : decode cX5_richest 9 = .ok (.iload_n 2, 1) := by decide +kernel
theorem dX5_richest_10 : decode cX5_richest 10 = .ok (.aload_n 0, 1) := by decide +kernel
theorem dX5_richest_11 : decode cX5_richest 11 = .ok (.getfield 35, 3) := by decide +kernel
theorem dX5_richest_14 : decode cX5_richest 14 = .ok (.if_icmp .ge 48, 3) := by decide +kernel
theorem dX5_richest_17 : decode cX5_richest 17 = .ok (.aload_n 0, 1) := by decide +kernel
theorem dX5_richest_18 : decode cX5_richest 18 = .ok (.getfield 24, 3) := by decide +kernel
theorem dX5_richest_21 : decode cX5_richest 21 = .ok (.iload_n 2, 1) := by decide +kernel
theorem dX5_richest_22 : decode cX5_richest 22 = .ok (.invokevirtual 62, 3) := by decide +kernel
theorem dX5_richest_25 : decode cX5_richest 25 = .ok (.ifCond .eq 31, 3) := by decide +kernel
theorem dX5_richest_28 : decode cX5_richest 28 = .ok (.iload_n 1, 1) := by decide +kernel
theorem dX5_richest_29 : decode cX5_richest 29 = .ok (.iconst (-1), 1) := by decide +kernel
theorem dX5_richest_30 : decode cX5_richest 30 = .ok (.if_icmp .eq 24, 3) := by decide +kernel
theorem dX5_richest_33 : decode cX5_richest 33 = .ok (.aload_n 0, 1) := by decide +kernel
theorem dX5_richest_34 : decode cX5_richest 34 = .ok (.getfield 24, 3) := by decide +kernel
theorem dX5_richest_37 : decode cX5_richest 37 = .ok (.getfield 55, 3) := by decide +kernel
theorem dX5_richest_40 : decode cX5_richest 40 = .ok (.iload_n 2, 1) := by decide +kernel
theorem dX5_richest_41 : decode cX5_richest 41 = .ok (.iaload, 1) := by decide +kernel
theorem dX5_richest_42 : decode cX5_richest 42 = .ok (.aload_n 0, 1) := by decide +kernel
theorem dX5_richest_43 : decode cX5_richest 43 = .ok (.getfield 24, 3) := by decide +kernel
theorem dX5_richest_46 : decode cX5_richest 46 = .ok (.getfield 55, 3) := by decide +kernel
theorem dX5_richest_49 : decode cX5_richest 49 = .ok (.iload_n 1, 1) := by decide +kernel
theorem dX5_richest_50 : decode cX5_richest 50 = .ok (.iaload, 1) := by decide +kernel
theorem dX5_richest_51 : decode cX5_richest 51 = .ok (.if_icmp .le 5, 3) := by decide +kernel
theorem dX5_richest_54 : decode cX5_richest 54 = .ok (.iload_n 2, 1) := by decide +kernel
theorem dX5_richest_55 : decode cX5_richest 55 = .ok (.istore_n 1, 1) := by decide +kernel
theorem dX5_richest_56 : decode cX5_richest 56 = .ok (.iinc 2 1, 3) := by decide +kernel
theorem dX5_richest_59 : decode cX5_richest 59 = .ok (.goto (-50), 3) := by decide +kernel
theorem dX5_richest_62 : decode cX5_richest 62 = .ok (.iload_n 1, 1) := by decide +kernel
theorem dX5_richest_63 : decode cX5_richest 63 = .ok (.ireturn, 1) := by decide +kernel
theorem dX5_pass_0 : decode cX5_pass 0 = .ok (.aload_n 0, 1) := by decide +kernel
theorem dX5_pass_1 : decode cX5_pass 1 = .ok (.iconst 0, 1) := by decide +kernel
theorem dX5_pass_2 : decode cX5_pass 2 = .ok (.putfield 31, 3) := by decide +kernel
theorem dX5_pass_5 : decode cX5_pass 5 = .ok (.iload_n 1, 1) := by decide +kernel
theorem dX5_pass_6 : decode cX5_pass 6 = .ok (.iconst 1, 1) := by decide +kernel
theorem dX5_pass_7 : decode cX5_pass 7 = .ok (.bipush 60, 2) := by decide +kernel
theorem dX5_pass_9 : decode cX5_pass 9 = .ok (.invokestatic 38, 3) := by decide +kernel
theorem dX5_pass_12 : decode cX5_pass 12 = .ok (.ifCond .ne 9, 3) := by decide +kernel
theorem dX5_pass_15 : decode cX5_pass 15 = .ok (.aload_n 0, 1) := by decide +kernel
theorem dX5_pass_16 : decode cX5_pass 16 = .ok (.iconst 1, 1) := by decide +kernel
theorem dX5_pass_17 : decode cX5_pass 17 = .ok (.invokevirtual 45, 3) := by decide +kernel
theorem dX5_pass_20 : decode cX5_pass 20 = .ok (.ireturn, 1) := by decide +kernel
theorem dX5_pass_21 : decode cX5_pass 21 = .ok (.aload_n 0, 1) := by decide +kernel
theorem dX5_pass_22 : decode cX5_pass 22 = .ok (.getfield 24, 3) := by decide +kernel
theorem dX5_pass_25 : decode cX5_pass 25 = .ok (.getfield 107, 3) := by decide +kernel
theorem dX5_pass_28 : decode cX5_pass 28 = .ok (.istore_n 2, 1) := by decide +kernel
theorem dX5_pass_29 : decode cX5_pass 29 = .ok (.aload_n 0, 1) := by decide +kernel
theorem dX5_pass_30 : decode cX5_pass 30 = .ok (.getfield 24, 3) := by decide +kernel
theorem dX5_pass_33 : decode cX5_pass 33 = .ok (.iload_n 1, 1) := by decide +kernel
theorem dX5_pass_34 : decode cX5_pass 34 = .ok (.invokevirtual 110, 3) := by decide +kernel
theorem dX5_pass_37 : decode cX5_pass 37 = .ok (.aload_n 0, 1) := by decide +kernel
theorem dX5_pass_38 : decode cX5_pass 38 = .ok (.getfield 24, 3) := by decide +kernel
theorem dX5_pass_41 : decode cX5_pass 41 = .ok (.getfield 107, 3) := by decide +kernel
theorem dX5_pass_44 : decode cX5_pass 44 = .ok (.iload_n 2, 1) := by decide +kernel
theorem dX5_pass_45 : decode cX5_pass 45 = .ok (.isub, 1) := by decide +kernel
theorem dX5_pass_46 : decode cX5_pass 46 = .ok (.ireturn, 1) := by decide +kernel
theorem dX5_catches_0 : decode cX5_catches 0 = .ok (.aload_n 0, 1) := by decide +kernel
theorem dX5_catches_1 : decode cX5_catches 1 = .ok (.iconst 0, 1) := by decide +kernel
theorem dX5_catches_2 : decode cX5_catches 2 = .ok (.putfield 31, 3) := by decide +kernel
theorem dX5_catches_5 : decode cX5_catches 5 = .ok (.aload_n 0, 1) := by decide +kernel
theorem dX5_catches_6 : decode cX5_catches 6 = .ok (.iload_n 1, 1) := by decide +kernel
theorem dX5_catches_7 : decode cX5_catches 7 = .ok (.invokevirtual 58, 3) := by decide +kernel
theorem dX5_catches_10 : decode cX5_catches 10 = .ok (.ifCond .eq 21, 3) := by decide +kernel
theorem dX5_catches_13 : decode cX5_catches 13 = .ok (.aload_n 0, 1) := by decide +kernel
theorem dX5_catches_14 : decode cX5_catches 14 = .ok (.getfield 28, 3) := by decide +kernel
theorem dX5_catches_17 : decode cX5_catches 17 = .ok (.aload_n 0, 1) := by decide +kernel
theorem dX5_catches_18 : decode cX5_catches 18 = .ok (.getfield 24, 3) := by decide +kernel
theorem dX5_catches_21 : decode cX5_catches 21 = .ok (.invokevirtual 114, 3) := by decide +kernel
theorem dX5_catches_24 : decode cX5_catches 24 = .ok (.iload_n 1, 1) := by decide +kernel
theorem dX5_catches_25 : decode cX5_catches 25 = .ok (.invokevirtual 118, 3) := by decide +kernel
theorem dX5_catches_28 : decode cX5_catches 28 = .ok (.goto 8, 3) := by decide +kernel
theorem dX5_catches_31 : decode cX5_catches 31 = .ok (.aload_n 0, 1) := by decide +kernel
theorem dX5_catches_32 : decode cX5_catches 32 = .ok (.iconst 1, 1) := by decide +kernel
theorem dX5_catches_33 : decode cX5_catches 33 = .ok (.invokevirtual 45, 3) := by decide +kernel
theorem dX5_catches_36 : decode cX5_catches 36 = .ok (.ireturn, 1) := by decide +kernel
theorem dX5_isUnderWay_0 : decode cX5_isUnderWay 0 = .ok (.iconst 0, 1) := by decide +kernel
theorem dX5_isUnderWay_1 : decode cX5_isUnderWay 1 = .ok (.istore_n 2, 1) := by decide +kernel
theorem dX5_isUnderWay_2 : decode cX5_isUnderWay 2 = .ok (.iload_n 2, 1) := by decide +kernel
theorem dX5_isUnderWay_3 : decode cX5_isUnderWay 3 = .ok (.aload_n 0, 1) := by decide +kernel
theorem dX5_isUnderWay_4 : decode cX5_isUnderWay 4 = .ok (.getfield 28, 3) := by decide +kernel
theorem dX5_isUnderWay_7 : decode cX5_isUnderWay 7 = .ok (.getfield 42, 3) := by decide +kernel
theorem dX5_isUnderWay_10 : decode cX5_isUnderWay 10 = .ok (.if_icmp .ge 24, 3) := by decide +kernel
theorem dX5_isUnderWay_13 : decode cX5_isUnderWay 13 = .ok (.aload_n 0, 1) := by decide +kernel
theorem dX5_isUnderWay_14 : decode cX5_isUnderWay 14 = .ok (.getfield 28, 3) := by decide +kernel
theorem dX5_isUnderWay_17 : decode cX5_isUnderWay 17 = .ok (.getfield 121, 3) := by decide +kernel
theorem dX5_isUnderWay_20 : decode cX5_isUnderWay 20 = .ok (.iload_n 2, 1) := by decide +kernel
theorem dX5_isUnderWay_21 : decode cX5_isUnderWay 21 = .ok (.iaload, 1) := by decide +kernel
theorem dX5_isUnderWay_22 : decode cX5_isUnderWay 22 = .ok (.iload_n 1, 1) := by decide +kernel
theorem dX5_isUnderWay_23 : decode cX5_isUnderWay 23 = .ok (.if_icmp .ne 5, 3) := by decide +kernel
theorem dX5_isUnderWay_26 : decode cX5_isUnderWay 26 = .ok (.iconst 1, 1) := by decide +kernel
theorem dX5_isUnderWay_27 : decode cX5_isUnderWay 27 = .ok (.ireturn, 1) := by decide +kernel
theorem dX5_isUnderWay_28 : decode cX5_isUnderWay 28 = .ok (.iinc 2 1, 3) := by decide +kernel
theorem dX5_isUnderWay_31 : decode cX5_isUnderWay 31 = .ok (.goto (-29), 3) := by decide +kernel
theorem dX5_isUnderWay_34 : decode cX5_isUnderWay 34 = .ok (.iconst 0, 1) := by decide +kernel
theorem dX5_isUnderWay_35 : decode cX5_isUnderWay 35 = .ok (.ireturn, 1) := by decide +kernel
theorem dX5_arrives_0 : decode cX5_arrives 0 = .ok (.aload_n 0, 1) := by decide +kernel
theorem dX5_arrives_1 : decode cX5_arrives 1 = .ok (.iconst 0, 1) := by decide +kernel
theorem dX5_arrives_2 : decode cX5_arrives 2 = .ok (.putfield 31, 3) := by decide +kernel
theorem dX5_arrives_5 : decode cX5_arrives 5 = .ok (.aload_n 0, 1) := by decide +kernel
theorem dX5_arrives_6 : decode cX5_arrives 6 = .ok (.iload_n 1, 1) := by decide +kernel
theorem dX5_arrives_7 : decode cX5_arrives 7 = .ok (.invokevirtual 98, 3) := by decide +kernel
theorem dX5_arrives_10 : decode cX5_arrives 10 = .ok (.ifCond .ne 9, 3) := by decide +kernel
theorem dX5_arrives_13 : decode cX5_arrives 13 = .ok (.aload_n 0, 1) := by decide +kernel
theorem dX5_arrives_14 : decode cX5_arrives 14 = .ok (.iconst 1, 1) := by decide +kernel
theorem dX5_arrives_15 : decode cX5_arrives 15 = .ok (.invokevirtual 45, 3) := by decide +kernel
theorem dX5_arrives_18 : decode cX5_arrives 18 = .ok (.ireturn, 1) := by decide +kernel
theorem dX5_arrives_19 : decode cX5_arrives 19 = .ok (.aload_n 0, 1) := by decide +kernel
theorem dX5_arrives_20 : decode cX5_arrives 20 = .ok (.getfield 28, 3) := by decide +kernel
theorem dX5_arrives_23 : decode cX5_arrives 23 = .ok (.aload_n 0, 1) := by decide +kernel
theorem dX5_arrives_24 : decode cX5_arrives 24 = .ok (.getfield 24, 3) := by decide +kernel
theorem dX5_arrives_27 : decode cX5_arrives 27 = .ok (.invokevirtual 114, 3) := by decide +kernel
theorem dX5_arrives_30 : decode cX5_arrives 30 = .ok (.pop, 1) := by decide +kernel
theorem dX5_arrives_31 : decode cX5_arrives 31 = .ok (.iconst 0, 1) := by decide +kernel
theorem dX5_arrives_32 : decode cX5_arrives 32 = .ok (.istore_n 2, 1) := by decide +kernel
theorem dX5_arrives_33 : decode cX5_arrives 33 = .ok (.aload_n 0, 1) := by decide +kernel
theorem dX5_arrives_34 : decode cX5_arrives 34 = .ok (.iload_n 1, 1) := by decide +kernel
theorem dX5_arrives_35 : decode cX5_arrives 35 = .ok (.invokevirtual 124, 3) := by decide +kernel
theorem dX5_arrives_38 : decode cX5_arrives 38 = .ok (.ifCond .eq 16, 3) := by decide +kernel
theorem dX5_arrives_41 : decode cX5_arrives 41 = .ok (.aload_n 0, 1) := by decide +kernel
theorem dX5_arrives_42 : decode cX5_arrives 42 = .ok (.getfield 28, 3) := by decide +kernel
theorem dX5_arrives_45 : decode cX5_arrives 45 = .ok (.invokevirtual 127, 3) := by decide +kernel
theorem dX5_arrives_48 : decode cX5_arrives 48 = .ok (.iinc 2 1, 3) := by decide +kernel
theorem dX5_arrives_51 : decode cX5_arrives 51 = .ok (.goto (-18), 3) := by decide +kernel
theorem dX5_arrives_54 : decode cX5_arrives 54 = .ok (.iload_n 2, 1) := by decide +kernel
theorem dX5_arrives_55 : decode cX5_arrives 55 = .ok (.ireturn, 1) := by decide +kernel
theorem dX5_lasts_0 : decode cX5_lasts 0 = .ok (.aload_n 0, 1) := by decide +kernel
theorem dX5_lasts_1 : decode cX5_lasts 1 = .ok (.iconst 0, 1) := by decide +kernel
theorem dX5_lasts_2 : decode cX5_lasts 2 = .ok (.putfield 31, 3) := by decide +kernel
theorem dX5_lasts_5 : decode cX5_lasts 5 = .ok (.aload_n 0, 1) := by decide +kernel
theorem dX5_lasts_6 : decode cX5_lasts 6 = .ok (.iload_n 1, 1) := by decide +kernel
theorem dX5_lasts_7 : decode cX5_lasts 7 = .ok (.invokevirtual 58, 3) := by decide +kernel
theorem dX5_lasts_10 : decode cX5_lasts 10 = .ok (.ifCond .ne 9, 3) := by decide +kernel
theorem dX5_lasts_13 : decode cX5_lasts 13 = .ok (.aload_n 0, 1) := by decide +kernel
theorem dX5_lasts_14 : decode cX5_lasts 14 = .ok (.iconst 1, 1) := by decide +kernel
theorem dX5_lasts_15 : decode cX5_lasts 15 = .ok (.invokevirtual 45, 3) := by decide +kernel
theorem dX5_lasts_18 : decode cX5_lasts 18 = .ok (.ireturn, 1) := by decide +kernel
theorem dX5_lasts_19 : decode cX5_lasts 19 = .ok (.aload_n 0, 1) := by decide +kernel
theorem dX5_lasts_20 : decode cX5_lasts 20 = .ok (.getfield 28, 3) := by decide +kernel
theorem dX5_lasts_23 : decode cX5_lasts 23 = .ok (.aload_n 0, 1) := by decide +kernel
theorem dX5_lasts_24 : decode cX5_lasts 24 = .ok (.getfield 24, 3) := by decide +kernel
theorem dX5_lasts_27 : decode cX5_lasts 27 = .ok (.invokevirtual 114, 3) := by decide +kernel
theorem dX5_lasts_30 : decode cX5_lasts 30 = .ok (.pop, 1) := by decide +kernel
