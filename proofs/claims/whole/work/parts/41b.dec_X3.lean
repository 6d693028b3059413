theorem dX3_told_14 : decode cX3_told 14 = .ok (.iconst 0, 1) := by decide +kernel
theorem dX3_told_15 : decode cX3_told 15 = .ok (.iconst 3, 1) := by decide +kernel
theorem dX3_told_16 : decode cX3_told 16 = .ok (.invokestatic 19, 3) := by decide +kernel
theorem dX3_told_19 : decode cX3_told 19 = .ok (.ifCond .ne 13, 3) := by decide +kernel
theorem dX3_told_22 : decode cX3_told 22 = .ok (.new 47, 3) := by decide +kernel
theorem dX3_told_25 : decode cX3_told 25 = .ok (.dup, 1) := by decide +kernel
theorem dX3_told_26 : decode cX3_told 26 = .ok (.ldc 125, 2) := by decide +kernel
theorem dX3_told_28 : decode cX3_told 28 = .ok (.invokespecial 51, 3) := by decide +kernel
theorem dX3_told_31 : decode cX3_told 31 = .ok (.athrow, 1) := by decide +kernel
theorem dX3_told_32 : decode cX3_told 32 = .ok (.aload_n 0, 1) := by decide +kernel
theorem dX3_told_33 : decode cX3_told 33 = .ok (.getfield 12, 3) := by decide +kernel
theorem dX3_told_36 : decode cX3_told 36 = .ok (.aload_n 3, 1) := by decide +kernel
theorem dX3_told_37 : decode cX3_told 37 = .ok (.iload_n 2, 1) := by decide +kernel
theorem dX3_told_38 : decode cX3_told 38 = .ok (.invokevirtual 127, 3) := by decide +kernel
theorem dX3_told_41 : decode cX3_told 41 = .ok (.ireturn, 1) := by decide +kernel
theorem dX3_count_0 : decode cX3_count 0 = .ok (.iload_n 1, 1) := by decide +kernel
theorem dX3_count_1 : decode cX3_count 1 = .ok (.iconst 0, 1) := by decide +kernel
theorem dX3_count_2 : decode cX3_count 2 = .ok (.bipush 9, 2) := by decide +kernel
theorem dX3_count_4 : decode cX3_count 4 = .ok (.invokestatic 19, 3) := by decide +kernel
theorem dX3_count_7 : decode cX3_count 7 = .ok (.ifCond .ne 13, 3) := by decide +kernel
theorem dX3_count_10 : decode cX3_count 10 = .ok (.new 47, 3) := by decide +kernel
theorem dX3_count_13 : decode cX3_count 13 = .ok (.dup, 1) := by decide +kernel
theorem dX3_count_14 : decode cX3_count 14 = .ok (.ldc 131, 2) := by decide +kernel
theorem dX3_count_16 : decode cX3_count 16 = .ok (.invokespecial 51, 3) := by decide +kernel
theorem dX3_count_19 : decode cX3_count 19 = .ok (.athrow, 1) := by decide +kernel
theorem dX3_count_20 : decode cX3_count 20 = .ok (.aload_n 0, 1) := by decide +kernel
theorem dX3_count_21 : decode cX3_count 21 = .ok (.getfield 12, 3) := by decide +kernel
theorem dX3_count_24 : decode cX3_count 24 = .ok (.iload_n 1, 1) := by decide +kernel
theorem dX3_count_25 : decode cX3_count 25 = .ok (.invokevirtual 133, 3) := by decide +kernel
theorem dX3_count_28 : decode cX3_count 28 = .ok (.ireturn, 1) := by decide +kernel
theorem dX3_hinders_0 : decode cX3_hinders 0 = .ok (.iload_n 1, 1) := by decide +kernel
theorem dX3_hinders_1 : decode cX3_hinders 1 = .ok (.iconst 1, 1) := by decide +kernel
theorem dX3_hinders_2 : decode cX3_hinders 2 = .ok (.bipush 20, 2) := by decide +kernel
theorem dX3_hinders_4 : decode cX3_hinders 4 = .ok (.invokestatic 19, 3) := by decide +kernel
theorem dX3_hinders_7 : decode cX3_hinders 7 = .ok (.ifCond .ne 13, 3) := by decide +kernel
theorem dX3_hinders_10 : decode cX3_hinders 10 = .ok (.new 23, 3) := by decide +kernel
theorem dX3_hinders_13 : decode cX3_hinders 13 = .ok (.dup, 1) := by decide +kernel
theorem dX3_hinders_14 : decode cX3_hinders 14 = .ok (.ldc 106, 2) := by decide +kernel
theorem dX3_hinders_16 : decode cX3_hinders 16 = .ok (.invokespecial 27, 3) := by decide +kernel
theorem dX3_hinders_19 : decode cX3_hinders 19 = .ok (.athrow, 1) := by decide +kernel
theorem dX3_hinders_20 : decode cX3_hinders 20 = .ok (.aload_n 0, 1) := by decide +kernel
theorem dX3_hinders_21 : decode cX3_hinders 21 = .ok (.getfield 12, 3) := by decide +kernel
theorem dX3_hinders_24 : decode cX3_hinders 24 = .ok (.iload_n 1, 1) := by decide +kernel
theorem dX3_hinders_25 : decode cX3_hinders 25 = .ok (.invokevirtual 134, 3) := by decide +kernel
theorem dX3_hinders_28 : decode cX3_hinders 28 = .ok (.ireturn, 1) := by decide +kernel
theorem dX3_richest_0 : decode cX3_richest 0 = .ok (.aload_n 0, 1) := by decide +kernel
theorem dX3_richest_1 : decode cX3_richest 1 = .ok (.getfield 12, 3) := by decide +kernel
theorem dX3_richest_4 : decode cX3_richest 4 = .ok (.invokevirtual 137, 3) := by decide +kernel
theorem dX3_richest_7 : decode cX3_richest 7 = .ok (.ireturn, 1) := by decide +kernel
theorem dX3_pass_0 : decode cX3_pass 0 = .ok (.iload_n 1, 1) := by decide +kernel
theorem dX3_pass_1 : decode cX3_pass 1 = .ok (.iconst 1, 1) := by decide +kernel
theorem dX3_pass_2 : decode cX3_pass 2 = .ok (.bipush 60, 2) := by decide +kernel
theorem dX3_pass_4 : decode cX3_pass 4 = .ok (.invokestatic 19, 3) := by decide +kernel
theorem dX3_pass_7 : decode cX3_pass 7 = .ok (.ifCond .ne 13, 3) := by decide +kernel
theorem dX3_pass_10 : decode cX3_pass 10 = .ok (.new 23, 3) := by decide +kernel
theorem dX3_pass_13 : decode cX3_pass 13 = .ok (.dup, 1) := by decide +kernel
theorem dX3_pass_14 : decode cX3_pass 14 = .ok (.ldc 140, 2) := by decide +kernel
theorem dX3_pass_16 : decode cX3_pass 16 = .ok (.invokespecial 27, 3) := by decide +kernel
theorem dX3_pass_19 : decode cX3_pass 19 = .ok (.athrow, 1) := by decide +kernel
theorem dX3_pass_20 : decode cX3_pass 20 = .ok (.aload_n 0, 1) := by decide +kernel
theorem dX3_pass_21 : decode cX3_pass 21 = .ok (.getfield 12, 3) := by decide +kernel
theorem dX3_pass_24 : decode cX3_pass 24 = .ok (.getfield 142, 3) := by decide +kernel
theorem dX3_pass_27 : decode cX3_pass 27 = .ok (.istore_n 2, 1) := by decide +kernel
theorem dX3_pass_28 : decode cX3_pass 28 = .ok (.aload_n 0, 1) := by decide +kernel
theorem dX3_pass_29 : decode cX3_pass 29 = .ok (.getfield 12, 3) := by decide +kernel
theorem dX3_pass_32 : decode cX3_pass 32 = .ok (.iload_n 1, 1) := by decide +kernel
theorem dX3_pass_33 : decode cX3_pass 33 = .ok (.invokevirtual 145, 3) := by decide +kernel
theorem dX3_pass_36 : decode cX3_pass 36 = .ok (.aload_n 0, 1) := by decide +kernel
theorem dX3_pass_37 : decode cX3_pass 37 = .ok (.getfield 12, 3) := by decide +kernel
theorem dX3_pass_40 : decode cX3_pass 40 = .ok (.getfield 142, 3) := by decide +kernel
theorem dX3_pass_43 : decode cX3_pass 43 = .ok (.iload_n 2, 1) := by decide +kernel
theorem dX3_pass_44 : decode cX3_pass 44 = .ok (.isub, 1) := by decide +kernel
theorem dX3_pass_45 : decode cX3_pass 45 = .ok (.ireturn, 1) := by decide +kernel
theorem dX3_catches_0 : decode cX3_catches 0 = .ok (.aload_n 0, 1) := by decide +kernel
theorem dX3_catches_1 : decode cX3_catches 1 = .ok (.getfield 12, 3) := by decide +kernel
theorem dX3_catches_4 : decode cX3_catches 4 = .ok (.iload_n 1, 1) := by decide +kernel
theorem dX3_catches_5 : decode cX3_catches 5 = .ok (.invokevirtual 43, 3) := by decide +kernel
theorem dX3_catches_8 : decode cX3_catches 8 = .ok (.astore_n 2, 1) := by decide +kernel
theorem dX3_catches_9 : decode cX3_catches 9 = .ok (.aload_n 2, 1) := by decide +kernel
theorem dX3_catches_10 : decode cX3_catches 10 = .ok (.ifnonnull 13, 3) := by decide +kernel
theorem dX3_catches_13 : decode cX3_catches 13 = .ok (.new 47, 3) := by decide +kernel
theorem dX3_catches_16 : decode cX3_catches 16 = .ok (.dup, 1) := by decide +kernel
theorem dX3_catches_17 : decode cX3_catches 17 = .ok (.ldc 49, 2) := by decide +kernel
theorem dX3_catches_19 : decode cX3_catches 19 = .ok (.invokespecial 51, 3) := by decide +kernel
theorem dX3_catches_22 : decode cX3_catches 22 = .ok (.athrow, 1) := by decide +kernel
theorem dX3_catches_23 : decode cX3_catches 23 = .ok (.aload_n 0, 1) := by decide +kernel
theorem dX3_catches_24 : decode cX3_catches 24 = .ok (.getfield 16, 3) := by decide +kernel
theorem dX3_catches_27 : decode cX3_catches 27 = .ok (.aload_n 0, 1) := by decide +kernel
theorem dX3_catches_28 : decode cX3_catches 28 = .ok (.getfield 12, 3) := by decide +kernel
theorem dX3_catches_31 : decode cX3_catches 31 = .ok (.invokevirtual 149, 3) := by decide +kernel
theorem dX3_catches_34 : decode cX3_catches 34 = .ok (.aload_n 0, 1) := by decide +kernel
theorem dX3_catches_35 : decode cX3_catches 35 = .ok (.getfield 16, 3) := by decide +kernel
theorem dX3_catches_38 : decode cX3_catches 38 = .ok (.invokevirtual 153, 3) := by decide +kernel
theorem dX3_catches_41 : decode cX3_catches 41 = .ok (.aload_n 0, 1) := by decide +kernel
theorem dX3_catches_42 : decode cX3_catches 42 = .ok (.getfield 16, 3) := by decide +kernel
theorem dX3_catches_45 : decode cX3_catches 45 = .ok (.iload_n 1, 1) := by decide +kernel
theorem dX3_catches_46 : decode cX3_catches 46 = .ok (.invokevirtual 43, 3) := by decide +kernel
theorem dX3_catches_49 : decode cX3_catches 49 = .ok (.astore_n 3, 1) := by decide +kernel
theorem dX3_catches_50 : decode cX3_catches 50 = .ok (.aload_n 3, 1) := by decide +kernel
theorem dX3_catches_51 : decode cX3_catches 51 = .ok (.ifnonnull 7, 3) := by decide +kernel
theorem dX3_catches_54 : decode cX3_catches 54 = .ok (.iconst 0, 1) := by decide +kernel
theorem dX3_catches_55 : decode cX3_catches 55 = .ok (.goto 12, 3) := by decide +kernel
theorem dX3_catches_58 : decode cX3_catches 58 = .ok (.aload_n 3, 1) := by decide +kernel
theorem dX3_catches_59 : decode cX3_catches 59 = .ok (.getfield 81, 3) := by decide +kernel
theorem dX3_catches_62 : decode cX3_catches 62 = .ok (.aload_n 2, 1) := by decide +kernel
theorem dX3_catches_63 : decode cX3_catches 63 = .ok (.getfield 81, 3) := by decide +kernel
theorem dX3_catches_66 : decode cX3_catches 66 = .ok (.isub, 1) := by decide +kernel
theorem dX3_catches_67 : decode cX3_catches 67 = .ok (.ireturn, 1) := by decide +kernel
theorem dX3_arrives_0 : decode cX3_arrives 0 = .ok (.aload_n 0, 1) := by decide +kernel
theorem dX3_arrives_1 : decode cX3_arrives 1 = .ok (.getfield 12, 3) := by decide +kernel
theorem dX3_arrives_4 : decode cX3_arrives 4 = .ok (.iload_n 1, 1) := by decide +kernel
theorem dX3_arrives_5 : decode cX3_arrives 5 = .ok (.invokevirtual 121, 3) := by decide +kernel
theorem dX3_arrives_8 : decode cX3_arrives 8 = .ok (.astore_n 2, 1) := by decide +kernel
theorem dX3_arrives_9 : decode cX3_arrives 9 = .ok (.aload_n 2, 1) := by decide +kernel
theorem dX3_arrives_10 : decode cX3_arrives 10 = .ok (.ifnonnull 13, 3) := by decide +kernel
theorem dX3_arrives_13 : decode cX3_arrives 13 = .ok (.new 47, 3) := by decide +kernel
theorem dX3_arrives_16 : decode cX3_arrives 16 = .ok (.dup, 1) := by decide +kernel
theorem dX3_arrives_17 : decode cX3_arrives 17 = .ok (.ldc 156, 2) := by decide +kernel
theorem dX3_arrives_19 : decode cX3_arrives 19 = .ok (.invokespecial 51, 3) := by decide +kernel
theorem dX3_arrives_22 : decode cX3_arrives 22 = .ok (.athrow, 1) := by decide +kernel
theorem dX3_arrives_23 : decode cX3_arrives 23 = .ok (.aload_n 0, 1) := by decide +kernel
theorem dX3_arrives_24 : decode cX3_arrives 24 = .ok (.getfield 16, 3) := by decide +kernel
theorem dX3_arrives_27 : decode cX3_arrives 27 = .ok (.aload_n 0, 1) := by decide +kernel
theorem dX3_arrives_28 : decode cX3_arrives 28 = .ok (.getfield 12, 3) := by decide +kernel
theorem dX3_arrives_31 : decode cX3_arrives 31 = .ok (.invokevirtual 149, 3) := by decide +kernel
theorem dX3_arrives_34 : decode cX3_arrives 34 = .ok (.iconst 0, 1) := by decide +kernel
theorem dX3_arrives_35 : decode cX3_arrives 35 = .ok (.istore_n 3, 1) := by decide +kernel
theorem dX3_arrives_36 : decode cX3_arrives 36 = .ok (.iload_n 3, 1) := by decide +kernel
theorem dX3_arrives_37 : decode cX3_arrives 37 = .ok (.bipush 39, 2) := by decide +kernel
theorem dX3_arrives_39 : decode cX3_arrives 39 = .ok (.if_icmp .gt 31, 3) := by decide +kernel
theorem dX3_arrives_42 : decode cX3_arrives 42 = .ok (.aload_n 0, 1) := by decide +kernel
theorem dX3_arrives_43 : decode cX3_arrives 43 = .ok (.getfield 16, 3) := by decide +kernel
theorem dX3_arrives_46 : decode cX3_arrives 46 = .ok (.aload_n 2, 1) := by decide +kernel
theorem dX3_arrives_47 : decode cX3_arrives 47 = .ok (.getfield 158, 3) := by decide +kernel
theorem dX3_arrives_50 : decode cX3_arrives 50 = .ok (.invokevirtual 163, 3) := by decide +kernel
theorem dX3_arrives_53 : decode cX3_arrives 53 = .ok (.ifCond .eq 17, 3) := by decide +kernel
theorem dX3_arrives_56 : decode cX3_arrives 56 = .ok (.aload_n 0, 1) := by decide +kernel
theorem dX3_arrives_57 : decode cX3_arrives 57 = .ok (.getfield 16, 3) := by decide +kernel
theorem dX3_arrives_60 : decode cX3_arrives 60 = .ok (.iconst 1, 1) := by decide +kernel
theorem dX3_arrives_61 : decode cX3_arrives 61 = .ok (.invokevirtual 145, 3) := by decide +kernel
theorem dX3_arrives_64 : decode cX3_arrives 64 = .ok (.iinc 3 1, 3) := by decide +kernel
theorem dX3_arrives_67 : decode cX3_arrives 67 = .ok (.goto (-31), 3) := by decide +kernel
theorem dX3_arrives_70 : decode cX3_arrives 70 = .ok (.iload_n 3, 1) := by decide +kernel
theorem dX3_arrives_71 : decode cX3_arrives 71 = .ok (.ireturn, 1) := by decide +kernel
theorem dX3_lasts_0 : decode cX3_lasts 0 = .ok (.aload_n 0, 1) := by decide +kernel
theorem dX3_lasts_1 : decode cX3_lasts 1 = .ok (.getfield 12, 3) := by decide +kernel
theorem dX3_lasts_4 : decode cX3_lasts 4 = .ok (.iload_n 1, 1) := by decide +kernel
theorem dX3_lasts_5 : decode cX3_lasts 5 = .ok (.invokevirtual 43, 3) := by decide +kernel
theorem dX3_lasts_8 : decode cX3_lasts 8 = .ok (.ifnonnull 13, 3) := by decide +kernel
theorem dX3_lasts_11 : decode cX3_lasts 11 = .ok (.new 47, 3) := by decide +kernel
theorem dX3_lasts_14 : decode cX3_lasts 14 = .ok (.dup, 1) := by decide +kernel
theorem dX3_lasts_15 : decode cX3_lasts 15 = .ok (.ldc 49, 2) := by decide +kernel
theorem dX3_lasts_17 : decode cX3_lasts 17 = .ok (.invokespecial 51, 3) := by decide +kernel
theorem dX3_lasts_20 : decode cX3_lasts 20 = .ok (.athrow, 1) := by decide +kernel
theorem dX3_lasts_21 : decode cX3_lasts 21 = .ok (.aload_n 0, 1) := by decide +kernel
theorem dX3_lasts_22 : decode cX3_lasts 22 = .ok (.getfield 16, 3) := by decide +kernel
theorem dX3_lasts_25 : decode cX3_lasts 25 = .ok (.aload_n 0, 1) := by decide +kernel
theorem dX3_lasts_26 : decode cX3_lasts 26 = .ok (.getfield 12, 3) := by decide +kernel
theorem dX3_lasts_29 : decode cX3_lasts 29 = .ok (.invokevirtual 149, 3) := by decide +kernel
theorem dX3_lasts_32 : decode cX3_lasts 32 = .ok (.aload_n 0, 1) := by decide +kernel
theorem dX3_lasts_33 : decode cX3_lasts 33 = .ok (.getfield 16, 3) := by decide +kernel
theorem dX3_lasts_36 : decode cX3_lasts 36 = .ok (.iload_n 1, 1) := by decide +kernel
theorem dX3_lasts_37 : decode cX3_lasts 37 = .ok (.invokevirtual 43, 3) := by decide +kernel
theorem dX3_lasts_40 : decode cX3_lasts 40 = .ok (.astore_n 2, 1) := by decide +kernel
theorem dX3_lasts_41 : decode cX3_lasts 41 = .ok (.iconst 0, 1) := by decide +kernel
theorem dX3_lasts_42 : decode cX3_lasts 42 = .ok (.istore_n 3, 1) := by decide +kernel
theorem dX3_lasts_43 : decode cX3_lasts 43 = .ok (.iload_n 3, 1) := by decide +kernel
theorem dX3_lasts_44 : decode cX3_lasts 44 = .ok (.bipush 100, 2) := by decide +kernel
theorem dX3_lasts_46 : decode cX3_lasts 46 = .ok (.if_icmp .ge 35, 3) := by decide +kernel
theorem dX3_lasts_49 : decode cX3_lasts 49 = .ok (.aload_n 2, 1) := by decide +kernel
theorem dX3_lasts_50 : decode cX3_lasts 50 = .ok (.ifnull 31, 3) := by decide +kernel
theorem dX3_lasts_53 : decode cX3_lasts 53 = .ok (.aload_n 2, 1) := by decide +kernel
theorem dX3_lasts_54 : decode cX3_lasts 54 = .ok (.invokevirtual 52, 3) := by decide +kernel
theorem dX3_lasts_57 : decode cX3_lasts 57 = .ok (.ifCond .eq 24, 3) := by decide +kernel
theorem dX3_lasts_60 : decode cX3_lasts 60 = .ok (.aload_n 2, 1) := by decide +kernel
theorem dX3_lasts_61 : decode cX3_lasts 61 = .ok (.getfield 66, 3) := by decide +kernel
theorem dX3_lasts_64 : decode cX3_lasts 64 = .ok (.ifCond .le 17, 3) := by decide +kernel
theorem dX3_lasts_67 : decode cX3_lasts 67 = .ok (.aload_n 0, 1) := by decide +kernel
theorem dX3_lasts_68 : decode cX3_lasts 68 = .ok (.getfield 16, 3) := by decide +kernel
theorem dX3_lasts_71 : decode cX3_lasts 71 = .ok (.iconst 1, 1) := by decide +kernel
theorem dX3_lasts_72 : decode cX3_lasts 72 = .ok (.invokevirtual 145, 3) := by decide +kernel
theorem dX3_lasts_75 : decode cX3_lasts 75 = .ok (.iinc 3 1, 3) := by decide +kernel
theorem dX3_lasts_78 : decode cX3_lasts 78 = .ok (.goto (-35), 3) := by decide +kernel
theorem dX3_lasts_81 : decode cX3_lasts 81 = .ok (.iload_n 3, 1) := by decide +kernel
theorem dX3_lasts_82 : decode cX3_lasts 82 = .ok (.ireturn, 1) := by decide +kernel
theorem dX3_foresee_0 : decode cX3_foresee 0 = .ok (.iload_n 1, 1) := by decide +kernel
theorem dX3_foresee_1 : decode cX3_foresee 1 = .ok (.iconst 1, 1) := by decide +kernel
theorem dX3_foresee_2 : decode cX3_foresee 2 = .ok (.bipush 56, 2) := by decide +kernel
theorem dX3_foresee_4 : decode cX3_foresee 4 = .ok (.invokestatic 19, 3) := by decide +kernel
theorem dX3_foresee_7 : decode cX3_foresee 7 = .ok (.ifCond .ne 13, 3) := by decide +kernel
theorem dX3_foresee_10 : decode cX3_foresee 10 = .ok (.new 23, 3) := by decide +kernel
theorem dX3_foresee_13 : decode cX3_foresee 13 = .ok (.dup, 1) := by decide +kernel
theorem dX3_foresee_14 : decode cX3_foresee 14 = .ok (.ldc 167, 2) := by decide +kernel
theorem dX3_foresee_16 : decode cX3_foresee 16 = .ok (.invokespecial 27, 3) := by decide +kernel
theorem dX3_foresee_19 : decode cX3_foresee 19 = .ok (.athrow, 1) := by decide +kernel
theorem dX3_foresee_20 : decode cX3_foresee 20 = .ok (.iload_n 2, 1) := by decide +kernel
theorem dX3_foresee_21 : decode cX3_foresee 21 = .ok (.iconst 4, 1) := by decide +kernel
theorem dX3_foresee_22 : decode cX3_foresee 22 = .ok (.if_icmp .eq 24, 3) := by decide +kernel
theorem dX3_foresee_25 : decode cX3_foresee 25 = .ok (.iload_n 2, 1) := by decide +kernel
theorem dX3_foresee_26 : decode cX3_foresee 26 = .ok (.bipush 6, 2) := by decide +kernel
theorem dX3_foresee_28 : decode cX3_foresee 28 = .ok (.bipush 9, 2) := by decide +kernel
theorem dX3_foresee_30 : decode cX3_foresee 30 = .ok (.invokestatic 19, 3) := by decide +kernel
theorem dX3_foresee_33 : decode cX3_foresee 33 = .ok (.ifCond .ne 13, 3) := by decide +kernel
theorem dX3_foresee_36 : decode cX3_foresee 36 = .ok (.new 47, 3) := by decide +kernel
theorem dX3_foresee_39 : decode cX3_foresee 39 = .ok (.dup, 1) := by decide +kernel
theorem dX3_foresee_40 : decode cX3_foresee 40 = .ok (.ldc 169, 2) := by decide +kernel
theorem dX3_foresee_42 : decode cX3_foresee 42 = .ok (.invokespecial 51, 3) := by decide +kernel
theorem dX3_foresee_45 : decode cX3_foresee 45 = .ok (.athrow, 1) := by decide +kernel
theorem dX3_foresee_46 : decode cX3_foresee 46 = .ok (.aload_n 0, 1) := by decide +kernel
theorem dX3_foresee_47 : decode cX3_foresee 47 = .ok (.getfield 16, 3) := by decide +kernel
theorem dX3_foresee_50 : decode cX3_foresee 50 = .ok (.aload_n 0, 1) := by decide +kernel
theorem dX3_foresee_51 : decode cX3_foresee 51 = .ok (.getfield 12, 3) := by decide +kernel
theorem dX3_foresee_54 : decode cX3_foresee 54 = .ok (.invokevirtual 149, 3) := by decide +kernel
theorem dX3_foresee_57 : decode cX3_foresee 57 = .ok (.aload_n 0, 1) := by decide +kernel
theorem dX3_foresee_58 : decode cX3_foresee 58 = .ok (.getfield 16, 3) := by decide +kernel
theorem dX3_foresee_61 : decode cX3_foresee 61 = .ok (.iload_n 1, 1) := by decide +kernel
theorem dX3_foresee_62 : decode cX3_foresee 62 = .ok (.invokevirtual 145, 3) := by decide +kernel
theorem dX3_foresee_65 : decode cX3_foresee 65 = .ok (.aload_n 0, 1) := by decide +kernel
theorem dX3_foresee_66 : decode cX3_foresee 66 = .ok (.getfield 16, 3) := by decide +kernel
theorem dX3_foresee_69 : decode cX3_foresee 69 = .ok (.iload_n 2, 1) := by decide +kernel
theorem dX3_foresee_70 : decode cX3_foresee 70 = .ok (.invokevirtual 133, 3) := by decide +kernel
theorem dX3_foresee_73 : decode cX3_foresee 73 = .ok (.ireturn, 1) := by decide +kernel
theorem dX3_advise_0 : decode cX3_advise 0 = .ok (.aload_n 0, 1) := by decide +kernel
theorem dX3_advise_1 : decode cX3_advise 1 = .ok (.getfield 12, 3) := by decide +kernel
theorem dX3_advise_4 : decode cX3_advise 4 = .ok (.iload_n 1, 1) := by decide +kernel
theorem dX3_advise_5 : decode cX3_advise 5 = .ok (.invokevirtual 43, 3) := by decide +kernel
theorem dX3_advise_8 : decode cX3_advise 8 = .ok (.astore_n 3, 1) := by decide +kernel
theorem dX3_advise_9 : decode cX3_advise 9 = .ok (.aload_n 3, 1) := by decide +kernel
theorem dX3_advise_10 : decode cX3_advise 10 = .ok (.ifnonnull 13, 3) := by decide +kernel
theorem dX3_advise_13 : decode cX3_advise 13 = .ok (.new 47, 3) := by decide +kernel
theorem dX3_advise_16 : decode cX3_advise 16 = .ok (.dup, 1) := by decide +kernel
theorem dX3_advise_17 : decode cX3_advise 17 = .ok (.ldc 49, 2) := by decide +kernel
theorem dX3_advise_19 : decode cX3_advise 19 = .ok (.invokespecial 51, 3) := by decide +kernel
theorem dX3_advise_22 : decode cX3_advise 22 = .ok (.athrow, 1) := by decide +kernel
theorem dX3_advise_23 : decode cX3_advise 23 = .ok (.iload_n 2, 1) := by decide +kernel
theorem dX3_advise_24 : decode cX3_advise 24 = .ok (.iconst 1, 1) := by decide +kernel
theorem dX3_advise_25 : decode cX3_advise 25 = .ok (.bipush 20, 2) := by decide +kernel
theorem dX3_advise_27 : decode cX3_advise 27 = .ok (.invokestatic 19, 3) := by decide +kernel
theorem dX3_advise_30 : decode cX3_advise 30 = .ok (.ifCond .ne 13, 3) := by decide +kernel
theorem dX3_advise_33 : decode cX3_advise 33 = .ok (.new 23, 3) := by decide +kernel
theorem dX3_advise_36 : decode cX3_advise 36 = .ok (.dup, 1) := by decide +kernel
theorem dX3_advise_37 : decode cX3_advise 37 = .ok (.ldc 171, 2) := by decide +kernel
theorem dX3_advise_39 : decode cX3_advise 39 = .ok (.invokespecial 27, 3) := by decide +kernel
theorem dX3_advise_42 : decode cX3_advise 42 = .ok (.athrow, 1) := by decide +kernel
theorem dX3_advise_43 : decode cX3_advise 43 = .ok (.aload_n 3, 1) := by decide +kernel
theorem dX3_advise_44 : decode cX3_advise 44 = .ok (.invokevirtual 173, 3) := by decide +kernel
theorem dX3_advise_47 : decode cX3_advise 47 = .ok (.ifCond .ne 5, 3) := by decide +kernel
theorem dX3_advise_50 : decode cX3_advise 50 = .ok (.iconst 1, 1) := by decide +kernel
theorem dX3_advise_51 : decode cX3_advise 51 = .ok (.ireturn, 1) := by decide +kernel
theorem dX3_advise_52 : decode cX3_advise 52 = .ok (.iconst 1, 1) := by decide +kernel
theorem dX3_advise_53 : decode cX3_advise 53 = .ok (.istore 4, 2) := by decide +kernel
theorem dX3_advise_55 : decode cX3_advise 55 = .ok (.iconst (-1), 1) := by decide +kernel
theorem dX3_advise_56 : decode cX3_advise 56 = .ok (.istore 5, 2) := by decide +kernel
theorem dX3_advise_58 : decode cX3_advise 58 = .ok (.iconst 1, 1) := by decide +kernel
theorem dX3_advise_59 : decode cX3_advise 59 = .ok (.istore 6, 2) := by decide +kernel
theorem dX3_advise_61 : decode cX3_advise 61 = .ok (.iload 6, 2) := by decide +kernel
theorem dX3_advise_63 : decode cX3_advise 63 = .ok (.bipush 30, 2) := by decide +kernel
theorem dX3_advise_65 : decode cX3_advise 65 = .ok (.if_icmp .gt 34, 3) := by decide +kernel
theorem dX3_advise_68 : decode cX3_advise 68 = .ok (.aload_n 0, 1) := by decide +kernel
theorem dX3_advise_69 : decode cX3_advise 69 = .ok (.iload_n 1, 1) := by decide +kernel
theorem dX3_advise_70 : decode cX3_advise 70 = .ok (.iload 6, 2) := by decide +kernel
theorem dX3_advise_72 : decode cX3_advise 72 = .ok (.iload_n 2, 1) := by decide +kernel
theorem dX3_advise_73 : decode cX3_advise 73 = .ok (.invokevirtual 176, 3) := by decide +kernel
theorem dX3_advise_76 : decode cX3_advise 76 = .ok (.istore 7, 2) := by decide +kernel
theorem dX3_advise_78 : decode cX3_advise 78 = .ok (.iload 7, 2) := by decide +kernel
theorem dX3_advise_80 : decode cX3_advise 80 = .ok (.iload 5, 2) := by decide +kernel
theorem dX3_advise_82 : decode cX3_advise 82 = .ok (.if_icmp .le 11, 3) := by decide +kernel
theorem dX3_advise_85 : decode cX3_advise 85 = .ok (.iload 7, 2) := by decide +kernel
theorem dX3_advise_87 : decode cX3_advise 87 = .ok (.istore 5, 2) := by decide +kernel
theorem dX3_advise_89 : decode cX3_advise 89 = .ok (.iload 6, 2) := by decide +kernel
theorem dX3_advise_91 : decode cX3_advise 91 = .ok (.istore 4, 2) := by decide +kernel
theorem dX3_advise_93 : decode cX3_advise 93 = .ok (.iinc 6 1, 3) := by decide +kernel
theorem dX3_advise_96 : decode cX3_advise 96 = .ok (.goto (-35), 3) := by decide +kernel
theorem dX3_advise_99 : decode cX3_advise 99 = .ok (.iload 4, 2) := by decide +kernel
theorem dX3_advise_101 : decode cX3_advise 101 = .ok (.ireturn, 1) := by decide +kernel
theorem dX3_mean_0 : decode cX3_mean 0 = .ok (.aload_n 0, 1) := by decide +kernel
theorem dX3_mean_1 : decode cX3_mean 1 = .ok (.getfield 12, 3) := by decide +kernel
theorem dX3_mean_4 : decode cX3_mean 4 = .ok (.invokevirtual 179, 3) := by decide +kernel
theorem dX3_mean_7 : decode cX3_mean 7 = .ok (.istore_n 1, 1) := by decide +kernel
theorem dX3_mean_8 : decode cX3_mean 8 = .ok (.iload_n 1, 1) := by decide +kernel
theorem dX3_mean_9 : decode cX3_mean 9 = .ok (.ifCond .ne 7, 3) := by decide +kernel
theorem dX3_mean_12 : decode cX3_mean 12 = .ok (.dconst 0, 1) := by decide +kernel
theorem dX3_mean_13 : decode cX3_mean 13 = .ok (.goto 14, 3) := by decide +kernel
theorem dX3_mean_16 : decode cX3_mean 16 = .ok (.aload_n 0, 1) := by decide +kernel
theorem dX3_mean_17 : decode cX3_mean 17 = .ok (.getfield 12, 3) := by decide +kernel
theorem dX3_mean_20 : decode cX3_mean 20 = .ok (.invokevirtual 182, 3) := by decide +kernel
theorem dX3_mean_23 : decode cX3_mean 23 = .ok (.i2d, 1) := by decide +kernel
theorem dX3_mean_24 : decode cX3_mean 24 = .ok (.iload_n 1, 1) := by decide +kernel
theorem dX3_mean_25 : decode cX3_mean 25 = .ok (.i2d, 1) := by decide +kernel
theorem dX3_mean_26 : decode cX3_mean 26 = .ok (.ddiv, 1) := by decide +kernel
theorem dX3_mean_27 : decode cX3_mean 27 = .ok (.dreturn, 1) := by decide +kernel
theorem dX3_digest_0 : decode cX3_digest 0 = .ok (.ldc2_w 185, 3) := by decide +kernel
theorem dX3_digest_3 : decode cX3_digest 3 = .ok (.lstore_n 1, 1) := by decide +kernel
theorem dX3_digest_4 : decode cX3_digest 4 = .ok (.iconst 0, 1) := by decide +kernel
theorem dX3_digest_5 : decode cX3_digest 5 = .ok (.istore_n 3, 1) := by decide +kernel
theorem dX3_digest_6 : decode cX3_digest 6 = .ok (.iload_n 3, 1) := by decide +kernel
theorem dX3_digest_7 : decode cX3_digest 7 = .ok (.bipush 9, 2) := by decide +kernel
theorem dX3_digest_9 : decode cX3_digest 9 = .ok (.if_icmp .gt 25, 3) := by decide +kernel
theorem dX3_digest_12 : decode cX3_digest 12 = .ok (.lload_n 1, 1) := by decide +kernel
theorem dX3_digest_13 : decode cX3_digest 13 = .ok (.ldc2_w 187, 3) := by decide +kernel
theorem dX3_digest_16 : decode cX3_digest 16 = .ok (.lmul, 1) := by decide +kernel
theorem dX3_digest_17 : decode cX3_digest 17 = .ok (.aload_n 0, 1) := by decide +kernel
theorem dX3_digest_18 : decode cX3_digest 18 = .ok (.getfield 12, 3) := by decide +kernel
theorem dX3_digest_21 : decode cX3_digest 21 = .ok (.iload_n 3, 1) := by decide +kernel
theorem dX3_digest_22 : decode cX3_digest 22 = .ok (.invokevirtual 133, 3) := by decide +kernel
theorem dX3_digest_25 : decode cX3_digest 25 = .ok (.i2l, 1) := by decide +kernel
theorem dX3_digest_26 : decode cX3_digest 26 = .ok (.ladd, 1) := by decide +kernel
theorem dX3_digest_27 : decode cX3_digest 27 = .ok (.lstore_n 1, 1) := by decide +kernel
theorem dX3_digest_28 : decode cX3_digest 28 = .ok (.iinc 3 1, 3) := by decide +kernel
theorem dX3_digest_31 : decode cX3_digest 31 = .ok (.goto (-25), 3) := by decide +kernel
theorem dX3_digest_34 : decode cX3_digest 34 = .ok (.iconst 0, 1) := by decide +kernel
theorem dX3_digest_35 : decode cX3_digest 35 = .ok (.istore_n 3, 1) := by decide +kernel
theorem dX3_digest_36 : decode cX3_digest 36 = .ok (.iload_n 3, 1) := by decide +kernel
theorem dX3_digest_37 : decode cX3_digest 37 = .ok (.bipush 7, 2) := by decide +kernel
theorem dX3_digest_39 : decode cX3_digest 39 = .ok (.if_icmp .ge 25, 3) := by decide +kernel
theorem dX3_digest_42 : decode cX3_digest 42 = .ok (.lload_n 1, 1) := by decide +kernel
theorem dX3_digest_43 : decode cX3_digest 43 = .ok (.ldc2_w 187, 3) := by decide +kernel
theorem dX3_digest_46 : decode cX3_digest 46 = .ok (.lmul, 1) := by decide +kernel
theorem dX3_digest_47 : decode cX3_digest 47 = .ok (.aload_n 0, 1) := by decide +kernel
theorem dX3_digest_48 : decode cX3_digest 48 = .ok (.getfield 12, 3) := by decide +kernel
theorem dX3_digest_51 : decode cX3_digest 51 = .ok (.iload_n 3, 1) := by decide +kernel
theorem dX3_digest_52 : decode cX3_digest 52 = .ok (.invokevirtual 98, 3) := by decide +kernel
theorem dX3_digest_55 : decode cX3_digest 55 = .ok (.i2l, 1) := by decide +kernel
theorem dX3_digest_56 : decode cX3_digest 56 = .ok (.ladd, 1) := by decide +kernel
theorem dX3_digest_57 : decode cX3_digest 57 = .ok (.lstore_n 1, 1) := by decide +kernel
theorem dX3_digest_58 : decode cX3_digest 58 = .ok (.iinc 3 1, 3) := by decide +kernel
theorem dX3_digest_61 : decode cX3_digest 61 = .ok (.goto (-25), 3) := by decide +kernel
theorem dX3_digest_64 : decode cX3_digest 64 = .ok (.aload_n 0, 1) := by decide +kernel
theorem dX3_digest_65 : decode cX3_digest 65 = .ok (.aload_n 0, 1) := by decide +kernel
theorem dX3_digest_66 : decode cX3_digest 66 = .ok (.lload_n 1, 1) := by decide +kernel
