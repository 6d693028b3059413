theorem dL_weir_0 : decode cL_weir 0 = .ok (.aload 4, 2) := by decide +kernel
theorem dL_weir_2 : decode cL_weir 2 = .ok (.iconst 0, 1) := by decide +kernel
theorem dL_weir_3 : decode cL_weir 3 = .ok (.aload_n 0, 1) := by decide +kernel
theorem dL_weir_4 : decode cL_weir 4 = .ok (.iload_n 1, 1) := by decide +kernel
theorem dL_weir_5 : decode cL_weir 5 = .ok (.iload_n 2, 1) := by decide +kernel
theorem dL_weir_6 : decode cL_weir 6 = .ok (.iload_n 3, 1) := by decide +kernel
theorem dL_weir_7 : decode cL_weir 7 = .ok (.invokevirtual 7, 3) := by decide +kernel
theorem dL_weir_10 : decode cL_weir 10 = .ok (.i2l, 1) := by decide +kernel
theorem dL_weir_11 : decode cL_weir 11 = .ok (.lastore, 1) := by decide +kernel
theorem dL_weir_12 : decode cL_weir 12 = .ok (.goto 11, 3) := by decide +kernel
theorem dL_weir_15 : decode cL_weir 15 = .ok (.astore 5, 2) := by decide +kernel
theorem dL_weir_17 : decode cL_weir 17 = .ok (.iconst 1, 1) := by decide +kernel
theorem dL_weir_18 : decode cL_weir 18 = .ok (.ireturn, 1) := by decide +kernel
theorem dL_weir_19 : decode cL_weir 19 = .ok (.astore 5, 2) := by decide +kernel
theorem dL_weir_21 : decode cL_weir 21 = .ok (.iconst 2, 1) := by decide +kernel
theorem dL_weir_22 : decode cL_weir 22 = .ok (.ireturn, 1) := by decide +kernel
theorem dL_weir_23 : decode cL_weir 23 = .ok (.iconst 0, 1) := by decide +kernel
theorem dL_weir_24 : decode cL_weir 24 = .ok (.ireturn, 1) := by decide +kernel
theorem dL_gate_0 : decode cL_gate 0 = .ok (.aload_n 2, 1) := by decide +kernel
theorem dL_gate_1 : decode cL_gate 1 = .ok (.iconst 0, 1) := by decide +kernel
theorem dL_gate_2 : decode cL_gate 2 = .ok (.aload_n 0, 1) := by decide +kernel
theorem dL_gate_3 : decode cL_gate 3 = .ok (.iload_n 1, 1) := by decide +kernel
theorem dL_gate_4 : decode cL_gate 4 = .ok (.invokevirtual 17, 3) := by decide +kernel
theorem dL_gate_7 : decode cL_gate 7 = .ok (.ifCond .eq 7, 3) := by decide +kernel
theorem dL_gate_10 : decode cL_gate 10 = .ok (.lconst 1, 1) := by decide +kernel
theorem dL_gate_11 : decode cL_gate 11 = .ok (.goto 4, 3) := by decide +kernel
theorem dL_gate_14 : decode cL_gate 14 = .ok (.lconst 0, 1) := by decide +kernel
theorem dL_gate_15 : decode cL_gate 15 = .ok (.lastore, 1) := by decide +kernel
theorem dL_gate_16 : decode cL_gate 16 = .ok (.goto 9, 3) := by decide +kernel
theorem dL_gate_19 : decode cL_gate 19 = .ok (.astore_n 3, 1) := by decide +kernel
theorem dL_gate_20 : decode cL_gate 20 = .ok (.iconst 1, 1) := by decide +kernel
theorem dL_gate_21 : decode cL_gate 21 = .ok (.ireturn, 1) := by decide +kernel
theorem dL_gate_22 : decode cL_gate 22 = .ok (.astore_n 3, 1) := by decide +kernel
theorem dL_gate_23 : decode cL_gate 23 = .ok (.iconst 2, 1) := by decide +kernel
theorem dL_gate_24 : decode cL_gate 24 = .ok (.ireturn, 1) := by decide +kernel
theorem dL_gate_25 : decode cL_gate 25 = .ok (.iconst 0, 1) := by decide +kernel
theorem dL_gate_26 : decode cL_gate 26 = .ok (.ireturn, 1) := by decide +kernel
theorem dL_mend_0 : decode cL_mend 0 = .ok (.aload_n 3, 1) := by decide +kernel
theorem dL_mend_1 : decode cL_mend 1 = .ok (.iconst 0, 1) := by decide +kernel
theorem dL_mend_2 : decode cL_mend 2 = .ok (.aload_n 0, 1) := by decide +kernel
theorem dL_mend_3 : decode cL_mend 3 = .ok (.iload_n 1, 1) := by decide +kernel
theorem dL_mend_4 : decode cL_mend 4 = .ok (.iload_n 2, 1) := by decide +kernel
theorem dL_mend_5 : decode cL_mend 5 = .ok (.invokevirtual 23, 3) := by decide +kernel
theorem dL_mend_8 : decode cL_mend 8 = .ok (.i2l, 1) := by decide +kernel
theorem dL_mend_9 : decode cL_mend 9 = .ok (.lastore, 1) := by decide +kernel
theorem dL_mend_10 : decode cL_mend 10 = .ok (.goto 15, 3) := by decide +kernel
theorem dL_mend_13 : decode cL_mend 13 = .ok (.astore 4, 2) := by decide +kernel
theorem dL_mend_15 : decode cL_mend 15 = .ok (.iconst 1, 1) := by decide +kernel
theorem dL_mend_16 : decode cL_mend 16 = .ok (.ireturn, 1) := by decide +kernel
theorem dL_mend_17 : decode cL_mend 17 = .ok (.astore 4, 2) := by decide +kernel
theorem dL_mend_19 : decode cL_mend 19 = .ok (.iconst 2, 1) := by decide +kernel
theorem dL_mend_20 : decode cL_mend 20 = .ok (.ireturn, 1) := by decide +kernel
theorem dL_mend_21 : decode cL_mend 21 = .ok (.astore 4, 2) := by decide +kernel
theorem dL_mend_23 : decode cL_mend 23 = .ok (.iconst 3, 1) := by decide +kernel
theorem dL_mend_24 : decode cL_mend 24 = .ok (.ireturn, 1) := by decide +kernel
theorem dL_mend_25 : decode cL_mend 25 = .ok (.iconst 0, 1) := by decide +kernel
theorem dL_mend_26 : decode cL_mend 26 = .ok (.ireturn, 1) := by decide +kernel
theorem dL_drive_0 : decode cL_drive 0 = .ok (.aload_n 3, 1) := by decide +kernel
theorem dL_drive_1 : decode cL_drive 1 = .ok (.iconst 0, 1) := by decide +kernel
theorem dL_drive_2 : decode cL_drive 2 = .ok (.aload_n 0, 1) := by decide +kernel
theorem dL_drive_3 : decode cL_drive 3 = .ok (.iload_n 1, 1) := by decide +kernel
theorem dL_drive_4 : decode cL_drive 4 = .ok (.iload_n 2, 1) := by decide +kernel
theorem dL_drive_5 : decode cL_drive 5 = .ok (.invokevirtual 27, 3) := by decide +kernel
theorem dL_drive_8 : decode cL_drive 8 = .ok (.i2l, 1) := by decide +kernel
theorem dL_drive_9 : decode cL_drive 9 = .ok (.lastore, 1) := by decide +kernel
theorem dL_drive_10 : decode cL_drive 10 = .ok (.goto 15, 3) := by decide +kernel
theorem dL_drive_13 : decode cL_drive 13 = .ok (.astore 4, 2) := by decide +kernel
theorem dL_drive_15 : decode cL_drive 15 = .ok (.iconst 1, 1) := by decide +kernel
theorem dL_drive_16 : decode cL_drive 16 = .ok (.ireturn, 1) := by decide +kernel
theorem dL_drive_17 : decode cL_drive 17 = .ok (.astore 4, 2) := by decide +kernel
theorem dL_drive_19 : decode cL_drive 19 = .ok (.iconst 2, 1) := by decide +kernel
theorem dL_drive_20 : decode cL_drive 20 = .ok (.ireturn, 1) := by decide +kernel
theorem dL_drive_21 : decode cL_drive 21 = .ok (.astore 4, 2) := by decide +kernel
theorem dL_drive_23 : decode cL_drive 23 = .ok (.iconst 3, 1) := by decide +kernel
theorem dL_drive_24 : decode cL_drive 24 = .ok (.ireturn, 1) := by decide +kernel
theorem dL_drive_25 : decode cL_drive 25 = .ok (.iconst 0, 1) := by decide +kernel
theorem dL_drive_26 : decode cL_drive 26 = .ok (.ireturn, 1) := by decide +kernel
theorem dL_sell_0 : decode cL_sell 0 = .ok (.aload_n 2, 1) := by decide +kernel
theorem dL_sell_1 : decode cL_sell 1 = .ok (.iconst 0, 1) := by decide +kernel
theorem dL_sell_2 : decode cL_sell 2 = .ok (.aload_n 0, 1) := by decide +kernel
theorem dL_sell_3 : decode cL_sell 3 = .ok (.iload_n 1, 1) := by decide +kernel
theorem dL_sell_4 : decode cL_sell 4 = .ok (.invokevirtual 30, 3) := by decide +kernel
theorem dL_sell_7 : decode cL_sell 7 = .ok (.i2l, 1) := by decide +kernel
theorem dL_sell_8 : decode cL_sell 8 = .ok (.lastore, 1) := by decide +kernel
theorem dL_sell_9 : decode cL_sell 9 = .ok (.goto 9, 3) := by decide +kernel
theorem dL_sell_12 : decode cL_sell 12 = .ok (.astore_n 3, 1) := by decide +kernel
theorem dL_sell_13 : decode cL_sell 13 = .ok (.iconst 1, 1) := by decide +kernel
theorem dL_sell_14 : decode cL_sell 14 = .ok (.ireturn, 1) := by decide +kernel
theorem dL_sell_15 : decode cL_sell 15 = .ok (.astore_n 3, 1) := by decide +kernel
theorem dL_sell_16 : decode cL_sell 16 = .ok (.iconst 2, 1) := by decide +kernel
theorem dL_sell_17 : decode cL_sell 17 = .ok (.ireturn, 1) := by decide +kernel
theorem dL_sell_18 : decode cL_sell 18 = .ok (.iconst 0, 1) := by decide +kernel
theorem dL_sell_19 : decode cL_sell 19 = .ok (.ireturn, 1) := by decide +kernel
theorem dL_setRun_0 : decode cL_setRun 0 = .ok (.aload_n 3, 1) := by decide +kernel
theorem dL_setRun_1 : decode cL_setRun 1 = .ok (.iconst 0, 1) := by decide +kernel
theorem dL_setRun_2 : decode cL_setRun 2 = .ok (.aload_n 0, 1) := by decide +kernel
theorem dL_setRun_3 : decode cL_setRun 3 = .ok (.iload_n 1, 1) := by decide +kernel
theorem dL_setRun_4 : decode cL_setRun 4 = .ok (.iload_n 2, 1) := by decide +kernel
theorem dL_setRun_5 : decode cL_setRun 5 = .ok (.invokevirtual 34, 3) := by decide +kernel
theorem dL_setRun_8 : decode cL_setRun 8 = .ok (.i2l, 1) := by decide +kernel
theorem dL_setRun_9 : decode cL_setRun 9 = .ok (.lastore, 1) := by decide +kernel
theorem dL_setRun_10 : decode cL_setRun 10 = .ok (.goto 11, 3) := by decide +kernel
theorem dL_setRun_13 : decode cL_setRun 13 = .ok (.astore 4, 2) := by decide +kernel
theorem dL_setRun_15 : decode cL_setRun 15 = .ok (.iconst 1, 1) := by decide +kernel
theorem dL_setRun_16 : decode cL_setRun 16 = .ok (.ireturn, 1) := by decide +kernel
theorem dL_setRun_17 : decode cL_setRun 17 = .ok (.astore 4, 2) := by decide +kernel
theorem dL_setRun_19 : decode cL_setRun 19 = .ok (.iconst 2, 1) := by decide +kernel
theorem dL_setRun_20 : decode cL_setRun 20 = .ok (.ireturn, 1) := by decide +kernel
theorem dL_setRun_21 : decode cL_setRun 21 = .ok (.iconst 0, 1) := by decide +kernel
theorem dL_setRun_22 : decode cL_setRun 22 = .ok (.ireturn, 1) := by decide +kernel
theorem dL_barge_0 : decode cL_barge 0 = .ok (.aload_n 2, 1) := by decide +kernel
theorem dL_barge_1 : decode cL_barge 1 = .ok (.iconst 0, 1) := by decide +kernel
theorem dL_barge_2 : decode cL_barge 2 = .ok (.aload_n 0, 1) := by decide +kernel
theorem dL_barge_3 : decode cL_barge 3 = .ok (.iload_n 1, 1) := by decide +kernel
theorem dL_barge_4 : decode cL_barge 4 = .ok (.invokevirtual 37, 3) := by decide +kernel
theorem dL_barge_7 : decode cL_barge 7 = .ok (.i2l, 1) := by decide +kernel
theorem dL_barge_8 : decode cL_barge 8 = .ok (.lastore, 1) := by decide +kernel
theorem dL_barge_9 : decode cL_barge 9 = .ok (.goto 9, 3) := by decide +kernel
theorem dL_barge_12 : decode cL_barge 12 = .ok (.astore_n 3, 1) := by decide +kernel
theorem dL_barge_13 : decode cL_barge 13 = .ok (.iconst 1, 1) := by decide +kernel
theorem dL_barge_14 : decode cL_barge 14 = .ok (.ireturn, 1) := by decide +kernel
theorem dL_barge_15 : decode cL_barge 15 = .ok (.astore_n 3, 1) := by decide +kernel
theorem dL_barge_16 : decode cL_barge 16 = .ok (.iconst 2, 1) := by decide +kernel
theorem dL_barge_17 : decode cL_barge 17 = .ok (.ireturn, 1) := by decide +kernel
theorem dL_barge_18 : decode cL_barge 18 = .ok (.iconst 0, 1) := by decide +kernel
theorem dL_barge_19 : decode cL_barge 19 = .ok (.ireturn, 1) := by decide +kernel
theorem dL_about_0 : decode cL_about 0 = .ok (.aload_n 3, 1) := by decide +kernel
theorem dL_about_1 : decode cL_about 1 = .ok (.iconst 0, 1) := by decide +kernel
theorem dL_about_2 : decode cL_about 2 = .ok (.aload_n 0, 1) := by decide +kernel
theorem dL_about_3 : decode cL_about 3 = .ok (.iload_n 1, 1) := by decide +kernel
theorem dL_about_4 : decode cL_about 4 = .ok (.iload_n 2, 1) := by decide +kernel
theorem dL_about_5 : decode cL_about 5 = .ok (.invokevirtual 40, 3) := by decide +kernel
theorem dL_about_8 : decode cL_about 8 = .ok (.i2l, 1) := by decide +kernel
theorem dL_about_9 : decode cL_about 9 = .ok (.lastore, 1) := by decide +kernel
theorem dL_about_10 : decode cL_about 10 = .ok (.goto 7, 3) := by decide +kernel
theorem dL_about_13 : decode cL_about 13 = .ok (.astore 4, 2) := by decide +kernel
theorem dL_about_15 : decode cL_about 15 = .ok (.iconst 1, 1) := by decide +kernel
theorem dL_about_16 : decode cL_about 16 = .ok (.ireturn, 1) := by decide +kernel
theorem dL_about_17 : decode cL_about 17 = .ok (.iconst 0, 1) := by decide +kernel
theorem dL_about_18 : decode cL_about 18 = .ok (.ireturn, 1) := by decide +kernel
theorem dL_told_0 : decode cL_told 0 = .ok (.aload_n 3, 1) := by decide +kernel
theorem dL_told_1 : decode cL_told 1 = .ok (.iconst 0, 1) := by decide +kernel
theorem dL_told_2 : decode cL_told 2 = .ok (.aload_n 0, 1) := by decide +kernel
theorem dL_told_3 : decode cL_told 3 = .ok (.iload_n 1, 1) := by decide +kernel
theorem dL_told_4 : decode cL_told 4 = .ok (.iload_n 2, 1) := by decide +kernel
theorem dL_told_5 : decode cL_told 5 = .ok (.invokevirtual 43, 3) := by decide +kernel
theorem dL_told_8 : decode cL_told 8 = .ok (.i2l, 1) := by decide +kernel
theorem dL_told_9 : decode cL_told 9 = .ok (.lastore, 1) := by decide +kernel
theorem dL_told_10 : decode cL_told 10 = .ok (.goto 7, 3) := by decide +kernel
theorem dL_told_13 : decode cL_told 13 = .ok (.astore 4, 2) := by decide +kernel
theorem dL_told_15 : decode cL_told 15 = .ok (.iconst 1, 1) := by decide +kernel
theorem dL_told_16 : decode cL_told 16 = .ok (.ireturn, 1) := by decide +kernel
theorem dL_told_17 : decode cL_told 17 = .ok (.iconst 0, 1) := by decide +kernel
theorem dL_told_18 : decode cL_told 18 = .ok (.ireturn, 1) := by decide +kernel
theorem dL_count_0 : decode cL_count 0 = .ok (.aload_n 2, 1) := by decide +kernel
theorem dL_count_1 : decode cL_count 1 = .ok (.iconst 0, 1) := by decide +kernel
theorem dL_count_2 : decode cL_count 2 = .ok (.aload_n 0, 1) := by decide +kernel
theorem dL_count_3 : decode cL_count 3 = .ok (.iload_n 1, 1) := by decide +kernel
theorem dL_count_4 : decode cL_count 4 = .ok (.invokevirtual 46, 3) := by decide +kernel
theorem dL_count_7 : decode cL_count 7 = .ok (.i2l, 1) := by decide +kernel
theorem dL_count_8 : decode cL_count 8 = .ok (.lastore, 1) := by decide +kernel
theorem dL_count_9 : decode cL_count 9 = .ok (.goto 6, 3) := by decide +kernel
theorem dL_count_12 : decode cL_count 12 = .ok (.astore_n 3, 1) := by decide +kernel
theorem dL_count_13 : decode cL_count 13 = .ok (.iconst 1, 1) := by decide +kernel
theorem dL_count_14 : decode cL_count 14 = .ok (.ireturn, 1) := by decide +kernel
theorem dL_count_15 : decode cL_count 15 = .ok (.iconst 0, 1) := by decide +kernel
theorem dL_count_16 : decode cL_count 16 = .ok (.ireturn, 1) := by decide +kernel
theorem dL_hinders_0 : decode cL_hinders 0 = .ok (.aload_n 2, 1) := by decide +kernel
theorem dL_hinders_1 : decode cL_hinders 1 = .ok (.iconst 0, 1) := by decide +kernel
theorem dL_hinders_2 : decode cL_hinders 2 = .ok (.aload_n 0, 1) := by decide +kernel
theorem dL_hinders_3 : decode cL_hinders 3 = .ok (.iload_n 1, 1) := by decide +kernel
theorem dL_hinders_4 : decode cL_hinders 4 = .ok (.invokevirtual 49, 3) := by decide +kernel
theorem dL_hinders_7 : decode cL_hinders 7 = .ok (.i2l, 1) := by decide +kernel
theorem dL_hinders_8 : decode cL_hinders 8 = .ok (.lastore, 1) := by decide +kernel
theorem dL_hinders_9 : decode cL_hinders 9 = .ok (.goto 6, 3) := by decide +kernel
theorem dL_hinders_12 : decode cL_hinders 12 = .ok (.astore_n 3, 1) := by decide +kernel
theorem dL_hinders_13 : decode cL_hinders 13 = .ok (.iconst 1, 1) := by decide +kernel
theorem dL_hinders_14 : decode cL_hinders 14 = .ok (.ireturn, 1) := by decide +kernel
theorem dL_hinders_15 : decode cL_hinders 15 = .ok (.iconst 0, 1) := by decide +kernel
theorem dL_hinders_16 : decode cL_hinders 16 = .ok (.ireturn, 1) := by decide +kernel
theorem dL_pass_0 : decode cL_pass 0 = .ok (.aload_n 2, 1) := by decide +kernel
theorem dL_pass_1 : decode cL_pass 1 = .ok (.iconst 0, 1) := by decide +kernel
theorem dL_pass_2 : decode cL_pass 2 = .ok (.aload_n 0, 1) := by decide +kernel
theorem dL_pass_3 : decode cL_pass 3 = .ok (.iload_n 1, 1) := by decide +kernel
theorem dL_pass_4 : decode cL_pass 4 = .ok (.invokevirtual 52, 3) := by decide +kernel
theorem dL_pass_7 : decode cL_pass 7 = .ok (.i2l, 1) := by decide +kernel
theorem dL_pass_8 : decode cL_pass 8 = .ok (.lastore, 1) := by decide +kernel
theorem dL_pass_9 : decode cL_pass 9 = .ok (.goto 6, 3) := by decide +kernel
theorem dL_pass_12 : decode cL_pass 12 = .ok (.astore_n 3, 1) := by decide +kernel
theorem dL_pass_13 : decode cL_pass 13 = .ok (.iconst 1, 1) := by decide +kernel
theorem dL_pass_14 : decode cL_pass 14 = .ok (.ireturn, 1) := by decide +kernel
theorem dL_pass_15 : decode cL_pass 15 = .ok (.iconst 0, 1) := by decide +kernel
theorem dL_pass_16 : decode cL_pass 16 = .ok (.ireturn, 1) := by decide +kernel
theorem dL_catches_0 : decode cL_catches 0 = .ok (.aload_n 2, 1) := by decide +kernel
theorem dL_catches_1 : decode cL_catches 1 = .ok (.iconst 0, 1) := by decide +kernel
theorem dL_catches_2 : decode cL_catches 2 = .ok (.aload_n 0, 1) := by decide +kernel
theorem dL_catches_3 : decode cL_catches 3 = .ok (.iload_n 1, 1) := by decide +kernel
theorem dL_catches_4 : decode cL_catches 4 = .ok (.invokevirtual 55, 3) := by decide +kernel
theorem dL_catches_7 : decode cL_catches 7 = .ok (.i2l, 1) := by decide +kernel
theorem dL_catches_8 : decode cL_catches 8 = .ok (.lastore, 1) := by decide +kernel
theorem dL_catches_9 : decode cL_catches 9 = .ok (.goto 6, 3) := by decide +kernel
theorem dL_catches_12 : decode cL_catches 12 = .ok (.astore_n 3, 1) := by decide +kernel
theorem dL_catches_13 : decode cL_catches 13 = .ok (.iconst 1, 1) := by decide +kernel
theorem dL_catches_14 : decode cL_catches 14 = .ok (.ireturn, 1) := by decide +kernel
theorem dL_catches_15 : decode cL_catches 15 = .ok (.iconst 0, 1) := by decide +kernel
theorem dL_catches_16 : decode cL_catches 16 = .ok (.ireturn, 1) := by decide +kernel
theorem dL_arrives_0 : decode cL_arrives 0 = .ok (.aload_n 2, 1) := by decide +kernel
theorem dL_arrives_1 : decode cL_arrives 1 = .ok (.iconst 0, 1) := by decide +kernel
theorem dL_arrives_2 : decode cL_arrives 2 = .ok (.aload_n 0, 1) := by decide +kernel
theorem dL_arrives_3 : decode cL_arrives 3 = .ok (.iload_n 1, 1) := by decide +kernel
theorem dL_arrives_4 : decode cL_arrives 4 = .ok (.invokevirtual 58, 3) := by decide +kernel
theorem dL_arrives_7 : decode cL_arrives 7 = .ok (.i2l, 1) := by decide +kernel
theorem dL_arrives_8 : decode cL_arrives 8 = .ok (.lastore, 1) := by decide +kernel
theorem dL_arrives_9 : decode cL_arrives 9 = .ok (.goto 6, 3) := by decide +kernel
theorem dL_arrives_12 : decode cL_arrives 12 = .ok (.astore_n 3, 1) := by decide +kernel
theorem dL_arrives_13 : decode cL_arrives 13 = .ok (.iconst 1, 1) := by decide +kernel
theorem dL_arrives_14 : decode cL_arrives 14 = .ok (.ireturn, 1) := by decide +kernel
theorem dL_arrives_15 : decode cL_arrives 15 = .ok (.iconst 0, 1) := by decide +kernel
theorem dL_arrives_16 : decode cL_arrives 16 = .ok (.ireturn, 1) := by decide +kernel
theorem dL_lasts_0 : decode cL_lasts 0 = .ok (.aload_n 2, 1) := by decide +kernel
theorem dL_lasts_1 : decode cL_lasts 1 = .ok (.iconst 0, 1) := by decide +kernel
theorem dL_lasts_2 : decode cL_lasts 2 = .ok (.aload_n 0, 1) := by decide +kernel
theorem dL_lasts_3 : decode cL_lasts 3 = .ok (.iload_n 1, 1) := by decide +kernel
theorem dL_lasts_4 : decode cL_lasts 4 = .ok (.invokevirtual 61, 3) := by decide +kernel
theorem dL_lasts_7 : decode cL_lasts 7 = .ok (.i2l, 1) := by decide +kernel
theorem dL_lasts_8 : decode cL_lasts 8 = .ok (.lastore, 1) := by decide +kernel
theorem dL_lasts_9 : decode cL_lasts 9 = .ok (.goto 6, 3) := by decide +kernel
theorem dL_lasts_12 : decode cL_lasts 12 = .ok (.astore_n 3, 1) := by decide +kernel
theorem dL_lasts_13 : decode cL_lasts 13 = .ok (.iconst 1, 1) := by decide +kernel
theorem dL_lasts_14 : decode cL_lasts 14 = .ok (.ireturn, 1) := by decide +kernel
theorem dL_lasts_15 : decode cL_lasts 15 = .ok (.iconst 0, 1) := by decide +kernel
theorem dL_lasts_16 : decode cL_lasts 16 = .ok (.ireturn, 1) := by decide +kernel
theorem dL_foresee_0 : decode cL_foresee 0 = .ok (.aload_n 3, 1) := by decide +kernel
theorem dL_foresee_1 : decode cL_foresee 1 = .ok (.iconst 0, 1) := by decide +kernel
theorem dL_foresee_2 : decode cL_foresee 2 = .ok (.aload_n 0, 1) := by decide +kernel
theorem dL_foresee_3 : decode cL_foresee 3 = .ok (.iload_n 1, 1) := by decide +kernel
theorem dL_foresee_4 : decode cL_foresee 4 = .ok (.iload_n 2, 1) := by decide +kernel
theorem dL_foresee_5 : decode cL_foresee 5 = .ok (.invokevirtual 64, 3) := by decide +kernel
theorem dL_foresee_8 : decode cL_foresee 8 = .ok (.i2l, 1) := by decide +kernel
theorem dL_foresee_9 : decode cL_foresee 9 = .ok (.lastore, 1) := by decide +kernel
theorem dL_foresee_10 : decode cL_foresee 10 = .ok (.goto 11, 3) := by decide +kernel
theorem dL_foresee_13 : decode cL_foresee 13 = .ok (.astore 4, 2) := by decide +kernel
theorem dL_foresee_15 : decode cL_foresee 15 = .ok (.iconst 1, 1) := by decide +kernel
theorem dL_foresee_16 : decode cL_foresee 16 = .ok (.ireturn, 1) := by decide +kernel
theorem dL_foresee_17 : decode cL_foresee 17 = .ok (.astore 4, 2) := by decide +kernel
theorem dL_foresee_19 : decode cL_foresee 19 = .ok (.iconst 2, 1) := by decide +kernel
theorem dL_foresee_20 : decode cL_foresee 20 = .ok (.ireturn, 1) := by decide +kernel
theorem dL_foresee_21 : decode cL_foresee 21 = .ok (.iconst 0, 1) := by decide +kernel
theorem dL_foresee_22 : decode cL_foresee 22 = .ok (.ireturn, 1) := by decide +kernel
theorem dL_advise_0 : decode cL_advise 0 = .ok (.aload_n 3, 1) := by decide +kernel
theorem dL_advise_1 : decode cL_advise 1 = .ok (.iconst 0, 1) := by decide +kernel
theorem dL_advise_2 : decode cL_advise 2 = .ok (.aload_n 0, 1) := by decide +kernel
theorem dL_advise_3 : decode cL_advise 3 = .ok (.iload_n 1, 1) := by decide +kernel
theorem dL_advise_4 : decode cL_advise 4 = .ok (.iload_n 2, 1) := by decide +kernel
theorem dL_advise_5 : decode cL_advise 5 = .ok (.invokevirtual 67, 3) := by decide +kernel
theorem dL_advise_8 : decode cL_advise 8 = .ok (.i2l, 1) := by decide +kernel
theorem dL_advise_9 : decode cL_advise 9 = .ok (.lastore, 1) := by decide +kernel
theorem dL_advise_10 : decode cL_advise 10 = .ok (.goto 11, 3) := by decide +kernel
theorem dL_advise_13 : decode cL_advise 13 = .ok (.astore 4, 2) := by decide +kernel
theorem dL_advise_15 : decode cL_advise 15 = .ok (.iconst 1, 1) := by decide +kernel
theorem dL_advise_16 : decode cL_advise 16 = .ok (.ireturn, 1) := by decide +kernel
theorem dL_advise_17 : decode cL_advise 17 = .ok (.astore 4, 2) := by decide +kernel
theorem dL_advise_19 : decode cL_advise 19 = .ok (.iconst 2, 1) := by decide +kernel
theorem dL_advise_20 : decode cL_advise 20 = .ok (.ireturn, 1) := by decide +kernel
theorem dL_advise_21 : decode cL_advise 21 = .ok (.iconst 0, 1) := by decide +kernel
theorem dL_advise_22 : decode cL_advise 22 = .ok (.ireturn, 1) := by decide +kernel
