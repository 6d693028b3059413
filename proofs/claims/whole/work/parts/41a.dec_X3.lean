theorem dX3_init_0 : decode cX3_init 0 = .ok (.aload_n 0, 1) := by decide +kernel
theorem dX3_init_1 : decode cX3_init 1 = .ok (.invokespecial 3, 3) := by decide +kernel
theorem dX3_init_4 : decode cX3_init 4 = .ok (.aload_n 0, 1) := by decide +kernel
theorem dX3_init_5 : decode cX3_init 5 = .ok (.new 9, 3) := by decide +kernel
theorem dX3_init_8 : decode cX3_init 8 = .ok (.dup, 1) := by decide +kernel
theorem dX3_init_9 : decode cX3_init 9 = .ok (.invokespecial 11, 3) := by decide +kernel
theorem dX3_init_12 : decode cX3_init 12 = .ok (.putfield 12, 3) := by decide +kernel
theorem dX3_init_15 : decode cX3_init 15 = .ok (.aload_n 0, 1) := by decide +kernel
theorem dX3_init_16 : decode cX3_init 16 = .ok (.new 9, 3) := by decide +kernel
theorem dX3_init_19 : decode cX3_init 19 = .ok (.dup, 1) := by decide +kernel
theorem dX3_init_20 : decode cX3_init 20 = .ok (.invokespecial 11, 3) := by decide +kernel
theorem dX3_init_23 : decode cX3_init 23 = .ok (.putfield 16, 3) := by decide +kernel
theorem dX3_init_26 : decode cX3_init 26 = .ok (.return_, 1) := by decide +kernel
theorem dX3_weir_0 : decode cX3_weir 0 = .ok (.iload_n 1, 1) := by decide +kernel
theorem dX3_weir_1 : decode cX3_weir 1 = .ok (.iconst 0, 1) := by decide +kernel
theorem dX3_weir_2 : decode cX3_weir 2 = .ok (.bipush 39, 2) := by decide +kernel
theorem dX3_weir_4 : decode cX3_weir 4 = .ok (.invokestatic 19, 3) := by decide +kernel
theorem dX3_weir_7 : decode cX3_weir 7 = .ok (.ifCond .eq 23, 3) := by decide +kernel
theorem dX3_weir_10 : decode cX3_weir 10 = .ok (.iload_n 2, 1) := by decide +kernel
theorem dX3_weir_11 : decode cX3_weir 11 = .ok (.iconst 1, 1) := by decide +kernel
theorem dX3_weir_12 : decode cX3_weir 12 = .ok (.bipush 30, 2) := by decide +kernel
theorem dX3_weir_14 : decode cX3_weir 14 = .ok (.invokestatic 19, 3) := by decide +kernel
theorem dX3_weir_17 : decode cX3_weir 17 = .ok (.ifCond .eq 13, 3) := by decide +kernel
theorem dX3_weir_20 : decode cX3_weir 20 = .ok (.iload_n 3, 1) := by decide +kernel
theorem dX3_weir_21 : decode cX3_weir 21 = .ok (.iconst 0, 1) := by decide +kernel
theorem dX3_weir_22 : decode cX3_weir 22 = .ok (.bipush 50, 2) := by decide +kernel
theorem dX3_weir_24 : decode cX3_weir 24 = .ok (.invokestatic 19, 3) := by decide +kernel
theorem dX3_weir_27 : decode cX3_weir 27 = .ok (.ifCond .ne 13, 3) := by decide +kernel
theorem dX3_weir_30 : decode cX3_weir 30 = .ok (.new 23, 3) := by decide +kernel
theorem dX3_weir_33 : decode cX3_weir 33 = .ok (.dup, 1) := by decide +kernel
theorem dX3_weir_34 : decode cX3_weir 34 = .ok (.ldc 25, 2) := by decide +kernel
theorem dX3_weir_36 : decode cX3_weir 36 = .ok (.invokespecial 27, 3) := by decide +kernel
theorem dX3_weir_39 : decode cX3_weir 39 = .ok (.athrow, 1) := by decide +kernel
theorem dX3_weir_40 : decode cX3_weir 40 = .ok (.aload_n 0, 1) := by decide +kernel
theorem dX3_weir_41 : decode cX3_weir 41 = .ok (.getfield 12, 3) := by decide +kernel
theorem dX3_weir_44 : decode cX3_weir 44 = .ok (.getfield 30, 3) := by decide +kernel
theorem dX3_weir_47 : decode cX3_weir 47 = .ok (.bipush 6, 2) := by decide +kernel
theorem dX3_weir_49 : decode cX3_weir 49 = .ok (.if_icmp .lt 13, 3) := by decide +kernel
theorem dX3_weir_52 : decode cX3_weir 52 = .ok (.new 34, 3) := by decide +kernel
theorem dX3_weir_55 : decode cX3_weir 55 = .ok (.dup, 1) := by decide +kernel
theorem dX3_weir_56 : decode cX3_weir 56 = .ok (.ldc 36, 2) := by decide +kernel
theorem dX3_weir_58 : decode cX3_weir 58 = .ok (.invokespecial 38, 3) := by decide +kernel
theorem dX3_weir_61 : decode cX3_weir 61 = .ok (.athrow, 1) := by decide +kernel
theorem dX3_weir_62 : decode cX3_weir 62 = .ok (.aload_n 0, 1) := by decide +kernel
theorem dX3_weir_63 : decode cX3_weir 63 = .ok (.getfield 12, 3) := by decide +kernel
theorem dX3_weir_66 : decode cX3_weir 66 = .ok (.iload_n 1, 1) := by decide +kernel
theorem dX3_weir_67 : decode cX3_weir 67 = .ok (.iload_n 2, 1) := by decide +kernel
theorem dX3_weir_68 : decode cX3_weir 68 = .ok (.iload_n 3, 1) := by decide +kernel
theorem dX3_weir_69 : decode cX3_weir 69 = .ok (.invokevirtual 39, 3) := by decide +kernel
theorem dX3_weir_72 : decode cX3_weir 72 = .ok (.ireturn, 1) := by decide +kernel
theorem dX3_gate_0 : decode cX3_gate 0 = .ok (.aload_n 0, 1) := by decide +kernel
theorem dX3_gate_1 : decode cX3_gate 1 = .ok (.getfield 12, 3) := by decide +kernel
theorem dX3_gate_4 : decode cX3_gate 4 = .ok (.iload_n 1, 1) := by decide +kernel
theorem dX3_gate_5 : decode cX3_gate 5 = .ok (.invokevirtual 43, 3) := by decide +kernel
theorem dX3_gate_8 : decode cX3_gate 8 = .ok (.astore_n 2, 1) := by decide +kernel
theorem dX3_gate_9 : decode cX3_gate 9 = .ok (.aload_n 2, 1) := by decide +kernel
theorem dX3_gate_10 : decode cX3_gate 10 = .ok (.ifnonnull 13, 3) := by decide +kernel
theorem dX3_gate_13 : decode cX3_gate 13 = .ok (.new 47, 3) := by decide +kernel
theorem dX3_gate_16 : decode cX3_gate 16 = .ok (.dup, 1) := by decide +kernel
theorem dX3_gate_17 : decode cX3_gate 17 = .ok (.ldc 49, 2) := by decide +kernel
theorem dX3_gate_19 : decode cX3_gate 19 = .ok (.invokespecial 51, 3) := by decide +kernel
theorem dX3_gate_22 : decode cX3_gate 22 = .ok (.athrow, 1) := by decide +kernel
theorem dX3_gate_23 : decode cX3_gate 23 = .ok (.aload_n 2, 1) := by decide +kernel
theorem dX3_gate_24 : decode cX3_gate 24 = .ok (.invokevirtual 52, 3) := by decide +kernel
theorem dX3_gate_27 : decode cX3_gate 27 = .ok (.ifCond .ne 13, 3) := by decide +kernel
theorem dX3_gate_30 : decode cX3_gate 30 = .ok (.new 34, 3) := by decide +kernel
theorem dX3_gate_33 : decode cX3_gate 33 = .ok (.dup, 1) := by decide +kernel
theorem dX3_gate_34 : decode cX3_gate 34 = .ok (.ldc 58, 2) := by decide +kernel
theorem dX3_gate_36 : decode cX3_gate 36 = .ok (.invokespecial 38, 3) := by decide +kernel
theorem dX3_gate_39 : decode cX3_gate 39 = .ok (.athrow, 1) := by decide +kernel
theorem dX3_gate_40 : decode cX3_gate 40 = .ok (.aload_n 2, 1) := by decide +kernel
theorem dX3_gate_41 : decode cX3_gate 41 = .ok (.aload_n 2, 1) := by decide +kernel
theorem dX3_gate_42 : decode cX3_gate 42 = .ok (.getfield 60, 3) := by decide +kernel
theorem dX3_gate_45 : decode cX3_gate 45 = .ok (.ifCond .ne 7, 3) := by decide +kernel
theorem dX3_gate_48 : decode cX3_gate 48 = .ok (.iconst 1, 1) := by decide +kernel
theorem dX3_gate_49 : decode cX3_gate 49 = .ok (.goto 4, 3) := by decide +kernel
theorem dX3_gate_52 : decode cX3_gate 52 = .ok (.iconst 0, 1) := by decide +kernel
theorem dX3_gate_53 : decode cX3_gate 53 = .ok (.putfield 60, 3) := by decide +kernel
theorem dX3_gate_56 : decode cX3_gate 56 = .ok (.aload_n 2, 1) := by decide +kernel
theorem dX3_gate_57 : decode cX3_gate 57 = .ok (.getfield 60, 3) := by decide +kernel
theorem dX3_gate_60 : decode cX3_gate 60 = .ok (.ireturn, 1) := by decide +kernel
theorem dX3_mend_0 : decode cX3_mend 0 = .ok (.aload_n 0, 1) := by decide +kernel
theorem dX3_mend_1 : decode cX3_mend 1 = .ok (.getfield 12, 3) := by decide +kernel
theorem dX3_mend_4 : decode cX3_mend 4 = .ok (.iload_n 1, 1) := by decide +kernel
theorem dX3_mend_5 : decode cX3_mend 5 = .ok (.invokevirtual 43, 3) := by decide +kernel
theorem dX3_mend_8 : decode cX3_mend 8 = .ok (.astore_n 3, 1) := by decide +kernel
theorem dX3_mend_9 : decode cX3_mend 9 = .ok (.aload_n 3, 1) := by decide +kernel
theorem dX3_mend_10 : decode cX3_mend 10 = .ok (.ifnonnull 13, 3) := by decide +kernel
theorem dX3_mend_13 : decode cX3_mend 13 = .ok (.new 47, 3) := by decide +kernel
theorem dX3_mend_16 : decode cX3_mend 16 = .ok (.dup, 1) := by decide +kernel
theorem dX3_mend_17 : decode cX3_mend 17 = .ok (.ldc 49, 2) := by decide +kernel
theorem dX3_mend_19 : decode cX3_mend 19 = .ok (.invokespecial 51, 3) := by decide +kernel
theorem dX3_mend_22 : decode cX3_mend 22 = .ok (.athrow, 1) := by decide +kernel
theorem dX3_mend_23 : decode cX3_mend 23 = .ok (.iload_n 2, 1) := by decide +kernel
theorem dX3_mend_24 : decode cX3_mend 24 = .ok (.iconst 1, 1) := by decide +kernel
theorem dX3_mend_25 : decode cX3_mend 25 = .ok (.bipush 100, 2) := by decide +kernel
theorem dX3_mend_27 : decode cX3_mend 27 = .ok (.invokestatic 19, 3) := by decide +kernel
theorem dX3_mend_30 : decode cX3_mend 30 = .ok (.ifCond .ne 13, 3) := by decide +kernel
theorem dX3_mend_33 : decode cX3_mend 33 = .ok (.new 23, 3) := by decide +kernel
theorem dX3_mend_36 : decode cX3_mend 36 = .ok (.dup, 1) := by decide +kernel
theorem dX3_mend_37 : decode cX3_mend 37 = .ok (.ldc 64, 2) := by decide +kernel
theorem dX3_mend_39 : decode cX3_mend 39 = .ok (.invokespecial 27, 3) := by decide +kernel
theorem dX3_mend_42 : decode cX3_mend 42 = .ok (.athrow, 1) := by decide +kernel
theorem dX3_mend_43 : decode cX3_mend 43 = .ok (.iload_n 2, 1) := by decide +kernel
theorem dX3_mend_44 : decode cX3_mend 44 = .ok (.iconst 5, 1) := by decide +kernel
theorem dX3_mend_45 : decode cX3_mend 45 = .ok (.iadd, 1) := by decide +kernel
theorem dX3_mend_46 : decode cX3_mend 46 = .ok (.iconst 1, 1) := by decide +kernel
theorem dX3_mend_47 : decode cX3_mend 47 = .ok (.isub, 1) := by decide +kernel
theorem dX3_mend_48 : decode cX3_mend 48 = .ok (.iconst 5, 1) := by decide +kernel
theorem dX3_mend_49 : decode cX3_mend 49 = .ok (.idiv, 1) := by decide +kernel
theorem dX3_mend_50 : decode cX3_mend 50 = .ok (.istore 4, 2) := by decide +kernel
theorem dX3_mend_52 : decode cX3_mend 52 = .ok (.aload_n 3, 1) := by decide +kernel
theorem dX3_mend_53 : decode cX3_mend 53 = .ok (.invokevirtual 52, 3) := by decide +kernel
theorem dX3_mend_56 : decode cX3_mend 56 = .ok (.ifCond .eq 23, 3) := by decide +kernel
theorem dX3_mend_59 : decode cX3_mend 59 = .ok (.aload_n 3, 1) := by decide +kernel
theorem dX3_mend_60 : decode cX3_mend 60 = .ok (.getfield 66, 3) := by decide +kernel
theorem dX3_mend_63 : decode cX3_mend 63 = .ok (.iload_n 2, 1) := by decide +kernel
theorem dX3_mend_64 : decode cX3_mend 64 = .ok (.iadd, 1) := by decide +kernel
theorem dX3_mend_65 : decode cX3_mend 65 = .ok (.bipush 100, 2) := by decide +kernel
theorem dX3_mend_67 : decode cX3_mend 67 = .ok (.if_icmp .gt 12, 3) := by decide +kernel
theorem dX3_mend_70 : decode cX3_mend 70 = .ok (.aload_n 3, 1) := by decide +kernel
theorem dX3_mend_71 : decode cX3_mend 71 = .ok (.getfield 69, 3) := by decide +kernel
theorem dX3_mend_74 : decode cX3_mend 74 = .ok (.iload 4, 2) := by decide +kernel
theorem dX3_mend_76 : decode cX3_mend 76 = .ok (.if_icmp .ge 13, 3) := by decide +kernel
theorem dX3_mend_79 : decode cX3_mend 79 = .ok (.new 34, 3) := by decide +kernel
theorem dX3_mend_82 : decode cX3_mend 82 = .ok (.dup, 1) := by decide +kernel
theorem dX3_mend_83 : decode cX3_mend 83 = .ok (.ldc 72, 2) := by decide +kernel
theorem dX3_mend_85 : decode cX3_mend 85 = .ok (.invokespecial 38, 3) := by decide +kernel
theorem dX3_mend_88 : decode cX3_mend 88 = .ok (.athrow, 1) := by decide +kernel
theorem dX3_mend_89 : decode cX3_mend 89 = .ok (.aload_n 3, 1) := by decide +kernel
theorem dX3_mend_90 : decode cX3_mend 90 = .ok (.dup, 1) := by decide +kernel
theorem dX3_mend_91 : decode cX3_mend 91 = .ok (.getfield 69, 3) := by decide +kernel
theorem dX3_mend_94 : decode cX3_mend 94 = .ok (.iload 4, 2) := by decide +kernel
theorem dX3_mend_96 : decode cX3_mend 96 = .ok (.isub, 1) := by decide +kernel
theorem dX3_mend_97 : decode cX3_mend 97 = .ok (.putfield 69, 3) := by decide +kernel
theorem dX3_mend_100 : decode cX3_mend 100 = .ok (.aload_n 3, 1) := by decide +kernel
theorem dX3_mend_101 : decode cX3_mend 101 = .ok (.dup, 1) := by decide +kernel
theorem dX3_mend_102 : decode cX3_mend 102 = .ok (.getfield 66, 3) := by decide +kernel
theorem dX3_mend_105 : decode cX3_mend 105 = .ok (.iload_n 2, 1) := by decide +kernel
theorem dX3_mend_106 : decode cX3_mend 106 = .ok (.iadd, 1) := by decide +kernel
theorem dX3_mend_107 : decode cX3_mend 107 = .ok (.putfield 66, 3) := by decide +kernel
theorem dX3_mend_110 : decode cX3_mend 110 = .ok (.aload_n 3, 1) := by decide +kernel
theorem dX3_mend_111 : decode cX3_mend 111 = .ok (.getfield 66, 3) := by decide +kernel
theorem dX3_mend_114 : decode cX3_mend 114 = .ok (.ireturn, 1) := by decide +kernel
theorem dX3_drive_0 : decode cX3_drive 0 = .ok (.aload_n 0, 1) := by decide +kernel
theorem dX3_drive_1 : decode cX3_drive 1 = .ok (.getfield 12, 3) := by decide +kernel
theorem dX3_drive_4 : decode cX3_drive 4 = .ok (.iload_n 1, 1) := by decide +kernel
theorem dX3_drive_5 : decode cX3_drive 5 = .ok (.invokevirtual 43, 3) := by decide +kernel
theorem dX3_drive_8 : decode cX3_drive 8 = .ok (.astore_n 3, 1) := by decide +kernel
theorem dX3_drive_9 : decode cX3_drive 9 = .ok (.aload_n 3, 1) := by decide +kernel
theorem dX3_drive_10 : decode cX3_drive 10 = .ok (.ifnonnull 13, 3) := by decide +kernel
theorem dX3_drive_13 : decode cX3_drive 13 = .ok (.new 47, 3) := by decide +kernel
theorem dX3_drive_16 : decode cX3_drive 16 = .ok (.dup, 1) := by decide +kernel
theorem dX3_drive_17 : decode cX3_drive 17 = .ok (.ldc 49, 2) := by decide +kernel
theorem dX3_drive_19 : decode cX3_drive 19 = .ok (.invokespecial 51, 3) := by decide +kernel
theorem dX3_drive_22 : decode cX3_drive 22 = .ok (.athrow, 1) := by decide +kernel
theorem dX3_drive_23 : decode cX3_drive 23 = .ok (.iload_n 2, 1) := by decide +kernel
theorem dX3_drive_24 : decode cX3_drive 24 = .ok (.iconst 1, 1) := by decide +kernel
theorem dX3_drive_25 : decode cX3_drive 25 = .ok (.bipush 30, 2) := by decide +kernel
theorem dX3_drive_27 : decode cX3_drive 27 = .ok (.invokestatic 19, 3) := by decide +kernel
theorem dX3_drive_30 : decode cX3_drive 30 = .ok (.ifCond .ne 13, 3) := by decide +kernel
theorem dX3_drive_33 : decode cX3_drive 33 = .ok (.new 23, 3) := by decide +kernel
theorem dX3_drive_36 : decode cX3_drive 36 = .ok (.dup, 1) := by decide +kernel
theorem dX3_drive_37 : decode cX3_drive 37 = .ok (.ldc 74, 2) := by decide +kernel
theorem dX3_drive_39 : decode cX3_drive 39 = .ok (.invokespecial 27, 3) := by decide +kernel
theorem dX3_drive_42 : decode cX3_drive 42 = .ok (.athrow, 1) := by decide +kernel
theorem dX3_drive_43 : decode cX3_drive 43 = .ok (.iload_n 2, 1) := by decide +kernel
theorem dX3_drive_44 : decode cX3_drive 44 = .ok (.iconst 2, 1) := by decide +kernel
theorem dX3_drive_45 : decode cX3_drive 45 = .ok (.imul, 1) := by decide +kernel
theorem dX3_drive_46 : decode cX3_drive 46 = .ok (.istore 4, 2) := by decide +kernel
theorem dX3_drive_48 : decode cX3_drive 48 = .ok (.aload_n 3, 1) := by decide +kernel
theorem dX3_drive_49 : decode cX3_drive 49 = .ok (.invokevirtual 52, 3) := by decide +kernel
theorem dX3_drive_52 : decode cX3_drive 52 = .ok (.ifCond .eq 23, 3) := by decide +kernel
theorem dX3_drive_55 : decode cX3_drive 55 = .ok (.aload_n 3, 1) := by decide +kernel
theorem dX3_drive_56 : decode cX3_drive 56 = .ok (.getfield 76, 3) := by decide +kernel
theorem dX3_drive_59 : decode cX3_drive 59 = .ok (.iload_n 2, 1) := by decide +kernel
theorem dX3_drive_60 : decode cX3_drive 60 = .ok (.iadd, 1) := by decide +kernel
theorem dX3_drive_61 : decode cX3_drive 61 = .ok (.bipush 30, 2) := by decide +kernel
theorem dX3_drive_63 : decode cX3_drive 63 = .ok (.if_icmp .gt 12, 3) := by decide +kernel
theorem dX3_drive_66 : decode cX3_drive 66 = .ok (.aload_n 3, 1) := by decide +kernel
theorem dX3_drive_67 : decode cX3_drive 67 = .ok (.getfield 69, 3) := by decide +kernel
theorem dX3_drive_70 : decode cX3_drive 70 = .ok (.iload 4, 2) := by decide +kernel
theorem dX3_drive_72 : decode cX3_drive 72 = .ok (.if_icmp .ge 13, 3) := by decide +kernel
theorem dX3_drive_75 : decode cX3_drive 75 = .ok (.new 34, 3) := by decide +kernel
theorem dX3_drive_78 : decode cX3_drive 78 = .ok (.dup, 1) := by decide +kernel
theorem dX3_drive_79 : decode cX3_drive 79 = .ok (.ldc 79, 2) := by decide +kernel
theorem dX3_drive_81 : decode cX3_drive 81 = .ok (.invokespecial 38, 3) := by decide +kernel
theorem dX3_drive_84 : decode cX3_drive 84 = .ok (.athrow, 1) := by decide +kernel
theorem dX3_drive_85 : decode cX3_drive 85 = .ok (.aload_n 3, 1) := by decide +kernel
theorem dX3_drive_86 : decode cX3_drive 86 = .ok (.dup, 1) := by decide +kernel
theorem dX3_drive_87 : decode cX3_drive 87 = .ok (.getfield 69, 3) := by decide +kernel
theorem dX3_drive_90 : decode cX3_drive 90 = .ok (.iload 4, 2) := by decide +kernel
theorem dX3_drive_92 : decode cX3_drive 92 = .ok (.isub, 1) := by decide +kernel
theorem dX3_drive_93 : decode cX3_drive 93 = .ok (.putfield 69, 3) := by decide +kernel
theorem dX3_drive_96 : decode cX3_drive 96 = .ok (.aload_n 3, 1) := by decide +kernel
theorem dX3_drive_97 : decode cX3_drive 97 = .ok (.dup, 1) := by decide +kernel
theorem dX3_drive_98 : decode cX3_drive 98 = .ok (.getfield 76, 3) := by decide +kernel
theorem dX3_drive_101 : decode cX3_drive 101 = .ok (.iload_n 2, 1) := by decide +kernel
theorem dX3_drive_102 : decode cX3_drive 102 = .ok (.iadd, 1) := by decide +kernel
theorem dX3_drive_103 : decode cX3_drive 103 = .ok (.putfield 76, 3) := by decide +kernel
theorem dX3_drive_106 : decode cX3_drive 106 = .ok (.aload_n 3, 1) := by decide +kernel
theorem dX3_drive_107 : decode cX3_drive 107 = .ok (.getfield 76, 3) := by decide +kernel
theorem dX3_drive_110 : decode cX3_drive 110 = .ok (.ireturn, 1) := by decide +kernel
theorem dX3_sell_0 : decode cX3_sell 0 = .ok (.aload_n 0, 1) := by decide +kernel
theorem dX3_sell_1 : decode cX3_sell 1 = .ok (.getfield 12, 3) := by decide +kernel
theorem dX3_sell_4 : decode cX3_sell 4 = .ok (.iload_n 1, 1) := by decide +kernel
theorem dX3_sell_5 : decode cX3_sell 5 = .ok (.invokevirtual 43, 3) := by decide +kernel
theorem dX3_sell_8 : decode cX3_sell 8 = .ok (.astore_n 2, 1) := by decide +kernel
theorem dX3_sell_9 : decode cX3_sell 9 = .ok (.aload_n 2, 1) := by decide +kernel
theorem dX3_sell_10 : decode cX3_sell 10 = .ok (.ifnonnull 13, 3) := by decide +kernel
theorem dX3_sell_13 : decode cX3_sell 13 = .ok (.new 47, 3) := by decide +kernel
theorem dX3_sell_16 : decode cX3_sell 16 = .ok (.dup, 1) := by decide +kernel
theorem dX3_sell_17 : decode cX3_sell 17 = .ok (.ldc 49, 2) := by decide +kernel
theorem dX3_sell_19 : decode cX3_sell 19 = .ok (.invokespecial 51, 3) := by decide +kernel
theorem dX3_sell_22 : decode cX3_sell 22 = .ok (.athrow, 1) := by decide +kernel
theorem dX3_sell_23 : decode cX3_sell 23 = .ok (.aload_n 2, 1) := by decide +kernel
theorem dX3_sell_24 : decode cX3_sell 24 = .ok (.invokevirtual 52, 3) := by decide +kernel
theorem dX3_sell_27 : decode cX3_sell 27 = .ok (.ifCond .eq 10, 3) := by decide +kernel
theorem dX3_sell_30 : decode cX3_sell 30 = .ok (.aload_n 2, 1) := by decide +kernel
theorem dX3_sell_31 : decode cX3_sell 31 = .ok (.getfield 81, 3) := by decide +kernel
theorem dX3_sell_34 : decode cX3_sell 34 = .ok (.ifCond .ne 13, 3) := by decide +kernel
theorem dX3_sell_37 : decode cX3_sell 37 = .ok (.new 34, 3) := by decide +kernel
theorem dX3_sell_40 : decode cX3_sell 40 = .ok (.dup, 1) := by decide +kernel
theorem dX3_sell_41 : decode cX3_sell 41 = .ok (.ldc 84, 2) := by decide +kernel
theorem dX3_sell_43 : decode cX3_sell 43 = .ok (.invokespecial 38, 3) := by decide +kernel
theorem dX3_sell_46 : decode cX3_sell 46 = .ok (.athrow, 1) := by decide +kernel
theorem dX3_sell_47 : decode cX3_sell 47 = .ok (.aload_n 2, 1) := by decide +kernel
theorem dX3_sell_48 : decode cX3_sell 48 = .ok (.getfield 81, 3) := by decide +kernel
theorem dX3_sell_51 : decode cX3_sell 51 = .ok (.aload_n 0, 1) := by decide +kernel
theorem dX3_sell_52 : decode cX3_sell 52 = .ok (.getfield 12, 3) := by decide +kernel
theorem dX3_sell_55 : decode cX3_sell 55 = .ok (.invokevirtual 86, 3) := by decide +kernel
theorem dX3_sell_58 : decode cX3_sell 58 = .ok (.invokestatic 90, 3) := by decide +kernel
theorem dX3_sell_61 : decode cX3_sell 61 = .ok (.istore_n 3, 1) := by decide +kernel
theorem dX3_sell_62 : decode cX3_sell 62 = .ok (.aload_n 2, 1) := by decide +kernel
theorem dX3_sell_63 : decode cX3_sell 63 = .ok (.iconst 0, 1) := by decide +kernel
theorem dX3_sell_64 : decode cX3_sell 64 = .ok (.putfield 81, 3) := by decide +kernel
theorem dX3_sell_67 : decode cX3_sell 67 = .ok (.aload_n 2, 1) := by decide +kernel
theorem dX3_sell_68 : decode cX3_sell 68 = .ok (.dup, 1) := by decide +kernel
theorem dX3_sell_69 : decode cX3_sell 69 = .ok (.getfield 69, 3) := by decide +kernel
theorem dX3_sell_72 : decode cX3_sell 72 = .ok (.iload_n 3, 1) := by decide +kernel
theorem dX3_sell_73 : decode cX3_sell 73 = .ok (.iadd, 1) := by decide +kernel
theorem dX3_sell_74 : decode cX3_sell 74 = .ok (.putfield 69, 3) := by decide +kernel
theorem dX3_sell_77 : decode cX3_sell 77 = .ok (.iload_n 3, 1) := by decide +kernel
theorem dX3_sell_78 : decode cX3_sell 78 = .ok (.ireturn, 1) := by decide +kernel
theorem dX3_setRun_0 : decode cX3_setRun 0 = .ok (.iload_n 1, 1) := by decide +kernel
theorem dX3_setRun_1 : decode cX3_setRun 1 = .ok (.iconst 0, 1) := by decide +kernel
theorem dX3_setRun_2 : decode cX3_setRun 2 = .ok (.bipush 6, 2) := by decide +kernel
theorem dX3_setRun_4 : decode cX3_setRun 4 = .ok (.invokestatic 19, 3) := by decide +kernel
theorem dX3_setRun_7 : decode cX3_setRun 7 = .ok (.ifCond .ne 13, 3) := by decide +kernel
theorem dX3_setRun_10 : decode cX3_setRun 10 = .ok (.new 47, 3) := by decide +kernel
theorem dX3_setRun_13 : decode cX3_setRun 13 = .ok (.dup, 1) := by decide +kernel
theorem dX3_setRun_14 : decode cX3_setRun 14 = .ok (.ldc 94, 2) := by decide +kernel
theorem dX3_setRun_16 : decode cX3_setRun 16 = .ok (.invokespecial 51, 3) := by decide +kernel
theorem dX3_setRun_19 : decode cX3_setRun 19 = .ok (.athrow, 1) := by decide +kernel
theorem dX3_setRun_20 : decode cX3_setRun 20 = .ok (.iload_n 2, 1) := by decide +kernel
theorem dX3_setRun_21 : decode cX3_setRun 21 = .ok (.iconst 0, 1) := by decide +kernel
theorem dX3_setRun_22 : decode cX3_setRun 22 = .ok (.bipush 99, 2) := by decide +kernel
theorem dX3_setRun_24 : decode cX3_setRun 24 = .ok (.invokestatic 19, 3) := by decide +kernel
theorem dX3_setRun_27 : decode cX3_setRun 27 = .ok (.ifCond .ne 13, 3) := by decide +kernel
theorem dX3_setRun_30 : decode cX3_setRun 30 = .ok (.new 23, 3) := by decide +kernel
theorem dX3_setRun_33 : decode cX3_setRun 33 = .ok (.dup, 1) := by decide +kernel
theorem dX3_setRun_34 : decode cX3_setRun 34 = .ok (.ldc 96, 2) := by decide +kernel
theorem dX3_setRun_36 : decode cX3_setRun 36 = .ok (.invokespecial 27, 3) := by decide +kernel
theorem dX3_setRun_39 : decode cX3_setRun 39 = .ok (.athrow, 1) := by decide +kernel
theorem dX3_setRun_40 : decode cX3_setRun 40 = .ok (.aload_n 0, 1) := by decide +kernel
theorem dX3_setRun_41 : decode cX3_setRun 41 = .ok (.getfield 12, 3) := by decide +kernel
theorem dX3_setRun_44 : decode cX3_setRun 44 = .ok (.iload_n 1, 1) := by decide +kernel
theorem dX3_setRun_45 : decode cX3_setRun 45 = .ok (.invokevirtual 98, 3) := by decide +kernel
theorem dX3_setRun_48 : decode cX3_setRun 48 = .ok (.istore_n 3, 1) := by decide +kernel
theorem dX3_setRun_49 : decode cX3_setRun 49 = .ok (.aload_n 0, 1) := by decide +kernel
theorem dX3_setRun_50 : decode cX3_setRun 50 = .ok (.getfield 12, 3) := by decide +kernel
theorem dX3_setRun_53 : decode cX3_setRun 53 = .ok (.iload_n 1, 1) := by decide +kernel
theorem dX3_setRun_54 : decode cX3_setRun 54 = .ok (.iload_n 2, 1) := by decide +kernel
theorem dX3_setRun_55 : decode cX3_setRun 55 = .ok (.invokevirtual 102, 3) := by decide +kernel
theorem dX3_setRun_58 : decode cX3_setRun 58 = .ok (.iload_n 3, 1) := by decide +kernel
theorem dX3_setRun_59 : decode cX3_setRun 59 = .ok (.ireturn, 1) := by decide +kernel
theorem dX3_barge_0 : decode cX3_barge 0 = .ok (.iload_n 1, 1) := by decide +kernel
theorem dX3_barge_1 : decode cX3_barge 1 = .ok (.iconst 1, 1) := by decide +kernel
theorem dX3_barge_2 : decode cX3_barge 2 = .ok (.bipush 20, 2) := by decide +kernel
theorem dX3_barge_4 : decode cX3_barge 4 = .ok (.invokestatic 19, 3) := by decide +kernel
theorem dX3_barge_7 : decode cX3_barge 7 = .ok (.ifCond .ne 13, 3) := by decide +kernel
theorem dX3_barge_10 : decode cX3_barge 10 = .ok (.new 23, 3) := by decide +kernel
theorem dX3_barge_13 : decode cX3_barge 13 = .ok (.dup, 1) := by decide +kernel
theorem dX3_barge_14 : decode cX3_barge 14 = .ok (.ldc 106, 2) := by decide +kernel
theorem dX3_barge_16 : decode cX3_barge 16 = .ok (.invokespecial 27, 3) := by decide +kernel
theorem dX3_barge_19 : decode cX3_barge 19 = .ok (.athrow, 1) := by decide +kernel
theorem dX3_barge_20 : decode cX3_barge 20 = .ok (.aload_n 0, 1) := by decide +kernel
theorem dX3_barge_21 : decode cX3_barge 21 = .ok (.getfield 12, 3) := by decide +kernel
theorem dX3_barge_24 : decode cX3_barge 24 = .ok (.getfield 108, 3) := by decide +kernel
theorem dX3_barge_27 : decode cX3_barge 27 = .ok (.iconst 5, 1) := by decide +kernel
theorem dX3_barge_28 : decode cX3_barge 28 = .ok (.if_icmp .lt 13, 3) := by decide +kernel
theorem dX3_barge_31 : decode cX3_barge 31 = .ok (.new 34, 3) := by decide +kernel
theorem dX3_barge_34 : decode cX3_barge 34 = .ok (.dup, 1) := by decide +kernel
theorem dX3_barge_35 : decode cX3_barge 35 = .ok (.ldc 111, 2) := by decide +kernel
theorem dX3_barge_37 : decode cX3_barge 37 = .ok (.invokespecial 38, 3) := by decide +kernel
theorem dX3_barge_40 : decode cX3_barge 40 = .ok (.athrow, 1) := by decide +kernel
theorem dX3_barge_41 : decode cX3_barge 41 = .ok (.aload_n 0, 1) := by decide +kernel
theorem dX3_barge_42 : decode cX3_barge 42 = .ok (.getfield 12, 3) := by decide +kernel
theorem dX3_barge_45 : decode cX3_barge 45 = .ok (.iload_n 1, 1) := by decide +kernel
theorem dX3_barge_46 : decode cX3_barge 46 = .ok (.invokevirtual 113, 3) := by decide +kernel
theorem dX3_barge_49 : decode cX3_barge 49 = .ok (.ireturn, 1) := by decide +kernel
theorem dX3_about_0 : decode cX3_about 0 = .ok (.aload_n 0, 1) := by decide +kernel
theorem dX3_about_1 : decode cX3_about 1 = .ok (.getfield 12, 3) := by decide +kernel
theorem dX3_about_4 : decode cX3_about 4 = .ok (.iload_n 1, 1) := by decide +kernel
theorem dX3_about_5 : decode cX3_about 5 = .ok (.invokevirtual 43, 3) := by decide +kernel
theorem dX3_about_8 : decode cX3_about 8 = .ok (.astore_n 3, 1) := by decide +kernel
theorem dX3_about_9 : decode cX3_about 9 = .ok (.aload_n 3, 1) := by decide +kernel
theorem dX3_about_10 : decode cX3_about 10 = .ok (.ifnull 13, 3) := by decide +kernel
theorem dX3_about_13 : decode cX3_about 13 = .ok (.iload_n 2, 1) := by decide +kernel
theorem dX3_about_14 : decode cX3_about 14 = .ok (.iconst 0, 1) := by decide +kernel
theorem dX3_about_15 : decode cX3_about 15 = .ok (.bipush 7, 2) := by decide +kernel
theorem dX3_about_17 : decode cX3_about 17 = .ok (.invokestatic 19, 3) := by decide +kernel
theorem dX3_about_20 : decode cX3_about 20 = .ok (.ifCond .ne 13, 3) := by decide +kernel
theorem dX3_about_23 : decode cX3_about 23 = .ok (.new 47, 3) := by decide +kernel
theorem dX3_about_26 : decode cX3_about 26 = .ok (.dup, 1) := by decide +kernel
theorem dX3_about_27 : decode cX3_about 27 = .ok (.ldc 116, 2) := by decide +kernel
theorem dX3_about_29 : decode cX3_about 29 = .ok (.invokespecial 51, 3) := by decide +kernel
theorem dX3_about_32 : decode cX3_about 32 = .ok (.athrow, 1) := by decide +kernel
theorem dX3_about_33 : decode cX3_about 33 = .ok (.aload_n 3, 1) := by decide +kernel
theorem dX3_about_34 : decode cX3_about 34 = .ok (.iload_n 2, 1) := by decide +kernel
theorem dX3_about_35 : decode cX3_about 35 = .ok (.invokevirtual 118, 3) := by decide +kernel
theorem dX3_about_38 : decode cX3_about 38 = .ok (.ireturn, 1) := by decide +kernel
theorem dX3_told_0 : decode cX3_told 0 = .ok (.aload_n 0, 1) := by decide +kernel
theorem dX3_told_1 : decode cX3_told 1 = .ok (.getfield 12, 3) := by decide +kernel
theorem dX3_told_4 : decode cX3_told 4 = .ok (.iload_n 1, 1) := by decide +kernel
theorem dX3_told_5 : decode cX3_told 5 = .ok (.invokevirtual 121, 3) := by decide +kernel
theorem dX3_told_8 : decode cX3_told 8 = .ok (.astore_n 3, 1) := by decide +kernel
theorem dX3_told_9 : decode cX3_told 9 = .ok (.aload_n 3, 1) := by decide +kernel
theorem dX3_told_10 : decode cX3_told 10 = .ok (.ifnull 12, 3) := by decide +kernel
theorem dX3_told_13 : decode cX3_told 13 = .ok (.iload_n 2, 1) := by decide +kernel
