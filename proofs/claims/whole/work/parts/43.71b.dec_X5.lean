theorem dX5_drive_83 : decode cX5_drive 83 = .ok (.aload_n 0, 1) := by decide +kernel
theorem dX5_drive_84 : decode cX5_drive 84 = .ok (.getfield 24, 3) := by decide +kernel
theorem dX5_drive_87 : decode cX5_drive 87 = .ok (.getfield 55, 3) := by decide +kernel
theorem dX5_drive_90 : decode cX5_drive 90 = .ok (.iload_n 1, 1) := by decide +kernel
theorem dX5_drive_91 : decode cX5_drive 91 = .ok (.dup2, 1) := by decide +kernel
theorem dX5_drive_92 : decode cX5_drive 92 = .ok (.iaload, 1) := by decide +kernel
theorem dX5_drive_93 : decode cX5_drive 93 = .ok (.iconst 2, 1) := by decide +kernel
theorem dX5_drive_94 : decode cX5_drive 94 = .ok (.iload_n 2, 1) := by decide +kernel
theorem dX5_drive_95 : decode cX5_drive 95 = .ok (.imul, 1) := by decide +kernel
theorem dX5_drive_96 : decode cX5_drive 96 = .ok (.isub, 1) := by decide +kernel
theorem dX5_drive_97 : decode cX5_drive 97 = .ok (.iastore, 1) := by decide +kernel
theorem dX5_drive_98 : decode cX5_drive 98 = .ok (.aload_n 0, 1) := by decide +kernel
theorem dX5_drive_99 : decode cX5_drive 99 = .ok (.getfield 24, 3) := by decide +kernel
theorem dX5_drive_102 : decode cX5_drive 102 = .ok (.getfield 49, 3) := by decide +kernel
theorem dX5_drive_105 : decode cX5_drive 105 = .ok (.iload_n 1, 1) := by decide +kernel
theorem dX5_drive_106 : decode cX5_drive 106 = .ok (.dup2, 1) := by decide +kernel
theorem dX5_drive_107 : decode cX5_drive 107 = .ok (.iaload, 1) := by decide +kernel
theorem dX5_drive_108 : decode cX5_drive 108 = .ok (.iload_n 2, 1) := by decide +kernel
theorem dX5_drive_109 : decode cX5_drive 109 = .ok (.iadd, 1) := by decide +kernel
theorem dX5_drive_110 : decode cX5_drive 110 = .ok (.iastore, 1) := by decide +kernel
theorem dX5_drive_111 : decode cX5_drive 111 = .ok (.aload_n 0, 1) := by decide +kernel
theorem dX5_drive_112 : decode cX5_drive 112 = .ok (.getfield 24, 3) := by decide +kernel
theorem dX5_drive_115 : decode cX5_drive 115 = .ok (.getfield 49, 3) := by decide +kernel
theorem dX5_drive_118 : decode cX5_drive 118 = .ok (.iload_n 1, 1) := by decide +kernel
theorem dX5_drive_119 : decode cX5_drive 119 = .ok (.iaload, 1) := by decide +kernel
theorem dX5_drive_120 : decode cX5_drive 120 = .ok (.ireturn, 1) := by decide +kernel
theorem dX5_sell_0 : decode cX5_sell 0 = .ok (.aload_n 0, 1) := by decide +kernel
theorem dX5_sell_1 : decode cX5_sell 1 = .ok (.iconst 0, 1) := by decide +kernel
theorem dX5_sell_2 : decode cX5_sell 2 = .ok (.putfield 31, 3) := by decide +kernel
theorem dX5_sell_5 : decode cX5_sell 5 = .ok (.aload_n 0, 1) := by decide +kernel
theorem dX5_sell_6 : decode cX5_sell 6 = .ok (.iload_n 1, 1) := by decide +kernel
theorem dX5_sell_7 : decode cX5_sell 7 = .ok (.invokevirtual 58, 3) := by decide +kernel
theorem dX5_sell_10 : decode cX5_sell 10 = .ok (.ifCond .ne 9, 3) := by decide +kernel
theorem dX5_sell_13 : decode cX5_sell 13 = .ok (.aload_n 0, 1) := by decide +kernel
theorem dX5_sell_14 : decode cX5_sell 14 = .ok (.iconst 1, 1) := by decide +kernel
theorem dX5_sell_15 : decode cX5_sell 15 = .ok (.invokevirtual 45, 3) := by decide +kernel
theorem dX5_sell_18 : decode cX5_sell 18 = .ok (.ireturn, 1) := by decide +kernel
theorem dX5_sell_19 : decode cX5_sell 19 = .ok (.aload_n 0, 1) := by decide +kernel
theorem dX5_sell_20 : decode cX5_sell 20 = .ok (.getfield 24, 3) := by decide +kernel
theorem dX5_sell_23 : decode cX5_sell 23 = .ok (.iload_n 1, 1) := by decide +kernel
theorem dX5_sell_24 : decode cX5_sell 24 = .ok (.invokevirtual 62, 3) := by decide +kernel
theorem dX5_sell_27 : decode cX5_sell 27 = .ok (.ifCond .eq 15, 3) := by decide +kernel
theorem dX5_sell_30 : decode cX5_sell 30 = .ok (.aload_n 0, 1) := by decide +kernel
theorem dX5_sell_31 : decode cX5_sell 31 = .ok (.getfield 24, 3) := by decide +kernel
theorem dX5_sell_34 : decode cX5_sell 34 = .ok (.getfield 68, 3) := by decide +kernel
theorem dX5_sell_37 : decode cX5_sell 37 = .ok (.iload_n 1, 1) := by decide +kernel
theorem dX5_sell_38 : decode cX5_sell 38 = .ok (.iaload, 1) := by decide +kernel
theorem dX5_sell_39 : decode cX5_sell 39 = .ok (.ifCond .ne 9, 3) := by decide +kernel
theorem dX5_sell_42 : decode cX5_sell 42 = .ok (.aload_n 0, 1) := by decide +kernel
theorem dX5_sell_43 : decode cX5_sell 43 = .ok (.iconst 2, 1) := by decide +kernel
theorem dX5_sell_44 : decode cX5_sell 44 = .ok (.invokevirtual 45, 3) := by decide +kernel
theorem dX5_sell_47 : decode cX5_sell 47 = .ok (.ireturn, 1) := by decide +kernel
theorem dX5_sell_48 : decode cX5_sell 48 = .ok (.aload_n 0, 1) := by decide +kernel
theorem dX5_sell_49 : decode cX5_sell 49 = .ok (.getfield 24, 3) := by decide +kernel
theorem dX5_sell_52 : decode cX5_sell 52 = .ok (.getfield 68, 3) := by decide +kernel
theorem dX5_sell_55 : decode cX5_sell 55 = .ok (.iload_n 1, 1) := by decide +kernel
theorem dX5_sell_56 : decode cX5_sell 56 = .ok (.iaload, 1) := by decide +kernel
theorem dX5_sell_57 : decode cX5_sell 57 = .ok (.istore_n 2, 1) := by decide +kernel
theorem dX5_sell_58 : decode cX5_sell 58 = .ok (.aload_n 0, 1) := by decide +kernel
theorem dX5_sell_59 : decode cX5_sell 59 = .ok (.getfield 24, 3) := by decide +kernel
theorem dX5_sell_62 : decode cX5_sell 62 = .ok (.invokevirtual 71, 3) := by decide +kernel
theorem dX5_sell_65 : decode cX5_sell 65 = .ok (.ifCond .ne 9, 3) := by decide +kernel
theorem dX5_sell_68 : decode cX5_sell 68 = .ok (.iload_n 2, 1) := by decide +kernel
theorem dX5_sell_69 : decode cX5_sell 69 = .ok (.iconst 2, 1) := by decide +kernel
theorem dX5_sell_70 : decode cX5_sell 70 = .ok (.idiv, 1) := by decide +kernel
theorem dX5_sell_71 : decode cX5_sell 71 = .ok (.goto 23, 3) := by decide +kernel
theorem dX5_sell_74 : decode cX5_sell 74 = .ok (.aload_n 0, 1) := by decide +kernel
theorem dX5_sell_75 : decode cX5_sell 75 = .ok (.getfield 24, 3) := by decide +kernel
theorem dX5_sell_78 : decode cX5_sell 78 = .ok (.invokevirtual 71, 3) := by decide +kernel
theorem dX5_sell_81 : decode cX5_sell 81 = .ok (.iconst 1, 1) := by decide +kernel
theorem dX5_sell_82 : decode cX5_sell 82 = .ok (.if_icmp .ne 7, 3) := by decide +kernel
theorem dX5_sell_85 : decode cX5_sell 85 = .ok (.iload_n 2, 1) := by decide +kernel
theorem dX5_sell_86 : decode cX5_sell 86 = .ok (.goto 8, 3) := by decide +kernel
theorem dX5_sell_89 : decode cX5_sell 89 = .ok (.iload_n 2, 1) := by decide +kernel
theorem dX5_sell_90 : decode cX5_sell 90 = .ok (.iload_n 2, 1) := by decide +kernel
theorem dX5_sell_91 : decode cX5_sell 91 = .ok (.iconst 2, 1) := by decide +kernel
theorem dX5_sell_92 : decode cX5_sell 92 = .ok (.idiv, 1) := by decide +kernel
theorem dX5_sell_93 : decode cX5_sell 93 = .ok (.iadd, 1) := by decide +kernel
theorem dX5_sell_94 : decode cX5_sell 94 = .ok (.istore_n 3, 1) := by decide +kernel
theorem dX5_sell_95 : decode cX5_sell 95 = .ok (.aload_n 0, 1) := by decide +kernel
theorem dX5_sell_96 : decode cX5_sell 96 = .ok (.getfield 24, 3) := by decide +kernel
theorem dX5_sell_99 : decode cX5_sell 99 = .ok (.getfield 68, 3) := by decide +kernel
theorem dX5_sell_102 : decode cX5_sell 102 = .ok (.iload_n 1, 1) := by decide +kernel
theorem dX5_sell_103 : decode cX5_sell 103 = .ok (.iconst 0, 1) := by decide +kernel
theorem dX5_sell_104 : decode cX5_sell 104 = .ok (.iastore, 1) := by decide +kernel
theorem dX5_sell_105 : decode cX5_sell 105 = .ok (.aload_n 0, 1) := by decide +kernel
theorem dX5_sell_106 : decode cX5_sell 106 = .ok (.getfield 24, 3) := by decide +kernel
theorem dX5_sell_109 : decode cX5_sell 109 = .ok (.getfield 55, 3) := by decide +kernel
theorem dX5_sell_112 : decode cX5_sell 112 = .ok (.iload_n 1, 1) := by decide +kernel
theorem dX5_sell_113 : decode cX5_sell 113 = .ok (.dup2, 1) := by decide +kernel
theorem dX5_sell_114 : decode cX5_sell 114 = .ok (.iaload, 1) := by decide +kernel
theorem dX5_sell_115 : decode cX5_sell 115 = .ok (.iload_n 3, 1) := by decide +kernel
theorem dX5_sell_116 : decode cX5_sell 116 = .ok (.iadd, 1) := by decide +kernel
theorem dX5_sell_117 : decode cX5_sell 117 = .ok (.iastore, 1) := by decide +kernel
theorem dX5_sell_118 : decode cX5_sell 118 = .ok (.iload_n 3, 1) := by decide +kernel
theorem dX5_sell_119 : decode cX5_sell 119 = .ok (.ireturn, 1) := by decide +kernel
theorem dX5_setRun_0 : decode cX5_setRun 0 = .ok (.aload_n 0, 1) := by decide +kernel
theorem dX5_setRun_1 : decode cX5_setRun 1 = .ok (.iconst 0, 1) := by decide +kernel
theorem dX5_setRun_2 : decode cX5_setRun 2 = .ok (.putfield 31, 3) := by decide +kernel
theorem dX5_setRun_5 : decode cX5_setRun 5 = .ok (.iload_n 1, 1) := by decide +kernel
theorem dX5_setRun_6 : decode cX5_setRun 6 = .ok (.iconst 0, 1) := by decide +kernel
theorem dX5_setRun_7 : decode cX5_setRun 7 = .ok (.bipush 6, 2) := by decide +kernel
theorem dX5_setRun_9 : decode cX5_setRun 9 = .ok (.invokestatic 38, 3) := by decide +kernel
theorem dX5_setRun_12 : decode cX5_setRun 12 = .ok (.ifCond .ne 9, 3) := by decide +kernel
theorem dX5_setRun_15 : decode cX5_setRun 15 = .ok (.aload_n 0, 1) := by decide +kernel
theorem dX5_setRun_16 : decode cX5_setRun 16 = .ok (.iconst 1, 1) := by decide +kernel
theorem dX5_setRun_17 : decode cX5_setRun 17 = .ok (.invokevirtual 45, 3) := by decide +kernel
theorem dX5_setRun_20 : decode cX5_setRun 20 = .ok (.ireturn, 1) := by decide +kernel
theorem dX5_setRun_21 : decode cX5_setRun 21 = .ok (.iload_n 2, 1) := by decide +kernel
theorem dX5_setRun_22 : decode cX5_setRun 22 = .ok (.iconst 0, 1) := by decide +kernel
theorem dX5_setRun_23 : decode cX5_setRun 23 = .ok (.bipush 99, 2) := by decide +kernel
theorem dX5_setRun_25 : decode cX5_setRun 25 = .ok (.invokestatic 38, 3) := by decide +kernel
theorem dX5_setRun_28 : decode cX5_setRun 28 = .ok (.ifCond .ne 9, 3) := by decide +kernel
theorem dX5_setRun_31 : decode cX5_setRun 31 = .ok (.aload_n 0, 1) := by decide +kernel
theorem dX5_setRun_32 : decode cX5_setRun 32 = .ok (.iconst 2, 1) := by decide +kernel
theorem dX5_setRun_33 : decode cX5_setRun 33 = .ok (.invokevirtual 45, 3) := by decide +kernel
theorem dX5_setRun_36 : decode cX5_setRun 36 = .ok (.ireturn, 1) := by decide +kernel
theorem dX5_setRun_37 : decode cX5_setRun 37 = .ok (.aload_n 0, 1) := by decide +kernel
theorem dX5_setRun_38 : decode cX5_setRun 38 = .ok (.getfield 7, 3) := by decide +kernel
theorem dX5_setRun_41 : decode cX5_setRun 41 = .ok (.iload_n 1, 1) := by decide +kernel
theorem dX5_setRun_42 : decode cX5_setRun 42 = .ok (.iaload, 1) := by decide +kernel
theorem dX5_setRun_43 : decode cX5_setRun 43 = .ok (.istore_n 3, 1) := by decide +kernel
theorem dX5_setRun_44 : decode cX5_setRun 44 = .ok (.aload_n 0, 1) := by decide +kernel
theorem dX5_setRun_45 : decode cX5_setRun 45 = .ok (.getfield 7, 3) := by decide +kernel
theorem dX5_setRun_48 : decode cX5_setRun 48 = .ok (.iload_n 1, 1) := by decide +kernel
theorem dX5_setRun_49 : decode cX5_setRun 49 = .ok (.iload_n 2, 1) := by decide +kernel
theorem dX5_setRun_50 : decode cX5_setRun 50 = .ok (.iastore, 1) := by decide +kernel
theorem dX5_setRun_51 : decode cX5_setRun 51 = .ok (.iload_n 3, 1) := by decide +kernel
theorem dX5_setRun_52 : decode cX5_setRun 52 = .ok (.ireturn, 1) := by decide +kernel
theorem dX5_barge_0 : decode cX5_barge 0 = .ok (.aload_n 0, 1) := by decide +kernel
theorem dX5_barge_1 : decode cX5_barge 1 = .ok (.iconst 0, 1) := by decide +kernel
theorem dX5_barge_2 : decode cX5_barge 2 = .ok (.putfield 31, 3) := by decide +kernel
theorem dX5_barge_5 : decode cX5_barge 5 = .ok (.iload_n 1, 1) := by decide +kernel
theorem dX5_barge_6 : decode cX5_barge 6 = .ok (.iconst 1, 1) := by decide +kernel
theorem dX5_barge_7 : decode cX5_barge 7 = .ok (.bipush 20, 2) := by decide +kernel
theorem dX5_barge_9 : decode cX5_barge 9 = .ok (.invokestatic 38, 3) := by decide +kernel
theorem dX5_barge_12 : decode cX5_barge 12 = .ok (.ifCond .ne 9, 3) := by decide +kernel
theorem dX5_barge_15 : decode cX5_barge 15 = .ok (.aload_n 0, 1) := by decide +kernel
theorem dX5_barge_16 : decode cX5_barge 16 = .ok (.iconst 1, 1) := by decide +kernel
theorem dX5_barge_17 : decode cX5_barge 17 = .ok (.invokevirtual 45, 3) := by decide +kernel
theorem dX5_barge_20 : decode cX5_barge 20 = .ok (.ireturn, 1) := by decide +kernel
theorem dX5_barge_21 : decode cX5_barge 21 = .ok (.aload_n 0, 1) := by decide +kernel
theorem dX5_barge_22 : decode cX5_barge 22 = .ok (.getfield 24, 3) := by decide +kernel
theorem dX5_barge_25 : decode cX5_barge 25 = .ok (.getfield 42, 3) := by decide +kernel
theorem dX5_barge_28 : decode cX5_barge 28 = .ok (.iconst 5, 1) := by decide +kernel
theorem dX5_barge_29 : decode cX5_barge 29 = .ok (.if_icmp .ne 9, 3) := by decide +kernel
theorem dX5_barge_32 : decode cX5_barge 32 = .ok (.aload_n 0, 1) := by decide +kernel
theorem dX5_barge_33 : decode cX5_barge 33 = .ok (.iconst 2, 1) := by decide +kernel
theorem dX5_barge_34 : decode cX5_barge 34 = .ok (.invokevirtual 45, 3) := by decide +kernel
theorem dX5_barge_37 : decode cX5_barge 37 = .ok (.ireturn, 1) := by decide +kernel
theorem dX5_barge_38 : decode cX5_barge 38 = .ok (.aload_n 0, 1) := by decide +kernel
theorem dX5_barge_39 : decode cX5_barge 39 = .ok (.getfield 24, 3) := by decide +kernel
theorem dX5_barge_42 : decode cX5_barge 42 = .ok (.getfield 75, 3) := by decide +kernel
theorem dX5_barge_45 : decode cX5_barge 45 = .ok (.aload_n 0, 1) := by decide +kernel
theorem dX5_barge_46 : decode cX5_barge 46 = .ok (.getfield 24, 3) := by decide +kernel
theorem dX5_barge_49 : decode cX5_barge 49 = .ok (.getfield 42, 3) := by decide +kernel
theorem dX5_barge_52 : decode cX5_barge 52 = .ok (.iload_n 1, 1) := by decide +kernel
theorem dX5_barge_53 : decode cX5_barge 53 = .ok (.iastore, 1) := by decide +kernel
theorem dX5_barge_54 : decode cX5_barge 54 = .ok (.aload_n 0, 1) := by decide +kernel
theorem dX5_barge_55 : decode cX5_barge 55 = .ok (.getfield 24, 3) := by decide +kernel
theorem dX5_barge_58 : decode cX5_barge 58 = .ok (.getfield 78, 3) := by decide +kernel
theorem dX5_barge_61 : decode cX5_barge 61 = .ok (.aload_n 0, 1) := by decide +kernel
theorem dX5_barge_62 : decode cX5_barge 62 = .ok (.getfield 24, 3) := by decide +kernel
theorem dX5_barge_65 : decode cX5_barge 65 = .ok (.getfield 42, 3) := by decide +kernel
theorem dX5_barge_68 : decode cX5_barge 68 = .ok (.iconst (-1), 1) := by decide +kernel
theorem dX5_barge_69 : decode cX5_barge 69 = .ok (.iastore, 1) := by decide +kernel
theorem dX5_barge_70 : decode cX5_barge 70 = .ok (.aload_n 0, 1) := by decide +kernel
theorem dX5_barge_71 : decode cX5_barge 71 = .ok (.getfield 24, 3) := by decide +kernel
theorem dX5_barge_74 : decode cX5_barge 74 = .ok (.getfield 81, 3) := by decide +kernel
theorem dX5_barge_77 : decode cX5_barge 77 = .ok (.aload_n 0, 1) := by decide +kernel
theorem dX5_barge_78 : decode cX5_barge 78 = .ok (.getfield 24, 3) := by decide +kernel
theorem dX5_barge_81 : decode cX5_barge 81 = .ok (.getfield 42, 3) := by decide +kernel
theorem dX5_barge_84 : decode cX5_barge 84 = .ok (.iconst 0, 1) := by decide +kernel
theorem dX5_barge_85 : decode cX5_barge 85 = .ok (.iastore, 1) := by decide +kernel
theorem dX5_barge_86 : decode cX5_barge 86 = .ok (.aload_n 0, 1) := by decide +kernel
theorem dX5_barge_87 : decode cX5_barge 87 = .ok (.getfield 24, 3) := by decide +kernel
theorem dX5_barge_90 : decode cX5_barge 90 = .ok (.dup, 1) := by decide +kernel
theorem dX5_barge_91 : decode cX5_barge 91 = .ok (.getfield 42, 3) := by decide +kernel
theorem dX5_barge_94 : decode cX5_barge 94 = .ok (.iconst 1, 1) := by decide +kernel
theorem dX5_barge_95 : decode cX5_barge 95 = .ok (.iadd, 1) := by decide +kernel
theorem dX5_barge_96 : decode cX5_barge 96 = .ok (.putfield 42, 3) := by decide +kernel
theorem dX5_barge_99 : decode cX5_barge 99 = .ok (.aload_n 0, 1) := by decide +kernel
theorem dX5_barge_100 : decode cX5_barge 100 = .ok (.getfield 24, 3) := by decide +kernel
theorem dX5_barge_103 : decode cX5_barge 103 = .ok (.getfield 42, 3) := by decide +kernel
theorem dX5_barge_106 : decode cX5_barge 106 = .ok (.iconst 1, 1) := by decide +kernel
theorem dX5_barge_107 : decode cX5_barge 107 = .ok (.isub, 1) := by decide +kernel
theorem dX5_barge_108 : decode cX5_barge 108 = .ok (.ireturn, 1) := by decide +kernel
theorem dX5_weirTold_0 : decode cX5_weirTold 0 = .ok (.bipush 8, 2) := by decide +kernel
theorem dX5_weirTold_2 : decode cX5_weirTold 2 = .ok (.newarray .int, 2) := by decide +kernel
theorem dX5_weirTold_4 : decode cX5_weirTold 4 = .ok (.dup, 1) := by decide +kernel
theorem dX5_weirTold_5 : decode cX5_weirTold 5 = .ok (.iconst 0, 1) := by decide +kernel
theorem dX5_weirTold_6 : decode cX5_weirTold 6 = .ok (.aload_n 0, 1) := by decide +kernel
theorem dX5_weirTold_7 : decode cX5_weirTold 7 = .ok (.getfield 13, 3) := by decide +kernel
theorem dX5_weirTold_10 : decode cX5_weirTold 10 = .ok (.iload_n 1, 1) := by decide +kernel
theorem dX5_weirTold_11 : decode cX5_weirTold 11 = .ok (.iaload, 1) := by decide +kernel
theorem dX5_weirTold_12 : decode cX5_weirTold 12 = .ok (.iastore, 1) := by decide +kernel
theorem dX5_weirTold_13 : decode cX5_weirTold 13 = .ok (.dup, 1) := by decide +kernel
theorem dX5_weirTold_14 : decode cX5_weirTold 14 = .ok (.iconst 1, 1) := by decide +kernel
theorem dX5_weirTold_15 : decode cX5_weirTold 15 = .ok (.aload_n 0, 1) := by decide +kernel
theorem dX5_weirTold_16 : decode cX5_weirTold 16 = .ok (.getfield 24, 3) := by decide +kernel
theorem dX5_weirTold_19 : decode cX5_weirTold 19 = .ok (.getfield 49, 3) := by decide +kernel
theorem dX5_weirTold_22 : decode cX5_weirTold 22 = .ok (.iload_n 1, 1) := by decide +kernel
theorem dX5_weirTold_23 : decode cX5_weirTold 23 = .ok (.iaload, 1) := by decide +kernel
theorem dX5_weirTold_24 : decode cX5_weirTold 24 = .ok (.iastore, 1) := by decide +kernel
theorem dX5_weirTold_25 : decode cX5_weirTold 25 = .ok (.dup, 1) := by decide +kernel
theorem dX5_weirTold_26 : decode cX5_weirTold 26 = .ok (.iconst 2, 1) := by decide +kernel
theorem dX5_weirTold_27 : decode cX5_weirTold 27 = .ok (.aload_n 0, 1) := by decide +kernel
theorem dX5_weirTold_28 : decode cX5_weirTold 28 = .ok (.getfield 24, 3) := by decide +kernel
theorem dX5_weirTold_31 : decode cX5_weirTold 31 = .ok (.getfield 52, 3) := by decide +kernel
theorem dX5_weirTold_34 : decode cX5_weirTold 34 = .ok (.iload_n 1, 1) := by decide +kernel
theorem dX5_weirTold_35 : decode cX5_weirTold 35 = .ok (.iaload, 1) := by decide +kernel
theorem dX5_weirTold_36 : decode cX5_weirTold 36 = .ok (.iastore, 1) := by decide +kernel
theorem dX5_weirTold_37 : decode cX5_weirTold 37 = .ok (.dup, 1) := by decide +kernel
theorem dX5_weirTold_38 : decode cX5_weirTold 38 = .ok (.iconst 3, 1) := by decide +kernel
theorem dX5_weirTold_39 : decode cX5_weirTold 39 = .ok (.aload_n 0, 1) := by decide +kernel
theorem dX5_weirTold_40 : decode cX5_weirTold 40 = .ok (.getfield 16, 3) := by decide +kernel
theorem dX5_weirTold_43 : decode cX5_weirTold 43 = .ok (.iload_n 1, 1) := by decide +kernel
theorem dX5_weirTold_44 : decode cX5_weirTold 44 = .ok (.iaload, 1) := by decide +kernel
theorem dX5_weirTold_45 : decode cX5_weirTold 45 = .ok (.iastore, 1) := by decide +kernel
theorem dX5_weirTold_46 : decode cX5_weirTold 46 = .ok (.dup, 1) := by decide +kernel
theorem dX5_weirTold_47 : decode cX5_weirTold 47 = .ok (.iconst 4, 1) := by decide +kernel
theorem dX5_weirTold_48 : decode cX5_weirTold 48 = .ok (.aload_n 0, 1) := by decide +kernel
theorem dX5_weirTold_49 : decode cX5_weirTold 49 = .ok (.getfield 24, 3) := by decide +kernel
theorem dX5_weirTold_52 : decode cX5_weirTold 52 = .ok (.getfield 55, 3) := by decide +kernel
theorem dX5_weirTold_55 : decode cX5_weirTold 55 = .ok (.iload_n 1, 1) := by decide +kernel
theorem dX5_weirTold_56 : decode cX5_weirTold 56 = .ok (.iaload, 1) := by decide +kernel
theorem dX5_weirTold_57 : decode cX5_weirTold 57 = .ok (.iastore, 1) := by decide +kernel
theorem dX5_weirTold_58 : decode cX5_weirTold 58 = .ok (.dup, 1) := by decide +kernel
theorem dX5_weirTold_59 : decode cX5_weirTold 59 = .ok (.iconst 5, 1) := by decide +kernel
theorem dX5_weirTold_60 : decode cX5_weirTold 60 = .ok (.aload_n 0, 1) := by decide +kernel
theorem dX5_weirTold_61 : decode cX5_weirTold 61 = .ok (.getfield 24, 3) := by decide +kernel
theorem dX5_weirTold_64 : decode cX5_weirTold 64 = .ok (.getfield 68, 3) := by decide +kernel
theorem dX5_weirTold_67 : decode cX5_weirTold 67 = .ok (.iload_n 1, 1) := by decide +kernel
theorem dX5_weirTold_68 : decode cX5_weirTold 68 = .ok (.iaload, 1) := by decide +kernel
theorem dX5_weirTold_69 : decode cX5_weirTold 69 = .ok (.iastore, 1) := by decide +kernel
theorem dX5_weirTold_70 : decode cX5_weirTold 70 = .ok (.dup, 1) := by decide +kernel
theorem dX5_weirTold_71 : decode cX5_weirTold 71 = .ok (.bipush 6, 2) := by decide +kernel
theorem dX5_weirTold_73 : decode cX5_weirTold 73 = .ok (.aload_n 0, 1) := by decide +kernel
theorem dX5_weirTold_74 : decode cX5_weirTold 74 = .ok (.getfield 24, 3) := by decide +kernel
theorem dX5_weirTold_77 : decode cX5_weirTold 77 = .ok (.getfield 65, 3) := by decide +kernel
theorem dX5_weirTold_80 : decode cX5_weirTold 80 = .ok (.iload_n 1, 1) := by decide +kernel
theorem dX5_weirTold_81 : decode cX5_weirTold 81 = .ok (.iaload, 1) := by decide +kernel
theorem dX5_weirTold_82 : decode cX5_weirTold 82 = .ok (.iastore, 1) := by decide +kernel
theorem dX5_weirTold_83 : decode cX5_weirTold 83 = .ok (.dup, 1) := by decide +kernel
theorem dX5_weirTold_84 : decode cX5_weirTold 84 = .ok (.bipush 7, 2) := by decide +kernel
theorem dX5_weirTold_86 : decode cX5_weirTold 86 = .ok (.aload_n 0, 1) := by decide +kernel
theorem dX5_weirTold_87 : decode cX5_weirTold 87 = .ok (.getfield 24, 3) := by decide +kernel
theorem dX5_weirTold_90 : decode cX5_weirTold 90 = .ok (.getfield 84, 3) := by decide +kernel
theorem dX5_weirTold_93 : decode cX5_weirTold 93 = .ok (.iload_n 1, 1) := by decide +kernel
theorem dX5_weirTold_94 : decode cX5_weirTold 94 = .ok (.iaload, 1) := by decide +kernel
theorem dX5_weirTold_95 : decode cX5_weirTold 95 = .ok (.iastore, 1) := by decide +kernel
theorem dX5_weirTold_96 : decode cX5_weirTold 96 = .ok (.astore_n 3, 1) := by decide +kernel
theorem dX5_weirTold_97 : decode cX5_weirTold 97 = .ok (.aload_n 3, 1) := by decide +kernel
theorem dX5_weirTold_98 : decode cX5_weirTold 98 = .ok (.iload_n 2, 1) := by decide +kernel
theorem dX5_weirTold_99 : decode cX5_weirTold 99 = .ok (.iaload, 1) := by decide +kernel
theorem dX5_weirTold_100 : decode cX5_weirTold 100 = .ok (.ireturn, 1) := by decide +kernel
theorem dX5_about_0 : decode cX5_about 0 = .ok (.aload_n 0, 1) := by decide +kernel
theorem dX5_about_1 : decode cX5_about 1 = .ok (.iconst 0, 1) := by decide +kernel
theorem dX5_about_2 : decode cX5_about 2 = .ok (.putfield 31, 3) := by decide +kernel
theorem dX5_about_5 : decode cX5_about 5 = .ok (.aload_n 0, 1) := by decide +kernel
theorem dX5_about_6 : decode cX5_about 6 = .ok (.iload_n 1, 1) := by decide +kernel
theorem dX5_about_7 : decode cX5_about 7 = .ok (.invokevirtual 58, 3) := by decide +kernel
theorem dX5_about_10 : decode cX5_about 10 = .ok (.ifCond .eq 22, 3) := by decide +kernel
theorem dX5_about_13 : decode cX5_about 13 = .ok (.iload_n 2, 1) := by decide +kernel
theorem dX5_about_14 : decode cX5_about 14 = .ok (.iconst 0, 1) := by decide +kernel
theorem dX5_about_15 : decode cX5_about 15 = .ok (.bipush 7, 2) := by decide +kernel
theorem dX5_about_17 : decode cX5_about 17 = .ok (.invokestatic 38, 3) := by decide +kernel
theorem dX5_about_20 : decode cX5_about 20 = .ok (.ifCond .eq 12, 3) := by decide +kernel
theorem dX5_about_23 : decode cX5_about 23 = .ok (.aload_n 0, 1) := by decide +kernel
theorem dX5_about_24 : decode cX5_about 24 = .ok (.iload_n 1, 1) := by decide +kernel
theorem dX5_about_25 : decode cX5_about 25 = .ok (.iload_n 2, 1) := by decide +kernel
theorem dX5_about_26 : decode cX5_about 26 = .ok (.invokevirtual 87, 3) := by decide +kernel
theorem dX5_about_29 : decode cX5_about 29 = .ok (.goto 8, 3) := by decide +kernel
theorem dX5_about_32 : decode cX5_about 32 = .ok (.aload_n 0, 1) := by decide +kernel
theorem dX5_about_33 : decode cX5_about 33 = .ok (.iconst 1, 1) := by decide +kernel
theorem dX5_about_34 : decode cX5_about 34 = .ok (.invokevirtual 45, 3) := by decide +kernel
theorem dX5_about_37 : decode cX5_about 37 = .ok (.ireturn, 1) := by decide +kernel
theorem dX5_nextFor_0 : decode cX5_nextFor 0 = .ok (.aload_n 0, 1) := by decide +kernel
theorem dX5_nextFor_1 : decode cX5_nextFor 1 = .ok (.getfield 24, 3) := by decide +kernel
theorem dX5_nextFor_4 : decode cX5_nextFor 4 = .ok (.getfield 78, 3) := by decide +kernel
theorem dX5_nextFor_7 : decode cX5_nextFor 7 = .ok (.iload_n 1, 1) := by decide +kernel
theorem dX5_nextFor_8 : decode cX5_nextFor 8 = .ok (.iaload, 1) := by decide +kernel
theorem dX5_nextFor_9 : decode cX5_nextFor 9 = .ok (.iconst 1, 1) := by decide +kernel
theorem dX5_nextFor_10 : decode cX5_nextFor 10 = .ok (.iadd, 1) := by decide +kernel
theorem dX5_nextFor_11 : decode cX5_nextFor 11 = .ok (.istore_n 2, 1) := by decide +kernel
theorem dX5_nextFor_12 : decode cX5_nextFor 12 = .ok (.iload_n 2, 1) := by decide +kernel
theorem dX5_nextFor_13 : decode cX5_nextFor 13 = .ok (.bipush 40, 2) := by decide +kernel
theorem dX5_nextFor_15 : decode cX5_nextFor 15 = .ok (.if_icmp .ge 57, 3) := by decide +kernel
theorem dX5_nextFor_18 : decode cX5_nextFor 18 = .ok (.iconst 0, 1) := by decide +kernel
theorem dX5_nextFor_19 : decode cX5_nextFor 19 = .ok (.istore_n 3, 1) := by decide +kernel
theorem dX5_nextFor_20 : decode cX5_nextFor 20 = .ok (.iload_n 3, 1) := by decide +kernel
theorem dX5_nextFor_21 : decode cX5_nextFor 21 = .ok (.aload_n 0, 1) := by decide +kernel
theorem dX5_nextFor_22 : decode cX5_nextFor 22 = .ok (.getfield 35, 3) := by decide +kernel
theorem dX5_nextFor_25 : decode cX5_nextFor 25 = .ok (.if_icmp .ge 41, 3) := by decide +kernel
theorem dX5_nextFor_28 : decode cX5_nextFor 28 = .ok (.aload_n 0, 1) := by decide +kernel
theorem dX5_nextFor_29 : decode cX5_nextFor 29 = .ok (.getfield 13, 3) := by decide +kernel
theorem dX5_nextFor_32 : decode cX5_nextFor 32 = .ok (.iload_n 3, 1) := by decide +kernel
theorem dX5_nextFor_33 : decode cX5_nextFor 33 = .ok (.iaload, 1) := by decide +kernel
theorem dX5_nextFor_34 : decode cX5_nextFor 34 = .ok (.iload_n 2, 1) := by decide +kernel
theorem dX5_nextFor_35 : decode cX5_nextFor 35 = .ok (.if_icmp .ne 25, 3) := by decide +kernel
theorem dX5_nextFor_38 : decode cX5_nextFor 38 = .ok (.aload_n 0, 1) := by decide +kernel
theorem dX5_nextFor_39 : decode cX5_nextFor 39 = .ok (.getfield 24, 3) := by decide +kernel
theorem dX5_nextFor_42 : decode cX5_nextFor 42 = .ok (.iload_n 3, 1) := by decide +kernel
theorem dX5_nextFor_43 : decode cX5_nextFor 43 = .ok (.aload_n 0, 1) := by decide +kernel
theorem dX5_nextFor_44 : decode cX5_nextFor 44 = .ok (.getfield 24, 3) := by decide +kernel
theorem dX5_nextFor_47 : decode cX5_nextFor 47 = .ok (.getfield 75, 3) := by decide +kernel
theorem dX5_nextFor_50 : decode cX5_nextFor 50 = .ok (.iload_n 1, 1) := by decide +kernel
theorem dX5_nextFor_51 : decode cX5_nextFor 51 = .ok (.iaload, 1) := by decide +kernel
theorem dX5_nextFor_52 : decode cX5_nextFor 52 = .ok (.invokevirtual 91, 3) := by decide +kernel
theorem dX5_nextFor_55 : decode cX5_nextFor 55 = .ok (.ifCond .eq 5, 3) := by decide +kernel
theorem dX5_nextFor_58 : decode cX5_nextFor 58 = .ok (.iload_n 3, 1) := by decide +kernel
theorem dX5_nextFor_59 : decode cX5_nextFor 59 = .ok (.ireturn, 1) := by decide +kernel
theorem dX5_nextFor_60 : decode cX5_nextFor 60 = .ok (.iinc 3 1, 3) := by decide +kernel
theorem dX5_nextFor_63 : decode cX5_nextFor 63 = .ok (.goto (-43), 3) := by decide +kernel
theorem dX5_nextFor_66 : decode cX5_nextFor 66 = .ok (.iinc 2 1, 3) := by decide +kernel
theorem dX5_nextFor_69 : decode cX5_nextFor 69 = .ok (.goto (-57), 3) := by decide +kernel
theorem dX5_nextFor_72 : decode cX5_nextFor 72 = .ok (.iconst (-1), 1) := by decide +kernel
theorem dX5_nextFor_73 : decode cX5_nextFor 73 = .ok (.ireturn, 1) := by decide +kernel
theorem dX5_bargeTold_0 : decode cX5_bargeTold 0 = .ok (.iload_n 2, 1) := by decide +kernel
theorem dX5_bargeTold_1 : decode cX5_bargeTold 1 = .ok (.ifCond .ne 15, 3) := by decide +kernel
theorem dX5_bargeTold_4 : decode cX5_bargeTold 4 = .ok (.aload_n 0, 1) := by decide +kernel
theorem dX5_bargeTold_5 : decode cX5_bargeTold 5 = .ok (.getfield 24, 3) := by decide +kernel
theorem dX5_bargeTold_8 : decode cX5_bargeTold 8 = .ok (.getfield 75, 3) := by decide +kernel
theorem dX5_bargeTold_11 : decode cX5_bargeTold 11 = .ok (.iload_n 1, 1) := by decide +kernel
theorem dX5_bargeTold_12 : decode cX5_bargeTold 12 = .ok (.iaload, 1) := by decide +kernel
theorem dX5_bargeTold_13 : decode cX5_bargeTold 13 = .ok (.goto 42, 3) := by decide +kernel
theorem dX5_bargeTold_16 : decode cX5_bargeTold 16 = .ok (.iload_n 2, 1) := by decide +kernel
theorem dX5_bargeTold_17 : decode cX5_bargeTold 17 = .ok (.iconst 1, 1) := by decide +kernel
theorem dX5_bargeTold_18 : decode cX5_bargeTold 18 = .ok (.if_icmp .ne 15, 3) := by decide +kernel
theorem dX5_bargeTold_21 : decode cX5_bargeTold 21 = .ok (.aload_n 0, 1) := by decide +kernel
