theorem dX4_breaks_65 : decode cX4_breaks 65 = .ok (.isub, 1) := by decide +kernel
theorem dX4_breaks_66 : decode cX4_breaks 66 = .ok (.iastore, 1) := by decide +kernel
theorem dX4_breaks_67 : decode cX4_breaks 67 = .ok (.aload_n 0, 1) := by decide +kernel
theorem dX4_breaks_68 : decode cX4_breaks 68 = .ok (.getfield 19, 3) := by decide +kernel
theorem dX4_breaks_71 : decode cX4_breaks 71 = .ok (.iload_n 3, 1) := by decide +kernel
theorem dX4_breaks_72 : decode cX4_breaks 72 = .ok (.iconst 0, 1) := by decide +kernel
theorem dX4_breaks_73 : decode cX4_breaks 73 = .ok (.aload_n 0, 1) := by decide +kernel
theorem dX4_breaks_74 : decode cX4_breaks 74 = .ok (.getfield 19, 3) := by decide +kernel
theorem dX4_breaks_77 : decode cX4_breaks 77 = .ok (.iload_n 3, 1) := by decide +kernel
theorem dX4_breaks_78 : decode cX4_breaks 78 = .ok (.iaload, 1) := by decide +kernel
theorem dX4_breaks_79 : decode cX4_breaks 79 = .ok (.bipush 20, 2) := by decide +kernel
theorem dX4_breaks_81 : decode cX4_breaks 81 = .ok (.isub, 1) := by decide +kernel
theorem dX4_breaks_82 : decode cX4_breaks 82 = .ok (.invokestatic 102, 3) := by decide +kernel
theorem dX4_breaks_85 : decode cX4_breaks 85 = .ok (.iastore, 1) := by decide +kernel
theorem dX4_breaks_86 : decode cX4_breaks 86 = .ok (.iconst 3, 1) := by decide +kernel
theorem dX4_breaks_87 : decode cX4_breaks 87 = .ok (.aload_n 0, 1) := by decide +kernel
theorem dX4_breaks_88 : decode cX4_breaks 88 = .ok (.getfield 22, 3) := by decide +kernel
theorem dX4_breaks_91 : decode cX4_breaks 91 = .ok (.iload_n 3, 1) := by decide +kernel
theorem dX4_breaks_92 : decode cX4_breaks 92 = .ok (.iaload, 1) := by decide +kernel
theorem dX4_breaks_93 : decode cX4_breaks 93 = .ok (.invokestatic 92, 3) := by decide +kernel
theorem dX4_breaks_96 : decode cX4_breaks 96 = .ok (.istore 4, 2) := by decide +kernel
theorem dX4_breaks_98 : decode cX4_breaks 98 = .ok (.aload_n 0, 1) := by decide +kernel
theorem dX4_breaks_99 : decode cX4_breaks 99 = .ok (.getfield 22, 3) := by decide +kernel
theorem dX4_breaks_102 : decode cX4_breaks 102 = .ok (.iload_n 3, 1) := by decide +kernel
theorem dX4_breaks_103 : decode cX4_breaks 103 = .ok (.dup2, 1) := by decide +kernel
theorem dX4_breaks_104 : decode cX4_breaks 104 = .ok (.iaload, 1) := by decide +kernel
theorem dX4_breaks_105 : decode cX4_breaks 105 = .ok (.iload 4, 2) := by decide +kernel
theorem dX4_breaks_107 : decode cX4_breaks 107 = .ok (.isub, 1) := by decide +kernel
theorem dX4_breaks_108 : decode cX4_breaks 108 = .ok (.iastore, 1) := by decide +kernel
theorem dX4_breaks_109 : decode cX4_breaks 109 = .ok (.aload_n 0, 1) := by decide +kernel
theorem dX4_breaks_110 : decode cX4_breaks 110 = .ok (.dup, 1) := by decide +kernel
theorem dX4_breaks_111 : decode cX4_breaks 111 = .ok (.getfield 62, 3) := by decide +kernel
theorem dX4_breaks_114 : decode cX4_breaks 114 = .ok (.iload 4, 2) := by decide +kernel
theorem dX4_breaks_116 : decode cX4_breaks 116 = .ok (.iadd, 1) := by decide +kernel
theorem dX4_breaks_117 : decode cX4_breaks 117 = .ok (.putfield 62, 3) := by decide +kernel
theorem dX4_breaks_120 : decode cX4_breaks 120 = .ok (.aload_n 0, 1) := by decide +kernel
theorem dX4_breaks_121 : decode cX4_breaks 121 = .ok (.getfield 40, 3) := by decide +kernel
theorem dX4_breaks_124 : decode cX4_breaks 124 = .ok (.iload_n 1, 1) := by decide +kernel
theorem dX4_breaks_125 : decode cX4_breaks 125 = .ok (.dup2, 1) := by decide +kernel
theorem dX4_breaks_126 : decode cX4_breaks 126 = .ok (.iaload, 1) := by decide +kernel
theorem dX4_breaks_127 : decode cX4_breaks 127 = .ok (.iconst 1, 1) := by decide +kernel
theorem dX4_breaks_128 : decode cX4_breaks 128 = .ok (.iadd, 1) := by decide +kernel
theorem dX4_breaks_129 : decode cX4_breaks 129 = .ok (.iastore, 1) := by decide +kernel
theorem dX4_breaks_130 : decode cX4_breaks 130 = .ok (.iinc 3 1, 3) := by decide +kernel
theorem dX4_breaks_133 : decode cX4_breaks 133 = .ok (.goto (-129), 3) := by decide +kernel
theorem dX4_breaks_136 : decode cX4_breaks 136 = .ok (.iload_n 2, 1) := by decide +kernel
theorem dX4_breaks_137 : decode cX4_breaks 137 = .ok (.ireturn, 1) := by decide +kernel
theorem dX4_goUp_0 : decode cX4_goUp 0 = .ok (.iconst 0, 1) := by decide +kernel
theorem dX4_goUp_1 : decode cX4_goUp 1 = .ok (.istore_n 2, 1) := by decide +kernel
theorem dX4_goUp_2 : decode cX4_goUp 2 = .ok (.iload_n 2, 1) := by decide +kernel
theorem dX4_goUp_3 : decode cX4_goUp 3 = .ok (.iconst 5, 1) := by decide +kernel
theorem dX4_goUp_4 : decode cX4_goUp 4 = .ok (.if_icmp .ge 39, 3) := by decide +kernel
theorem dX4_goUp_7 : decode cX4_goUp 7 = .ok (.aload_n 0, 1) := by decide +kernel
theorem dX4_goUp_8 : decode cX4_goUp 8 = .ok (.getfield 37, 3) := by decide +kernel
theorem dX4_goUp_11 : decode cX4_goUp 11 = .ok (.iload_n 1, 1) := by decide +kernel
theorem dX4_goUp_12 : decode cX4_goUp 12 = .ok (.iaload, 1) := by decide +kernel
theorem dX4_goUp_13 : decode cX4_goUp 13 = .ok (.bipush 39, 2) := by decide +kernel
theorem dX4_goUp_15 : decode cX4_goUp 15 = .ok (.if_icmp .ge 28, 3) := by decide +kernel
theorem dX4_goUp_18 : decode cX4_goUp 18 = .ok (.aload_n 0, 1) := by decide +kernel
theorem dX4_goUp_19 : decode cX4_goUp 19 = .ok (.getfield 37, 3) := by decide +kernel
theorem dX4_goUp_22 : decode cX4_goUp 22 = .ok (.iload_n 1, 1) := by decide +kernel
theorem dX4_goUp_23 : decode cX4_goUp 23 = .ok (.dup2, 1) := by decide +kernel
theorem dX4_goUp_24 : decode cX4_goUp 24 = .ok (.iaload, 1) := by decide +kernel
theorem dX4_goUp_25 : decode cX4_goUp 25 = .ok (.iconst 1, 1) := by decide +kernel
theorem dX4_goUp_26 : decode cX4_goUp 26 = .ok (.iadd, 1) := by decide +kernel
theorem dX4_goUp_27 : decode cX4_goUp 27 = .ok (.iastore, 1) := by decide +kernel
theorem dX4_goUp_28 : decode cX4_goUp 28 = .ok (.aload_n 0, 1) := by decide +kernel
theorem dX4_goUp_29 : decode cX4_goUp 29 = .ok (.iload_n 1, 1) := by decide +kernel
theorem dX4_goUp_30 : decode cX4_goUp 30 = .ok (.invokevirtual 105, 3) := by decide +kernel
theorem dX4_goUp_33 : decode cX4_goUp 33 = .ok (.ifCond .eq 4, 3) := by decide +kernel
theorem dX4_goUp_36 : decode cX4_goUp 36 = .ok (.return_, 1) := by decide +kernel
theorem dX4_goUp_37 : decode cX4_goUp 37 = .ok (.iinc 2 1, 3) := by decide +kernel
theorem dX4_goUp_40 : decode cX4_goUp 40 = .ok (.goto (-38), 3) := by decide +kernel
theorem dX4_goUp_43 : decode cX4_goUp 43 = .ok (.return_, 1) := by decide +kernel
theorem dX4_leave_0 : decode cX4_leave 0 = .ok (.iconst 0, 1) := by decide +kernel
theorem dX4_leave_1 : decode cX4_leave 1 = .ok (.istore_n 1, 1) := by decide +kernel
theorem dX4_leave_2 : decode cX4_leave 2 = .ok (.iconst 0, 1) := by decide +kernel
theorem dX4_leave_3 : decode cX4_leave 3 = .ok (.istore_n 2, 1) := by decide +kernel
theorem dX4_leave_4 : decode cX4_leave 4 = .ok (.iload_n 2, 1) := by decide +kernel
theorem dX4_leave_5 : decode cX4_leave 5 = .ok (.aload_n 0, 1) := by decide +kernel
theorem dX4_leave_6 : decode cX4_leave 6 = .ok (.getfield 56, 3) := by decide +kernel
theorem dX4_leave_9 : decode cX4_leave 9 = .ok (.if_icmp .ge 84, 3) := by decide +kernel
theorem dX4_leave_12 : decode cX4_leave 12 = .ok (.aload_n 0, 1) := by decide +kernel
theorem dX4_leave_13 : decode cX4_leave 13 = .ok (.getfield 37, 3) := by decide +kernel
theorem dX4_leave_16 : decode cX4_leave 16 = .ok (.iload_n 2, 1) := by decide +kernel
theorem dX4_leave_17 : decode cX4_leave 17 = .ok (.iaload, 1) := by decide +kernel
theorem dX4_leave_18 : decode cX4_leave 18 = .ok (.bipush 39, 2) := by decide +kernel
theorem dX4_leave_20 : decode cX4_leave 20 = .ok (.if_icmp .ne 16, 3) := by decide +kernel
theorem dX4_leave_23 : decode cX4_leave 23 = .ok (.aload_n 0, 1) := by decide +kernel
theorem dX4_leave_24 : decode cX4_leave 24 = .ok (.dup, 1) := by decide +kernel
theorem dX4_leave_25 : decode cX4_leave 25 = .ok (.getfield 59, 3) := by decide +kernel
theorem dX4_leave_28 : decode cX4_leave 28 = .ok (.iconst 1, 1) := by decide +kernel
theorem dX4_leave_29 : decode cX4_leave 29 = .ok (.iadd, 1) := by decide +kernel
theorem dX4_leave_30 : decode cX4_leave 30 = .ok (.putfield 59, 3) := by decide +kernel
theorem dX4_leave_33 : decode cX4_leave 33 = .ok (.goto 54, 3) := by decide +kernel
theorem dX4_leave_36 : decode cX4_leave 36 = .ok (.aload_n 0, 1) := by decide +kernel
theorem dX4_leave_37 : decode cX4_leave 37 = .ok (.getfield 34, 3) := by decide +kernel
theorem dX4_leave_40 : decode cX4_leave 40 = .ok (.iload_n 1, 1) := by decide +kernel
theorem dX4_leave_41 : decode cX4_leave 41 = .ok (.aload_n 0, 1) := by decide +kernel
theorem dX4_leave_42 : decode cX4_leave 42 = .ok (.getfield 34, 3) := by decide +kernel
theorem dX4_leave_45 : decode cX4_leave 45 = .ok (.iload_n 2, 1) := by decide +kernel
theorem dX4_leave_46 : decode cX4_leave 46 = .ok (.iaload, 1) := by decide +kernel
theorem dX4_leave_47 : decode cX4_leave 47 = .ok (.iastore, 1) := by decide +kernel
theorem dX4_leave_48 : decode cX4_leave 48 = .ok (.aload_n 0, 1) := by decide +kernel
theorem dX4_leave_49 : decode cX4_leave 49 = .ok (.getfield 37, 3) := by decide +kernel
theorem dX4_leave_52 : decode cX4_leave 52 = .ok (.iload_n 1, 1) := by decide +kernel
theorem dX4_leave_53 : decode cX4_leave 53 = .ok (.aload_n 0, 1) := by decide +kernel
theorem dX4_leave_54 : decode cX4_leave 54 = .ok (.getfield 37, 3) := by decide +kernel
theorem dX4_leave_57 : decode cX4_leave 57 = .ok (.iload_n 2, 1) := by decide +kernel
theorem dX4_leave_58 : decode cX4_leave 58 = .ok (.iaload, 1) := by decide +kernel
theorem dX4_leave_59 : decode cX4_leave 59 = .ok (.iastore, 1) := by decide +kernel
theorem dX4_leave_60 : decode cX4_leave 60 = .ok (.aload_n 0, 1) := by decide +kernel
theorem dX4_leave_61 : decode cX4_leave 61 = .ok (.getfield 40, 3) := by decide +kernel
theorem dX4_leave_64 : decode cX4_leave 64 = .ok (.iload_n 1, 1) := by decide +kernel
theorem dX4_leave_65 : decode cX4_leave 65 = .ok (.aload_n 0, 1) := by decide +kernel
theorem dX4_leave_66 : decode cX4_leave 66 = .ok (.getfield 40, 3) := by decide +kernel
theorem dX4_leave_69 : decode cX4_leave 69 = .ok (.iload_n 2, 1) := by decide +kernel
theorem dX4_leave_70 : decode cX4_leave 70 = .ok (.iaload, 1) := by decide +kernel
theorem dX4_leave_71 : decode cX4_leave 71 = .ok (.iastore, 1) := by decide +kernel
theorem dX4_leave_72 : decode cX4_leave 72 = .ok (.aload_n 0, 1) := by decide +kernel
theorem dX4_leave_73 : decode cX4_leave 73 = .ok (.getfield 43, 3) := by decide +kernel
theorem dX4_leave_76 : decode cX4_leave 76 = .ok (.iload_n 1, 1) := by decide +kernel
theorem dX4_leave_77 : decode cX4_leave 77 = .ok (.aload_n 0, 1) := by decide +kernel
theorem dX4_leave_78 : decode cX4_leave 78 = .ok (.getfield 43, 3) := by decide +kernel
theorem dX4_leave_81 : decode cX4_leave 81 = .ok (.iload_n 2, 1) := by decide +kernel
theorem dX4_leave_82 : decode cX4_leave 82 = .ok (.iaload, 1) := by decide +kernel
theorem dX4_leave_83 : decode cX4_leave 83 = .ok (.iastore, 1) := by decide +kernel
theorem dX4_leave_84 : decode cX4_leave 84 = .ok (.iinc 1 1, 3) := by decide +kernel
theorem dX4_leave_87 : decode cX4_leave 87 = .ok (.iinc 2 1, 3) := by decide +kernel
theorem dX4_leave_90 : decode cX4_leave 90 = .ok (.goto (-86), 3) := by decide +kernel
theorem dX4_leave_93 : decode cX4_leave 93 = .ok (.aload_n 0, 1) := by decide +kernel
theorem dX4_leave_94 : decode cX4_leave 94 = .ok (.iload_n 1, 1) := by decide +kernel
theorem dX4_leave_95 : decode cX4_leave 95 = .ok (.putfield 56, 3) := by decide +kernel
theorem dX4_leave_98 : decode cX4_leave 98 = .ok (.return_, 1) := by decide +kernel
theorem dX4_payRent_0 : decode cX4_payRent 0 = .ok (.aload_n 0, 1) := by decide +kernel
theorem dX4_payRent_1 : decode cX4_payRent 1 = .ok (.getfield 22, 3) := by decide +kernel
theorem dX4_payRent_4 : decode cX4_payRent 4 = .ok (.iload_n 1, 1) := by decide +kernel
theorem dX4_payRent_5 : decode cX4_payRent 5 = .ok (.iaload, 1) := by decide +kernel
theorem dX4_payRent_6 : decode cX4_payRent 6 = .ok (.aload_n 0, 1) := by decide +kernel
theorem dX4_payRent_7 : decode cX4_payRent 7 = .ok (.getfield 3, 3) := by decide +kernel
theorem dX4_payRent_10 : decode cX4_payRent 10 = .ok (.getfield 108, 3) := by decide +kernel
theorem dX4_payRent_13 : decode cX4_payRent 13 = .ok (.iload_n 1, 1) := by decide +kernel
theorem dX4_payRent_14 : decode cX4_payRent 14 = .ok (.iaload, 1) := by decide +kernel
theorem dX4_payRent_15 : decode cX4_payRent 15 = .ok (.if_icmp .lt 47, 3) := by decide +kernel
theorem dX4_payRent_18 : decode cX4_payRent 18 = .ok (.aload_n 0, 1) := by decide +kernel
theorem dX4_payRent_19 : decode cX4_payRent 19 = .ok (.getfield 22, 3) := by decide +kernel
theorem dX4_payRent_22 : decode cX4_payRent 22 = .ok (.iload_n 1, 1) := by decide +kernel
theorem dX4_payRent_23 : decode cX4_payRent 23 = .ok (.dup2, 1) := by decide +kernel
theorem dX4_payRent_24 : decode cX4_payRent 24 = .ok (.iaload, 1) := by decide +kernel
theorem dX4_payRent_25 : decode cX4_payRent 25 = .ok (.aload_n 0, 1) := by decide +kernel
theorem dX4_payRent_26 : decode cX4_payRent 26 = .ok (.getfield 3, 3) := by decide +kernel
theorem dX4_payRent_29 : decode cX4_payRent 29 = .ok (.getfield 108, 3) := by decide +kernel
theorem dX4_payRent_32 : decode cX4_payRent 32 = .ok (.iload_n 1, 1) := by decide +kernel
theorem dX4_payRent_33 : decode cX4_payRent 33 = .ok (.iaload, 1) := by decide +kernel
theorem dX4_payRent_34 : decode cX4_payRent 34 = .ok (.isub, 1) := by decide +kernel
theorem dX4_payRent_35 : decode cX4_payRent 35 = .ok (.iastore, 1) := by decide +kernel
theorem dX4_payRent_36 : decode cX4_payRent 36 = .ok (.aload_n 0, 1) := by decide +kernel
theorem dX4_payRent_37 : decode cX4_payRent 37 = .ok (.dup, 1) := by decide +kernel
theorem dX4_payRent_38 : decode cX4_payRent 38 = .ok (.getfield 65, 3) := by decide +kernel
theorem dX4_payRent_41 : decode cX4_payRent 41 = .ok (.aload_n 0, 1) := by decide +kernel
theorem dX4_payRent_42 : decode cX4_payRent 42 = .ok (.getfield 3, 3) := by decide +kernel
theorem dX4_payRent_45 : decode cX4_payRent 45 = .ok (.getfield 108, 3) := by decide +kernel
theorem dX4_payRent_48 : decode cX4_payRent 48 = .ok (.iload_n 1, 1) := by decide +kernel
theorem dX4_payRent_49 : decode cX4_payRent 49 = .ok (.iaload, 1) := by decide +kernel
theorem dX4_payRent_50 : decode cX4_payRent 50 = .ok (.iadd, 1) := by decide +kernel
theorem dX4_payRent_51 : decode cX4_payRent 51 = .ok (.putfield 65, 3) := by decide +kernel
theorem dX4_payRent_54 : decode cX4_payRent 54 = .ok (.aload_n 0, 1) := by decide +kernel
theorem dX4_payRent_55 : decode cX4_payRent 55 = .ok (.getfield 31, 3) := by decide +kernel
theorem dX4_payRent_58 : decode cX4_payRent 58 = .ok (.iload_n 1, 1) := by decide +kernel
theorem dX4_payRent_59 : decode cX4_payRent 59 = .ok (.iconst 0, 1) := by decide +kernel
theorem dX4_payRent_60 : decode cX4_payRent 60 = .ok (.iastore, 1) := by decide +kernel
theorem dX4_payRent_61 : decode cX4_payRent 61 = .ok (.return_, 1) := by decide +kernel
theorem dX4_payRent_62 : decode cX4_payRent 62 = .ok (.aload_n 0, 1) := by decide +kernel
theorem dX4_payRent_63 : decode cX4_payRent 63 = .ok (.getfield 31, 3) := by decide +kernel
theorem dX4_payRent_66 : decode cX4_payRent 66 = .ok (.iload_n 1, 1) := by decide +kernel
theorem dX4_payRent_67 : decode cX4_payRent 67 = .ok (.dup2, 1) := by decide +kernel
theorem dX4_payRent_68 : decode cX4_payRent 68 = .ok (.iaload, 1) := by decide +kernel
theorem dX4_payRent_69 : decode cX4_payRent 69 = .ok (.iconst 1, 1) := by decide +kernel
theorem dX4_payRent_70 : decode cX4_payRent 70 = .ok (.iadd, 1) := by decide +kernel
theorem dX4_payRent_71 : decode cX4_payRent 71 = .ok (.iastore, 1) := by decide +kernel
theorem dX4_payRent_72 : decode cX4_payRent 72 = .ok (.aload_n 0, 1) := by decide +kernel
theorem dX4_payRent_73 : decode cX4_payRent 73 = .ok (.getfield 31, 3) := by decide +kernel
theorem dX4_payRent_76 : decode cX4_payRent 76 = .ok (.iload_n 1, 1) := by decide +kernel
theorem dX4_payRent_77 : decode cX4_payRent 77 = .ok (.iaload, 1) := by decide +kernel
theorem dX4_payRent_78 : decode cX4_payRent 78 = .ok (.iconst 3, 1) := by decide +kernel
theorem dX4_payRent_79 : decode cX4_payRent 79 = .ok (.if_icmp .ne 10, 3) := by decide +kernel
theorem dX4_payRent_82 : decode cX4_payRent 82 = .ok (.aload_n 0, 1) := by decide +kernel
theorem dX4_payRent_83 : decode cX4_payRent 83 = .ok (.getfield 25, 3) := by decide +kernel
theorem dX4_payRent_86 : decode cX4_payRent 86 = .ok (.iload_n 1, 1) := by decide +kernel
theorem dX4_payRent_87 : decode cX4_payRent 87 = .ok (.iconst 0, 1) := by decide +kernel
theorem dX4_payRent_88 : decode cX4_payRent 88 = .ok (.iastore, 1) := by decide +kernel
theorem dX4_payRent_89 : decode cX4_payRent 89 = .ok (.return_, 1) := by decide +kernel
theorem dX4_pass_0 : decode cX4_pass 0 = .ok (.aload_n 0, 1) := by decide +kernel
theorem dX4_pass_1 : decode cX4_pass 1 = .ok (.iconst (-1), 1) := by decide +kernel
theorem dX4_pass_2 : decode cX4_pass 2 = .ok (.invokevirtual 111, 3) := by decide +kernel
theorem dX4_pass_5 : decode cX4_pass 5 = .ok (.pop, 1) := by decide +kernel
theorem dX4_pass_6 : decode cX4_pass 6 = .ok (.iconst 0, 1) := by decide +kernel
theorem dX4_pass_7 : decode cX4_pass 7 = .ok (.istore_n 1, 1) := by decide +kernel
theorem dX4_pass_8 : decode cX4_pass 8 = .ok (.iload_n 1, 1) := by decide +kernel
theorem dX4_pass_9 : decode cX4_pass 9 = .ok (.aload_n 0, 1) := by decide +kernel
theorem dX4_pass_10 : decode cX4_pass 10 = .ok (.getfield 56, 3) := by decide +kernel
theorem dX4_pass_13 : decode cX4_pass 13 = .ok (.if_icmp .ge 14, 3) := by decide +kernel
theorem dX4_pass_16 : decode cX4_pass 16 = .ok (.aload_n 0, 1) := by decide +kernel
theorem dX4_pass_17 : decode cX4_pass 17 = .ok (.iload_n 1, 1) := by decide +kernel
theorem dX4_pass_18 : decode cX4_pass 18 = .ok (.invokevirtual 115, 3) := by decide +kernel
theorem dX4_pass_21 : decode cX4_pass 21 = .ok (.iinc 1 1, 3) := by decide +kernel
theorem dX4_pass_24 : decode cX4_pass 24 = .ok (.goto (-16), 3) := by decide +kernel
theorem dX4_pass_27 : decode cX4_pass 27 = .ok (.aload_n 0, 1) := by decide +kernel
theorem dX4_pass_28 : decode cX4_pass 28 = .ok (.invokevirtual 119, 3) := by decide +kernel
theorem dX4_pass_31 : decode cX4_pass 31 = .ok (.iconst 0, 1) := by decide +kernel
theorem dX4_pass_32 : decode cX4_pass 32 = .ok (.istore_n 1, 1) := by decide +kernel
theorem dX4_pass_33 : decode cX4_pass 33 = .ok (.iload_n 1, 1) := by decide +kernel
theorem dX4_pass_34 : decode cX4_pass 34 = .ok (.aload_n 0, 1) := by decide +kernel
theorem dX4_pass_35 : decode cX4_pass 35 = .ok (.getfield 3, 3) := by decide +kernel
theorem dX4_pass_38 : decode cX4_pass 38 = .ok (.getfield 86, 3) := by decide +kernel
theorem dX4_pass_41 : decode cX4_pass 41 = .ok (.if_icmp .ge 47, 3) := by decide +kernel
theorem dX4_pass_44 : decode cX4_pass 44 = .ok (.aload_n 0, 1) := by decide +kernel
theorem dX4_pass_45 : decode cX4_pass 45 = .ok (.iload_n 1, 1) := by decide +kernel
theorem dX4_pass_46 : decode cX4_pass 46 = .ok (.invokevirtual 79, 3) := by decide +kernel
theorem dX4_pass_49 : decode cX4_pass 49 = .ok (.ifCond .eq 33, 3) := by decide +kernel
theorem dX4_pass_52 : decode cX4_pass 52 = .ok (.aload_n 0, 1) := by decide +kernel
theorem dX4_pass_53 : decode cX4_pass 53 = .ok (.getfield 19, 3) := by decide +kernel
theorem dX4_pass_56 : decode cX4_pass 56 = .ok (.iload_n 1, 1) := by decide +kernel
theorem dX4_pass_57 : decode cX4_pass 57 = .ok (.iconst 0, 1) := by decide +kernel
theorem dX4_pass_58 : decode cX4_pass 58 = .ok (.aload_n 0, 1) := by decide +kernel
theorem dX4_pass_59 : decode cX4_pass 59 = .ok (.getfield 19, 3) := by decide +kernel
theorem dX4_pass_62 : decode cX4_pass 62 = .ok (.iload_n 1, 1) := by decide +kernel
theorem dX4_pass_63 : decode cX4_pass 63 = .ok (.iaload, 1) := by decide +kernel
theorem dX4_pass_64 : decode cX4_pass 64 = .ok (.aload_n 0, 1) := by decide +kernel
theorem dX4_pass_65 : decode cX4_pass 65 = .ok (.invokevirtual 75, 3) := by decide +kernel
theorem dX4_pass_68 : decode cX4_pass 68 = .ok (.iconst 1, 1) := by decide +kernel
theorem dX4_pass_69 : decode cX4_pass 69 = .ok (.if_icmp .ne 7, 3) := by decide +kernel
theorem dX4_pass_72 : decode cX4_pass 72 = .ok (.iconst 1, 1) := by decide +kernel
theorem dX4_pass_73 : decode cX4_pass 73 = .ok (.goto 4, 3) := by decide +kernel
theorem dX4_pass_76 : decode cX4_pass 76 = .ok (.iconst 3, 1) := by decide +kernel
theorem dX4_pass_77 : decode cX4_pass 77 = .ok (.isub, 1) := by decide +kernel
theorem dX4_pass_78 : decode cX4_pass 78 = .ok (.invokestatic 102, 3) := by decide +kernel
theorem dX4_pass_81 : decode cX4_pass 81 = .ok (.iastore, 1) := by decide +kernel
theorem dX4_pass_82 : decode cX4_pass 82 = .ok (.iinc 1 1, 3) := by decide +kernel
theorem dX4_pass_85 : decode cX4_pass 85 = .ok (.goto (-52), 3) := by decide +kernel
theorem dX4_pass_88 : decode cX4_pass 88 = .ok (.iconst 0, 1) := by decide +kernel
theorem dX4_pass_89 : decode cX4_pass 89 = .ok (.istore_n 1, 1) := by decide +kernel
theorem dX4_pass_90 : decode cX4_pass 90 = .ok (.iload_n 1, 1) := by decide +kernel
theorem dX4_pass_91 : decode cX4_pass 91 = .ok (.aload_n 0, 1) := by decide +kernel
theorem dX4_pass_92 : decode cX4_pass 92 = .ok (.getfield 3, 3) := by decide +kernel
theorem dX4_pass_95 : decode cX4_pass 95 = .ok (.getfield 86, 3) := by decide +kernel
theorem dX4_pass_98 : decode cX4_pass 98 = .ok (.if_icmp .ge 34, 3) := by decide +kernel
theorem dX4_pass_101 : decode cX4_pass 101 = .ok (.aload_n 0, 1) := by decide +kernel
theorem dX4_pass_102 : decode cX4_pass 102 = .ok (.getfield 52, 3) := by decide +kernel
theorem dX4_pass_105 : decode cX4_pass 105 = .ok (.bipush 14, 2) := by decide +kernel
theorem dX4_pass_107 : decode cX4_pass 107 = .ok (.irem, 1) := by decide +kernel
theorem dX4_pass_108 : decode cX4_pass 108 = .ok (.bipush 13, 2) := by decide +kernel
theorem dX4_pass_110 : decode cX4_pass 110 = .ok (.if_icmp .ne 22, 3) := by decide +kernel
theorem dX4_pass_113 : decode cX4_pass 113 = .ok (.aload_n 0, 1) := by decide +kernel
theorem dX4_pass_114 : decode cX4_pass 114 = .ok (.iload_n 1, 1) := by decide +kernel
theorem dX4_pass_115 : decode cX4_pass 115 = .ok (.invokevirtual 79, 3) := by decide +kernel
theorem dX4_pass_118 : decode cX4_pass 118 = .ok (.ifCond .eq 8, 3) := by decide +kernel
theorem dX4_pass_121 : decode cX4_pass 121 = .ok (.aload_n 0, 1) := by decide +kernel
theorem dX4_pass_122 : decode cX4_pass 122 = .ok (.iload_n 1, 1) := by decide +kernel
theorem dX4_pass_123 : decode cX4_pass 123 = .ok (.invokevirtual 122, 3) := by decide +kernel
theorem dX4_pass_126 : decode cX4_pass 126 = .ok (.iinc 1 1, 3) := by decide +kernel
theorem dX4_pass_129 : decode cX4_pass 129 = .ok (.goto (-39), 3) := by decide +kernel
theorem dX4_pass_132 : decode cX4_pass 132 = .ok (.aload_n 0, 1) := by decide +kernel
theorem dX4_pass_133 : decode cX4_pass 133 = .ok (.dup, 1) := by decide +kernel
theorem dX4_pass_134 : decode cX4_pass 134 = .ok (.getfield 52, 3) := by decide +kernel
theorem dX4_pass_137 : decode cX4_pass 137 = .ok (.iconst 1, 1) := by decide +kernel
theorem dX4_pass_138 : decode cX4_pass 138 = .ok (.iadd, 1) := by decide +kernel
theorem dX4_pass_139 : decode cX4_pass 139 = .ok (.putfield 52, 3) := by decide +kernel
theorem dX4_pass_142 : decode cX4_pass 142 = .ok (.return_, 1) := by decide +kernel
theorem dX4_pass__0 : decode cX4_pass_ 0 = .ok (.iconst 0, 1) := by decide +kernel
theorem dX4_pass__1 : decode cX4_pass_ 1 = .ok (.istore_n 2, 1) := by decide +kernel
theorem dX4_pass__2 : decode cX4_pass_ 2 = .ok (.iload_n 2, 1) := by decide +kernel
theorem dX4_pass__3 : decode cX4_pass_ 3 = .ok (.iload_n 1, 1) := by decide +kernel
theorem dX4_pass__4 : decode cX4_pass_ 4 = .ok (.if_icmp .ge 13, 3) := by decide +kernel
theorem dX4_pass__7 : decode cX4_pass_ 7 = .ok (.aload_n 0, 1) := by decide +kernel
theorem dX4_pass__8 : decode cX4_pass_ 8 = .ok (.invokevirtual 125, 3) := by decide +kernel
theorem dX4_pass__11 : decode cX4_pass_ 11 = .ok (.iinc 2 1, 3) := by decide +kernel
theorem dX4_pass__14 : decode cX4_pass_ 14 = .ok (.goto (-12), 3) := by decide +kernel
theorem dX4_pass__17 : decode cX4_pass_ 17 = .ok (.return_, 1) := by decide +kernel
theorem dX4_held_0 : decode cX4_held 0 = .ok (.iconst 0, 1) := by decide +kernel
theorem dX4_held_1 : decode cX4_held 1 = .ok (.istore_n 1, 1) := by decide +kernel
theorem dX4_held_2 : decode cX4_held 2 = .ok (.iconst 0, 1) := by decide +kernel
theorem dX4_held_3 : decode cX4_held 3 = .ok (.istore_n 2, 1) := by decide +kernel
theorem dX4_held_4 : decode cX4_held 4 = .ok (.iload_n 2, 1) := by decide +kernel
theorem dX4_held_5 : decode cX4_held 5 = .ok (.aload_n 0, 1) := by decide +kernel
theorem dX4_held_6 : decode cX4_held 6 = .ok (.getfield 3, 3) := by decide +kernel
theorem dX4_held_9 : decode cX4_held 9 = .ok (.getfield 86, 3) := by decide +kernel
theorem dX4_held_12 : decode cX4_held 12 = .ok (.if_icmp .ge 25, 3) := by decide +kernel
theorem dX4_held_15 : decode cX4_held 15 = .ok (.iload_n 1, 1) := by decide +kernel
theorem dX4_held_16 : decode cX4_held 16 = .ok (.aload_n 0, 1) := by decide +kernel
theorem dX4_held_17 : decode cX4_held 17 = .ok (.iload_n 2, 1) := by decide +kernel
theorem dX4_held_18 : decode cX4_held 18 = .ok (.invokevirtual 79, 3) := by decide +kernel
theorem dX4_held_21 : decode cX4_held 21 = .ok (.ifCond .eq 7, 3) := by decide +kernel
theorem dX4_held_24 : decode cX4_held 24 = .ok (.iconst 1, 1) := by decide +kernel
theorem dX4_held_25 : decode cX4_held 25 = .ok (.goto 4, 3) := by decide +kernel
theorem dX4_held_28 : decode cX4_held 28 = .ok (.iconst 0, 1) := by decide +kernel
theorem dX4_held_29 : decode cX4_held 29 = .ok (.iadd, 1) := by decide +kernel
theorem dX4_held_30 : decode cX4_held 30 = .ok (.istore_n 1, 1) := by decide +kernel
theorem dX4_held_31 : decode cX4_held 31 = .ok (.iinc 2 1, 3) := by decide +kernel
theorem dX4_held_34 : decode cX4_held 34 = .ok (.goto (-30), 3) := by decide +kernel
theorem dX4_held_37 : decode cX4_held 37 = .ok (.iload_n 1, 1) := by decide +kernel
theorem dX4_held_38 : decode cX4_held 38 = .ok (.ireturn, 1) := by decide +kernel
theorem dX4_allEels_0 : decode cX4_allEels 0 = .ok (.iconst 0, 1) := by decide +kernel
theorem dX4_allEels_1 : decode cX4_allEels 1 = .ok (.istore_n 1, 1) := by decide +kernel
theorem dX4_allEels_2 : decode cX4_allEels 2 = .ok (.iconst 0, 1) := by decide +kernel
theorem dX4_allEels_3 : decode cX4_allEels 3 = .ok (.istore_n 2, 1) := by decide +kernel
theorem dX4_allEels_4 : decode cX4_allEels 4 = .ok (.iload_n 2, 1) := by decide +kernel
theorem dX4_allEels_5 : decode cX4_allEels 5 = .ok (.aload_n 0, 1) := by decide +kernel
theorem dX4_allEels_6 : decode cX4_allEels 6 = .ok (.getfield 3, 3) := by decide +kernel
theorem dX4_allEels_9 : decode cX4_allEels 9 = .ok (.getfield 86, 3) := by decide +kernel
theorem dX4_allEels_12 : decode cX4_allEels 12 = .ok (.if_icmp .ge 18, 3) := by decide +kernel
theorem dX4_allEels_15 : decode cX4_allEels 15 = .ok (.iload_n 1, 1) := by decide +kernel
theorem dX4_allEels_16 : decode cX4_allEels 16 = .ok (.aload_n 0, 1) := by decide +kernel
theorem dX4_allEels_17 : decode cX4_allEels 17 = .ok (.getfield 25, 3) := by decide +kernel
theorem dX4_allEels_20 : decode cX4_allEels 20 = .ok (.iload_n 2, 1) := by decide +kernel
theorem dX4_allEels_21 : decode cX4_allEels 21 = .ok (.iaload, 1) := by decide +kernel
theorem dX4_allEels_22 : decode cX4_allEels 22 = .ok (.iadd, 1) := by decide +kernel
theorem dX4_allEels_23 : decode cX4_allEels 23 = .ok (.istore_n 1, 1) := by decide +kernel
theorem dX4_allEels_24 : decode cX4_allEels 24 = .ok (.iinc 2 1, 3) := by decide +kernel
theorem dX4_allEels_27 : decode cX4_allEels 27 = .ok (.goto (-23), 3) := by decide +kernel
theorem dX4_allEels_30 : decode cX4_allEels 30 = .ok (.iload_n 1, 1) := by decide +kernel
theorem dX4_allEels_31 : decode cX4_allEels 31 = .ok (.ireturn, 1) := by decide +kernel
theorem dX4_counted_0 : decode cX4_counted 0 = .ok (.bipush 10, 2) := by decide +kernel
theorem dX4_counted_2 : decode cX4_counted 2 = .ok (.newarray .int, 2) := by decide +kernel
theorem dX4_counted_4 : decode cX4_counted 4 = .ok (.dup, 1) := by decide +kernel
theorem dX4_counted_5 : decode cX4_counted 5 = .ok (.iconst 0, 1) := by decide +kernel
theorem dX4_counted_6 : decode cX4_counted 6 = .ok (.aload_n 0, 1) := by decide +kernel
theorem dX4_counted_7 : decode cX4_counted 7 = .ok (.getfield 52, 3) := by decide +kernel
theorem dX4_counted_10 : decode cX4_counted 10 = .ok (.iastore, 1) := by decide +kernel
theorem dX4_counted_11 : decode cX4_counted 11 = .ok (.dup, 1) := by decide +kernel
