theorem dX5_advise_61 : decode cX5_advise 61 = .ok (.pop, 1) := by decide +kernel
theorem dX5_advise_62 : decode cX5_advise 62 = .ok (.aload_n 0, 1) := by decide +kernel
theorem dX5_advise_63 : decode cX5_advise 63 = .ok (.getfield 28, 3) := by decide +kernel
theorem dX5_advise_66 : decode cX5_advise 66 = .ok (.getfield 49, 3) := by decide +kernel
theorem dX5_advise_69 : decode cX5_advise 69 = .ok (.iload_n 1, 1) := by decide +kernel
theorem dX5_advise_70 : decode cX5_advise 70 = .ok (.iload 5, 2) := by decide +kernel
theorem dX5_advise_72 : decode cX5_advise 72 = .ok (.iastore, 1) := by decide +kernel
theorem dX5_advise_73 : decode cX5_advise 73 = .ok (.aload_n 0, 1) := by decide +kernel
theorem dX5_advise_74 : decode cX5_advise 74 = .ok (.getfield 28, 3) := by decide +kernel
theorem dX5_advise_77 : decode cX5_advise 77 = .ok (.iload_n 2, 1) := by decide +kernel
theorem dX5_advise_78 : decode cX5_advise 78 = .ok (.invokevirtual 110, 3) := by decide +kernel
theorem dX5_advise_81 : decode cX5_advise 81 = .ok (.aload_n 0, 1) := by decide +kernel
theorem dX5_advise_82 : decode cX5_advise 82 = .ok (.getfield 28, 3) := by decide +kernel
theorem dX5_advise_85 : decode cX5_advise 85 = .ok (.getfield 68, 3) := by decide +kernel
theorem dX5_advise_88 : decode cX5_advise 88 = .ok (.iload_n 1, 1) := by decide +kernel
theorem dX5_advise_89 : decode cX5_advise 89 = .ok (.iaload, 1) := by decide +kernel
theorem dX5_advise_90 : decode cX5_advise 90 = .ok (.iload 4, 2) := by decide +kernel
theorem dX5_advise_92 : decode cX5_advise 92 = .ok (.if_icmp .gt 6, 3) := by decide +kernel
theorem dX5_advise_95 : decode cX5_advise 95 = .ok (.goto 17, 3) := by decide +kernel
theorem dX5_advise_98 : decode cX5_advise 98 = .ok (.aload_n 0, 1) := by decide +kernel
theorem dX5_advise_99 : decode cX5_advise 99 = .ok (.getfield 28, 3) := by decide +kernel
theorem dX5_advise_102 : decode cX5_advise 102 = .ok (.getfield 68, 3) := by decide +kernel
theorem dX5_advise_105 : decode cX5_advise 105 = .ok (.iload_n 1, 1) := by decide +kernel
theorem dX5_advise_106 : decode cX5_advise 106 = .ok (.iaload, 1) := by decide +kernel
theorem dX5_advise_107 : decode cX5_advise 107 = .ok (.istore 4, 2) := by decide +kernel
theorem dX5_advise_109 : decode cX5_advise 109 = .ok (.iload 5, 2) := by decide +kernel
theorem dX5_advise_111 : decode cX5_advise 111 = .ok (.istore_n 3, 1) := by decide +kernel
theorem dX5_advise_112 : decode cX5_advise 112 = .ok (.iinc 5 1, 3) := by decide +kernel
theorem dX5_advise_115 : decode cX5_advise 115 = .ok (.goto (-72), 3) := by decide +kernel
theorem dX5_advise_118 : decode cX5_advise 118 = .ok (.iload_n 3, 1) := by decide +kernel
theorem dX5_advise_119 : decode cX5_advise 119 = .ok (.ireturn, 1) := by decide +kernel
theorem dX5_mean_0 : decode cX5_mean 0 = .ok (.aload_n 0, 1) := by decide +kernel
theorem dX5_mean_1 : decode cX5_mean 1 = .ok (.iconst 0, 1) := by decide +kernel
theorem dX5_mean_2 : decode cX5_mean 2 = .ok (.putfield 31, 3) := by decide +kernel
theorem dX5_mean_5 : decode cX5_mean 5 = .ok (.iconst 0, 1) := by decide +kernel
theorem dX5_mean_6 : decode cX5_mean 6 = .ok (.istore_n 1, 1) := by decide +kernel
theorem dX5_mean_7 : decode cX5_mean 7 = .ok (.iconst 0, 1) := by decide +kernel
theorem dX5_mean_8 : decode cX5_mean 8 = .ok (.istore_n 2, 1) := by decide +kernel
theorem dX5_mean_9 : decode cX5_mean 9 = .ok (.iload_n 2, 1) := by decide +kernel
theorem dX5_mean_10 : decode cX5_mean 10 = .ok (.aload_n 0, 1) := by decide +kernel
theorem dX5_mean_11 : decode cX5_mean 11 = .ok (.getfield 35, 3) := by decide +kernel
theorem dX5_mean_14 : decode cX5_mean 14 = .ok (.if_icmp .ge 36, 3) := by decide +kernel
theorem dX5_mean_17 : decode cX5_mean 17 = .ok (.iload_n 1, 1) := by decide +kernel
theorem dX5_mean_18 : decode cX5_mean 18 = .ok (.aload_n 0, 1) := by decide +kernel
theorem dX5_mean_19 : decode cX5_mean 19 = .ok (.getfield 24, 3) := by decide +kernel
theorem dX5_mean_22 : decode cX5_mean 22 = .ok (.iload_n 2, 1) := by decide +kernel
theorem dX5_mean_23 : decode cX5_mean 23 = .ok (.invokevirtual 62, 3) := by decide +kernel
theorem dX5_mean_26 : decode cX5_mean 26 = .ok (.ifCond .eq 15, 3) := by decide +kernel
theorem dX5_mean_29 : decode cX5_mean 29 = .ok (.aload_n 0, 1) := by decide +kernel
theorem dX5_mean_30 : decode cX5_mean 30 = .ok (.getfield 24, 3) := by decide +kernel
theorem dX5_mean_33 : decode cX5_mean 33 = .ok (.getfield 52, 3) := by decide +kernel
theorem dX5_mean_36 : decode cX5_mean 36 = .ok (.iload_n 2, 1) := by decide +kernel
theorem dX5_mean_37 : decode cX5_mean 37 = .ok (.iaload, 1) := by decide +kernel
theorem dX5_mean_38 : decode cX5_mean 38 = .ok (.goto 4, 3) := by decide +kernel
theorem dX5_mean_41 : decode cX5_mean 41 = .ok (.iconst 0, 1) := by decide +kernel
theorem dX5_mean_42 : decode cX5_mean 42 = .ok (.iadd, 1) := by decide +kernel
theorem dX5_mean_43 : decode cX5_mean 43 = .ok (.istore_n 1, 1) := by decide +kernel
theorem dX5_mean_44 : decode cX5_mean 44 = .ok (.iinc 2 1, 3) := by decide +kernel
theorem dX5_mean_47 : decode cX5_mean 47 = .ok (.goto (-38), 3) := by decide +kernel
theorem dX5_mean_50 : decode cX5_mean 50 = .ok (.aload_n 0, 1) := by decide +kernel
theorem dX5_mean_51 : decode cX5_mean 51 = .ok (.getfield 24, 3) := by decide +kernel
theorem dX5_mean_54 : decode cX5_mean 54 = .ok (.invokevirtual 129, 3) := by decide +kernel
theorem dX5_mean_57 : decode cX5_mean 57 = .ok (.ifCond .ne 7, 3) := by decide +kernel
theorem dX5_mean_60 : decode cX5_mean 60 = .ok (.dconst 0, 1) := by decide +kernel
theorem dX5_mean_61 : decode cX5_mean 61 = .ok (.goto 14, 3) := by decide +kernel
theorem dX5_mean_64 : decode cX5_mean 64 = .ok (.iload_n 1, 1) := by decide +kernel
theorem dX5_mean_65 : decode cX5_mean 65 = .ok (.i2d, 1) := by decide +kernel
theorem dX5_mean_66 : decode cX5_mean 66 = .ok (.aload_n 0, 1) := by decide +kernel
theorem dX5_mean_67 : decode cX5_mean 67 = .ok (.getfield 24, 3) := by decide +kernel
theorem dX5_mean_70 : decode cX5_mean 70 = .ok (.invokevirtual 129, 3) := by decide +kernel
theorem dX5_mean_73 : decode cX5_mean 73 = .ok (.i2d, 1) := by decide +kernel
theorem dX5_mean_74 : decode cX5_mean 74 = .ok (.ddiv, 1) := by decide +kernel
theorem dX5_mean_75 : decode cX5_mean 75 = .ok (.dreturn, 1) := by decide +kernel
theorem dX5_digest_0 : decode cX5_digest 0 = .ok (.aload_n 0, 1) := by decide +kernel
theorem dX5_digest_1 : decode cX5_digest 1 = .ok (.iconst 0, 1) := by decide +kernel
theorem dX5_digest_2 : decode cX5_digest 2 = .ok (.putfield 31, 3) := by decide +kernel
theorem dX5_digest_5 : decode cX5_digest 5 = .ok (.ldc2_w 132, 3) := by decide +kernel
theorem dX5_digest_8 : decode cX5_digest 8 = .ok (.lstore_n 1, 1) := by decide +kernel
theorem dX5_digest_9 : decode cX5_digest 9 = .ok (.iconst 0, 1) := by decide +kernel
theorem dX5_digest_10 : decode cX5_digest 10 = .ok (.istore_n 3, 1) := by decide +kernel
theorem dX5_digest_11 : decode cX5_digest 11 = .ok (.iload_n 3, 1) := by decide +kernel
theorem dX5_digest_12 : decode cX5_digest 12 = .ok (.bipush 9, 2) := by decide +kernel
theorem dX5_digest_14 : decode cX5_digest 14 = .ok (.if_icmp .gt 25, 3) := by decide +kernel
theorem dX5_digest_17 : decode cX5_digest 17 = .ok (.lload_n 1, 1) := by decide +kernel
theorem dX5_digest_18 : decode cX5_digest 18 = .ok (.ldc2_w 134, 3) := by decide +kernel
theorem dX5_digest_21 : decode cX5_digest 21 = .ok (.lmul, 1) := by decide +kernel
theorem dX5_digest_22 : decode cX5_digest 22 = .ok (.aload_n 0, 1) := by decide +kernel
theorem dX5_digest_23 : decode cX5_digest 23 = .ok (.getfield 24, 3) := by decide +kernel
theorem dX5_digest_26 : decode cX5_digest 26 = .ok (.iload_n 3, 1) := by decide +kernel
theorem dX5_digest_27 : decode cX5_digest 27 = .ok (.invokevirtual 104, 3) := by decide +kernel
theorem dX5_digest_30 : decode cX5_digest 30 = .ok (.i2l, 1) := by decide +kernel
theorem dX5_digest_31 : decode cX5_digest 31 = .ok (.ladd, 1) := by decide +kernel
theorem dX5_digest_32 : decode cX5_digest 32 = .ok (.lstore_n 1, 1) := by decide +kernel
theorem dX5_digest_33 : decode cX5_digest 33 = .ok (.iinc 3 1, 3) := by decide +kernel
theorem dX5_digest_36 : decode cX5_digest 36 = .ok (.goto (-25), 3) := by decide +kernel
theorem dX5_digest_39 : decode cX5_digest 39 = .ok (.aload_n 0, 1) := by decide +kernel
theorem dX5_digest_40 : decode cX5_digest 40 = .ok (.getfield 7, 3) := by decide +kernel
theorem dX5_digest_43 : decode cX5_digest 43 = .ok (.astore_n 3, 1) := by decide +kernel
theorem dX5_digest_44 : decode cX5_digest 44 = .ok (.aload_n 3, 1) := by decide +kernel
theorem dX5_digest_45 : decode cX5_digest 45 = .ok (.arraylength, 1) := by decide +kernel
theorem dX5_digest_46 : decode cX5_digest 46 = .ok (.istore 4, 2) := by decide +kernel
theorem dX5_digest_48 : decode cX5_digest 48 = .ok (.iconst 0, 1) := by decide +kernel
theorem dX5_digest_49 : decode cX5_digest 49 = .ok (.istore 5, 2) := by decide +kernel
theorem dX5_digest_51 : decode cX5_digest 51 = .ok (.iload 5, 2) := by decide +kernel
theorem dX5_digest_53 : decode cX5_digest 53 = .ok (.iload 4, 2) := by decide +kernel
theorem dX5_digest_55 : decode cX5_digest 55 = .ok (.if_icmp .ge 25, 3) := by decide +kernel
theorem dX5_digest_58 : decode cX5_digest 58 = .ok (.aload_n 3, 1) := by decide +kernel
theorem dX5_digest_59 : decode cX5_digest 59 = .ok (.iload 5, 2) := by decide +kernel
theorem dX5_digest_61 : decode cX5_digest 61 = .ok (.iaload, 1) := by decide +kernel
theorem dX5_digest_62 : decode cX5_digest 62 = .ok (.istore 6, 2) := by decide +kernel
theorem dX5_digest_64 : decode cX5_digest 64 = .ok (.lload_n 1, 1) := by decide +kernel
theorem dX5_digest_65 : decode cX5_digest 65 = .ok (.ldc2_w 134, 3) := by decide +kernel
theorem dX5_digest_68 : decode cX5_digest 68 = .ok (.lmul, 1) := by decide +kernel
theorem dX5_digest_69 : decode cX5_digest 69 = .ok (.iload 6, 2) := by decide +kernel
theorem dX5_digest_71 : decode cX5_digest 71 = .ok (.i2l, 1) := by decide +kernel
theorem dX5_digest_72 : decode cX5_digest 72 = .ok (.ladd, 1) := by decide +kernel
theorem dX5_digest_73 : decode cX5_digest 73 = .ok (.lstore_n 1, 1) := by decide +kernel
theorem dX5_digest_74 : decode cX5_digest 74 = .ok (.iinc 5 1, 3) := by decide +kernel
theorem dX5_digest_77 : decode cX5_digest 77 = .ok (.goto (-26), 3) := by decide +kernel
theorem dX5_digest_80 : decode cX5_digest 80 = .ok (.iconst 0, 1) := by decide +kernel
theorem dX5_digest_81 : decode cX5_digest 81 = .ok (.istore_n 3, 1) := by decide +kernel
theorem dX5_digest_82 : decode cX5_digest 82 = .ok (.iload_n 3, 1) := by decide +kernel
theorem dX5_digest_83 : decode cX5_digest 83 = .ok (.aload_n 0, 1) := by decide +kernel
theorem dX5_digest_84 : decode cX5_digest 84 = .ok (.getfield 35, 3) := by decide +kernel
theorem dX5_digest_87 : decode cX5_digest 87 = .ok (.if_icmp .ge 40, 3) := by decide +kernel
theorem dX5_digest_90 : decode cX5_digest 90 = .ok (.iconst 0, 1) := by decide +kernel
theorem dX5_digest_91 : decode cX5_digest 91 = .ok (.istore 4, 2) := by decide +kernel
theorem dX5_digest_93 : decode cX5_digest 93 = .ok (.iload 4, 2) := by decide +kernel
theorem dX5_digest_95 : decode cX5_digest 95 = .ok (.bipush 7, 2) := by decide +kernel
theorem dX5_digest_97 : decode cX5_digest 97 = .ok (.if_icmp .gt 24, 3) := by decide +kernel
theorem dX5_digest_100 : decode cX5_digest 100 = .ok (.lload_n 1, 1) := by decide +kernel
theorem dX5_digest_101 : decode cX5_digest 101 = .ok (.ldc2_w 134, 3) := by decide +kernel
theorem dX5_digest_104 : decode cX5_digest 104 = .ok (.lmul, 1) := by decide +kernel
theorem dX5_digest_105 : decode cX5_digest 105 = .ok (.aload_n 0, 1) := by decide +kernel
theorem dX5_digest_106 : decode cX5_digest 106 = .ok (.iload_n 3, 1) := by decide +kernel
theorem dX5_digest_107 : decode cX5_digest 107 = .ok (.iload 4, 2) := by decide +kernel
theorem dX5_digest_109 : decode cX5_digest 109 = .ok (.invokevirtual 87, 3) := by decide +kernel
theorem dX5_digest_112 : decode cX5_digest 112 = .ok (.i2l, 1) := by decide +kernel
theorem dX5_digest_113 : decode cX5_digest 113 = .ok (.ladd, 1) := by decide +kernel
theorem dX5_digest_114 : decode cX5_digest 114 = .ok (.lstore_n 1, 1) := by decide +kernel
theorem dX5_digest_115 : decode cX5_digest 115 = .ok (.iinc 4 1, 3) := by decide +kernel
theorem dX5_digest_118 : decode cX5_digest 118 = .ok (.goto (-25), 3) := by decide +kernel
theorem dX5_digest_121 : decode cX5_digest 121 = .ok (.iinc 3 1, 3) := by decide +kernel
theorem dX5_digest_124 : decode cX5_digest 124 = .ok (.goto (-42), 3) := by decide +kernel
theorem dX5_digest_127 : decode cX5_digest 127 = .ok (.iconst 0, 1) := by decide +kernel
theorem dX5_digest_128 : decode cX5_digest 128 = .ok (.istore_n 3, 1) := by decide +kernel
theorem dX5_digest_129 : decode cX5_digest 129 = .ok (.iload_n 3, 1) := by decide +kernel
theorem dX5_digest_130 : decode cX5_digest 130 = .ok (.aload_n 0, 1) := by decide +kernel
theorem dX5_digest_131 : decode cX5_digest 131 = .ok (.getfield 24, 3) := by decide +kernel
theorem dX5_digest_134 : decode cX5_digest 134 = .ok (.getfield 42, 3) := by decide +kernel
theorem dX5_digest_137 : decode cX5_digest 137 = .ok (.if_icmp .ge 39, 3) := by decide +kernel
theorem dX5_digest_140 : decode cX5_digest 140 = .ok (.iconst 0, 1) := by decide +kernel
theorem dX5_digest_141 : decode cX5_digest 141 = .ok (.istore 4, 2) := by decide +kernel
theorem dX5_digest_143 : decode cX5_digest 143 = .ok (.iload 4, 2) := by decide +kernel
theorem dX5_digest_145 : decode cX5_digest 145 = .ok (.iconst 3, 1) := by decide +kernel
theorem dX5_digest_146 : decode cX5_digest 146 = .ok (.if_icmp .gt 24, 3) := by decide +kernel
theorem dX5_digest_149 : decode cX5_digest 149 = .ok (.lload_n 1, 1) := by decide +kernel
theorem dX5_digest_150 : decode cX5_digest 150 = .ok (.ldc2_w 134, 3) := by decide +kernel
theorem dX5_digest_153 : decode cX5_digest 153 = .ok (.lmul, 1) := by decide +kernel
theorem dX5_digest_154 : decode cX5_digest 154 = .ok (.aload_n 0, 1) := by decide +kernel
theorem dX5_digest_155 : decode cX5_digest 155 = .ok (.iload_n 3, 1) := by decide +kernel
theorem dX5_digest_156 : decode cX5_digest 156 = .ok (.iload 4, 2) := by decide +kernel
theorem dX5_digest_158 : decode cX5_digest 158 = .ok (.invokevirtual 101, 3) := by decide +kernel
theorem dX5_digest_161 : decode cX5_digest 161 = .ok (.i2l, 1) := by decide +kernel
theorem dX5_digest_162 : decode cX5_digest 162 = .ok (.ladd, 1) := by decide +kernel
theorem dX5_digest_163 : decode cX5_digest 163 = .ok (.lstore_n 1, 1) := by decide +kernel
theorem dX5_digest_164 : decode cX5_digest 164 = .ok (.iinc 4 1, 3) := by decide +kernel
theorem dX5_digest_167 : decode cX5_digest 167 = .ok (.goto (-24), 3) := by decide +kernel
theorem dX5_digest_170 : decode cX5_digest 170 = .ok (.iinc 3 1, 3) := by decide +kernel
theorem dX5_digest_173 : decode cX5_digest 173 = .ok (.goto (-44), 3) := by decide +kernel
theorem dX5_digest_176 : decode cX5_digest 176 = .ok (.lload_n 1, 1) := by decide +kernel
theorem dX5_digest_177 : decode cX5_digest 177 = .ok (.lreturn, 1) := by decide +kernel
