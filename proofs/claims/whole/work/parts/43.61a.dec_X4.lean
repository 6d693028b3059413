theorem dX4_init_0 : decode cX4_init 0 = .ok (.aload_n 0, 1) := by decide +kernel
theorem dX4_init_1 : decode cX4_init 1 = .ok (.aload_n 1, 1) := by decide +kernel
theorem dX4_init_2 : decode cX4_init 2 = .ok (.putfield 3, 3) := by decide +kernel
theorem dX4_init_5 : decode cX4_init 5 = .ok (.aload_n 0, 1) := by decide +kernel
theorem dX4_init_6 : decode cX4_init 6 = .ok (.invokespecial 9, 3) := by decide +kernel
theorem dX4_init_9 : decode cX4_init 9 = .ok (.aload_n 0, 1) := by decide +kernel
theorem dX4_init_10 : decode cX4_init 10 = .ok (.bipush 6, 2) := by decide +kernel
theorem dX4_init_12 : decode cX4_init 12 = .ok (.newarray .int, 2) := by decide +kernel
theorem dX4_init_14 : decode cX4_init 14 = .ok (.putfield 15, 3) := by decide +kernel
theorem dX4_init_17 : decode cX4_init 17 = .ok (.aload_n 0, 1) := by decide +kernel
theorem dX4_init_18 : decode cX4_init 18 = .ok (.bipush 6, 2) := by decide +kernel
theorem dX4_init_20 : decode cX4_init 20 = .ok (.newarray .int, 2) := by decide +kernel
theorem dX4_init_22 : decode cX4_init 22 = .ok (.putfield 19, 3) := by decide +kernel
theorem dX4_init_25 : decode cX4_init 25 = .ok (.aload_n 0, 1) := by decide +kernel
theorem dX4_init_26 : decode cX4_init 26 = .ok (.bipush 6, 2) := by decide +kernel
theorem dX4_init_28 : decode cX4_init 28 = .ok (.newarray .int, 2) := by decide +kernel
theorem dX4_init_30 : decode cX4_init 30 = .ok (.putfield 22, 3) := by decide +kernel
theorem dX4_init_33 : decode cX4_init 33 = .ok (.aload_n 0, 1) := by decide +kernel
theorem dX4_init_34 : decode cX4_init 34 = .ok (.bipush 6, 2) := by decide +kernel
theorem dX4_init_36 : decode cX4_init 36 = .ok (.newarray .int, 2) := by decide +kernel
theorem dX4_init_38 : decode cX4_init 38 = .ok (.putfield 25, 3) := by decide +kernel
theorem dX4_init_41 : decode cX4_init 41 = .ok (.aload_n 0, 1) := by decide +kernel
theorem dX4_init_42 : decode cX4_init 42 = .ok (.bipush 6, 2) := by decide +kernel
theorem dX4_init_44 : decode cX4_init 44 = .ok (.newarray .int, 2) := by decide +kernel
theorem dX4_init_46 : decode cX4_init 46 = .ok (.putfield 28, 3) := by decide +kernel
theorem dX4_init_49 : decode cX4_init 49 = .ok (.aload_n 0, 1) := by decide +kernel
theorem dX4_init_50 : decode cX4_init 50 = .ok (.bipush 6, 2) := by decide +kernel
theorem dX4_init_52 : decode cX4_init 52 = .ok (.newarray .int, 2) := by decide +kernel
theorem dX4_init_54 : decode cX4_init 54 = .ok (.putfield 31, 3) := by decide +kernel
theorem dX4_init_57 : decode cX4_init 57 = .ok (.aload_n 0, 1) := by decide +kernel
theorem dX4_init_58 : decode cX4_init 58 = .ok (.iconst 5, 1) := by decide +kernel
theorem dX4_init_59 : decode cX4_init 59 = .ok (.newarray .int, 2) := by decide +kernel
theorem dX4_init_61 : decode cX4_init 61 = .ok (.putfield 34, 3) := by decide +kernel
theorem dX4_init_64 : decode cX4_init 64 = .ok (.aload_n 0, 1) := by decide +kernel
theorem dX4_init_65 : decode cX4_init 65 = .ok (.iconst 5, 1) := by decide +kernel
theorem dX4_init_66 : decode cX4_init 66 = .ok (.newarray .int, 2) := by decide +kernel
theorem dX4_init_68 : decode cX4_init 68 = .ok (.putfield 37, 3) := by decide +kernel
theorem dX4_init_71 : decode cX4_init 71 = .ok (.aload_n 0, 1) := by decide +kernel
theorem dX4_init_72 : decode cX4_init 72 = .ok (.iconst 5, 1) := by decide +kernel
theorem dX4_init_73 : decode cX4_init 73 = .ok (.newarray .int, 2) := by decide +kernel
theorem dX4_init_75 : decode cX4_init 75 = .ok (.putfield 40, 3) := by decide +kernel
theorem dX4_init_78 : decode cX4_init 78 = .ok (.aload_n 0, 1) := by decide +kernel
theorem dX4_init_79 : decode cX4_init 79 = .ok (.iconst 5, 1) := by decide +kernel
theorem dX4_init_80 : decode cX4_init 80 = .ok (.newarray .int, 2) := by decide +kernel
theorem dX4_init_82 : decode cX4_init 82 = .ok (.putfield 43, 3) := by decide +kernel
theorem dX4_init_85 : decode cX4_init 85 = .ok (.return_, 1) := by decide +kernel
theorem dX4_copy_0 : decode cX4_copy 0 = .ok (.aload_n 1, 1) := by decide +kernel
theorem dX4_copy_1 : decode cX4_copy 1 = .ok (.iconst 0, 1) := by decide +kernel
theorem dX4_copy_2 : decode cX4_copy 2 = .ok (.aload_n 2, 1) := by decide +kernel
theorem dX4_copy_3 : decode cX4_copy 3 = .ok (.iconst 0, 1) := by decide +kernel
theorem dX4_copy_4 : decode cX4_copy 4 = .ok (.aload_n 1, 1) := by decide +kernel
theorem dX4_copy_5 : decode cX4_copy 5 = .ok (.arraylength, 1) := by decide +kernel
theorem dX4_copy_6 : decode cX4_copy 6 = .ok (.invokestatic 46, 3) := by decide +kernel
theorem dX4_copy_9 : decode cX4_copy 9 = .ok (.return_, 1) := by decide +kernel
theorem dX4_become_0 : decode cX4_become 0 = .ok (.aload_n 0, 1) := by decide +kernel
theorem dX4_become_1 : decode cX4_become 1 = .ok (.aload_n 1, 1) := by decide +kernel
theorem dX4_become_2 : decode cX4_become 2 = .ok (.getfield 52, 3) := by decide +kernel
theorem dX4_become_5 : decode cX4_become 5 = .ok (.putfield 52, 3) := by decide +kernel
theorem dX4_become_8 : decode cX4_become 8 = .ok (.aload_n 0, 1) := by decide +kernel
theorem dX4_become_9 : decode cX4_become 9 = .ok (.aload_n 1, 1) := by decide +kernel
theorem dX4_become_10 : decode cX4_become 10 = .ok (.getfield 56, 3) := by decide +kernel
theorem dX4_become_13 : decode cX4_become 13 = .ok (.putfield 56, 3) := by decide +kernel
theorem dX4_become_16 : decode cX4_become 16 = .ok (.aload_n 0, 1) := by decide +kernel
theorem dX4_become_17 : decode cX4_become 17 = .ok (.aload_n 1, 1) := by decide +kernel
theorem dX4_become_18 : decode cX4_become 18 = .ok (.getfield 59, 3) := by decide +kernel
theorem dX4_become_21 : decode cX4_become 21 = .ok (.putfield 59, 3) := by decide +kernel
theorem dX4_become_24 : decode cX4_become 24 = .ok (.aload_n 0, 1) := by decide +kernel
theorem dX4_become_25 : decode cX4_become 25 = .ok (.aload_n 1, 1) := by decide +kernel
theorem dX4_become_26 : decode cX4_become 26 = .ok (.getfield 62, 3) := by decide +kernel
theorem dX4_become_29 : decode cX4_become 29 = .ok (.putfield 62, 3) := by decide +kernel
theorem dX4_become_32 : decode cX4_become 32 = .ok (.aload_n 0, 1) := by decide +kernel
theorem dX4_become_33 : decode cX4_become 33 = .ok (.aload_n 1, 1) := by decide +kernel
theorem dX4_become_34 : decode cX4_become 34 = .ok (.getfield 65, 3) := by decide +kernel
theorem dX4_become_37 : decode cX4_become 37 = .ok (.putfield 65, 3) := by decide +kernel
theorem dX4_become_40 : decode cX4_become 40 = .ok (.aload_n 0, 1) := by decide +kernel
theorem dX4_become_41 : decode cX4_become 41 = .ok (.aload_n 1, 1) := by decide +kernel
theorem dX4_become_42 : decode cX4_become 42 = .ok (.getfield 15, 3) := by decide +kernel
theorem dX4_become_45 : decode cX4_become 45 = .ok (.aload_n 0, 1) := by decide +kernel
theorem dX4_become_46 : decode cX4_become 46 = .ok (.getfield 15, 3) := by decide +kernel
theorem dX4_become_49 : decode cX4_become 49 = .ok (.invokevirtual 68, 3) := by decide +kernel
theorem dX4_become_52 : decode cX4_become 52 = .ok (.aload_n 0, 1) := by decide +kernel
theorem dX4_become_53 : decode cX4_become 53 = .ok (.aload_n 1, 1) := by decide +kernel
theorem dX4_become_54 : decode cX4_become 54 = .ok (.getfield 19, 3) := by decide +kernel
theorem dX4_become_57 : decode cX4_become 57 = .ok (.aload_n 0, 1) := by decide +kernel
theorem dX4_become_58 : decode cX4_become 58 = .ok (.getfield 19, 3) := by decide +kernel
theorem dX4_become_61 : decode cX4_become 61 = .ok (.invokevirtual 68, 3) := by decide +kernel
theorem dX4_become_64 : decode cX4_become 64 = .ok (.aload_n 0, 1) := by decide +kernel
theorem dX4_become_65 : decode cX4_become 65 = .ok (.aload_n 1, 1) := by decide +kernel
theorem dX4_become_66 : decode cX4_become 66 = .ok (.getfield 22, 3) := by decide +kernel
theorem dX4_become_69 : decode cX4_become 69 = .ok (.aload_n 0, 1) := by decide +kernel
theorem dX4_become_70 : decode cX4_become 70 = .ok (.getfield 22, 3) := by decide +kernel
theorem dX4_become_73 : decode cX4_become 73 = .ok (.invokevirtual 68, 3) := by decide +kernel
theorem dX4_become_76 : decode cX4_become 76 = .ok (.aload_n 0, 1) := by decide +kernel
theorem dX4_become_77 : decode cX4_become 77 = .ok (.aload_n 1, 1) := by decide +kernel
theorem dX4_become_78 : decode cX4_become 78 = .ok (.getfield 25, 3) := by decide +kernel
theorem dX4_become_81 : decode cX4_become 81 = .ok (.aload_n 0, 1) := by decide +kernel
theorem dX4_become_82 : decode cX4_become 82 = .ok (.getfield 25, 3) := by decide +kernel
theorem dX4_become_85 : decode cX4_become 85 = .ok (.invokevirtual 68, 3) := by decide +kernel
theorem dX4_become_88 : decode cX4_become 88 = .ok (.aload_n 0, 1) := by decide +kernel
theorem dX4_become_89 : decode cX4_become 89 = .ok (.aload_n 1, 1) := by decide +kernel
theorem dX4_become_90 : decode cX4_become 90 = .ok (.getfield 28, 3) := by decide +kernel
theorem dX4_become_93 : decode cX4_become 93 = .ok (.aload_n 0, 1) := by decide +kernel
theorem dX4_become_94 : decode cX4_become 94 = .ok (.getfield 28, 3) := by decide +kernel
theorem dX4_become_97 : decode cX4_become 97 = .ok (.invokevirtual 68, 3) := by decide +kernel
theorem dX4_become_100 : decode cX4_become 100 = .ok (.aload_n 0, 1) := by decide +kernel
theorem dX4_become_101 : decode cX4_become 101 = .ok (.aload_n 1, 1) := by decide +kernel
theorem dX4_become_102 : decode cX4_become 102 = .ok (.getfield 31, 3) := by decide +kernel
theorem dX4_become_105 : decode cX4_become 105 = .ok (.aload_n 0, 1) := by decide +kernel
theorem dX4_become_106 : decode cX4_become 106 = .ok (.getfield 31, 3) := by decide +kernel
theorem dX4_become_109 : decode cX4_become 109 = .ok (.invokevirtual 68, 3) := by decide +kernel
theorem dX4_become_112 : decode cX4_become 112 = .ok (.aload_n 0, 1) := by decide +kernel
theorem dX4_become_113 : decode cX4_become 113 = .ok (.aload_n 1, 1) := by decide +kernel
theorem dX4_become_114 : decode cX4_become 114 = .ok (.getfield 34, 3) := by decide +kernel
theorem dX4_become_117 : decode cX4_become 117 = .ok (.aload_n 0, 1) := by decide +kernel
theorem dX4_become_118 : decode cX4_become 118 = .ok (.getfield 34, 3) := by decide +kernel
theorem dX4_become_121 : decode cX4_become 121 = .ok (.invokevirtual 68, 3) := by decide +kernel
theorem dX4_become_124 : decode cX4_become 124 = .ok (.aload_n 0, 1) := by decide +kernel
theorem dX4_become_125 : decode cX4_become 125 = .ok (.aload_n 1, 1) := by decide +kernel
theorem dX4_become_126 : decode cX4_become 126 = .ok (.getfield 37, 3) := by decide +kernel
theorem dX4_become_129 : decode cX4_become 129 = .ok (.aload_n 0, 1) := by decide +kernel
theorem dX4_become_130 : decode cX4_become 130 = .ok (.getfield 37, 3) := by decide +kernel
theorem dX4_become_133 : decode cX4_become 133 = .ok (.invokevirtual 68, 3) := by decide +kernel
theorem dX4_become_136 : decode cX4_become 136 = .ok (.aload_n 0, 1) := by decide +kernel
theorem dX4_become_137 : decode cX4_become 137 = .ok (.aload_n 1, 1) := by decide +kernel
theorem dX4_become_138 : decode cX4_become 138 = .ok (.getfield 40, 3) := by decide +kernel
theorem dX4_become_141 : decode cX4_become 141 = .ok (.aload_n 0, 1) := by decide +kernel
theorem dX4_become_142 : decode cX4_become 142 = .ok (.getfield 40, 3) := by decide +kernel
theorem dX4_become_145 : decode cX4_become 145 = .ok (.invokevirtual 68, 3) := by decide +kernel
theorem dX4_become_148 : decode cX4_become 148 = .ok (.iconst 0, 1) := by decide +kernel
theorem dX4_become_149 : decode cX4_become 149 = .ok (.istore_n 2, 1) := by decide +kernel
theorem dX4_become_150 : decode cX4_become 150 = .ok (.iload_n 2, 1) := by decide +kernel
theorem dX4_become_151 : decode cX4_become 151 = .ok (.iconst 5, 1) := by decide +kernel
theorem dX4_become_152 : decode cX4_become 152 = .ok (.if_icmp .ge 16, 3) := by decide +kernel
theorem dX4_become_155 : decode cX4_become 155 = .ok (.aload_n 0, 1) := by decide +kernel
theorem dX4_become_156 : decode cX4_become 156 = .ok (.getfield 43, 3) := by decide +kernel
theorem dX4_become_159 : decode cX4_become 159 = .ok (.iload_n 2, 1) := by decide +kernel
theorem dX4_become_160 : decode cX4_become 160 = .ok (.iload_n 2, 1) := by decide +kernel
theorem dX4_become_161 : decode cX4_become 161 = .ok (.iastore, 1) := by decide +kernel
theorem dX4_become_162 : decode cX4_become 162 = .ok (.iinc 2 1, 3) := by decide +kernel
theorem dX4_become_165 : decode cX4_become 165 = .ok (.goto (-15), 3) := by decide +kernel
theorem dX4_become_168 : decode cX4_become 168 = .ok (.aload_n 0, 1) := by decide +kernel
theorem dX4_become_169 : decode cX4_become 169 = .ok (.areturn, 1) := by decide +kernel
theorem dX4_isHeld_0 : decode cX4_isHeld 0 = .ok (.aload_n 0, 1) := by decide +kernel
theorem dX4_isHeld_1 : decode cX4_isHeld 1 = .ok (.getfield 31, 3) := by decide +kernel
theorem dX4_isHeld_4 : decode cX4_isHeld 4 = .ok (.iload_n 1, 1) := by decide +kernel
theorem dX4_isHeld_5 : decode cX4_isHeld 5 = .ok (.iaload, 1) := by decide +kernel
theorem dX4_isHeld_6 : decode cX4_isHeld 6 = .ok (.iconst 3, 1) := by decide +kernel
theorem dX4_isHeld_7 : decode cX4_isHeld 7 = .ok (.if_icmp .ge 7, 3) := by decide +kernel
theorem dX4_isHeld_10 : decode cX4_isHeld 10 = .ok (.iconst 1, 1) := by decide +kernel
theorem dX4_isHeld_11 : decode cX4_isHeld 11 = .ok (.goto 4, 3) := by decide +kernel
theorem dX4_isHeld_14 : decode cX4_isHeld 14 = .ok (.iconst 0, 1) := by decide +kernel
theorem dX4_isHeld_15 : decode cX4_isHeld 15 = .ok (.ireturn, 1) := by decide +kernel
theorem dX4_moon_0 : decode cX4_moon 0 = .ok (.aload_n 0, 1) := by decide +kernel
theorem dX4_moon_1 : decode cX4_moon 1 = .ok (.getfield 52, 3) := by decide +kernel
theorem dX4_moon_4 : decode cX4_moon 4 = .ok (.bipush 28, 2) := by decide +kernel
theorem dX4_moon_6 : decode cX4_moon 6 = .ok (.irem, 1) := by decide +kernel
theorem dX4_moon_7 : decode cX4_moon 7 = .ok (.istore_n 1, 1) := by decide +kernel
theorem dX4_moon_8 : decode cX4_moon 8 = .ok (.iload_n 1, 1) := by decide +kernel
theorem dX4_moon_9 : decode cX4_moon 9 = .ok (.iconst 3, 1) := by decide +kernel
theorem dX4_moon_10 : decode cX4_moon 10 = .ok (.if_icmp .le 9, 3) := by decide +kernel
theorem dX4_moon_13 : decode cX4_moon 13 = .ok (.iload_n 1, 1) := by decide +kernel
theorem dX4_moon_14 : decode cX4_moon 14 = .ok (.bipush 25, 2) := by decide +kernel
theorem dX4_moon_16 : decode cX4_moon 16 = .ok (.if_icmp .lt 7, 3) := by decide +kernel
theorem dX4_moon_19 : decode cX4_moon 19 = .ok (.iconst 0, 1) := by decide +kernel
theorem dX4_moon_20 : decode cX4_moon 20 = .ok (.goto 20, 3) := by decide +kernel
theorem dX4_moon_23 : decode cX4_moon 23 = .ok (.iload_n 1, 1) := by decide +kernel
theorem dX4_moon_24 : decode cX4_moon 24 = .ok (.bipush 9, 2) := by decide +kernel
theorem dX4_moon_26 : decode cX4_moon 26 = .ok (.if_icmp .le 9, 3) := by decide +kernel
theorem dX4_moon_29 : decode cX4_moon 29 = .ok (.iload_n 1, 1) := by decide +kernel
theorem dX4_moon_30 : decode cX4_moon 30 = .ok (.bipush 19, 2) := by decide +kernel
theorem dX4_moon_32 : decode cX4_moon 32 = .ok (.if_icmp .lt 7, 3) := by decide +kernel
theorem dX4_moon_35 : decode cX4_moon 35 = .ok (.iconst 1, 1) := by decide +kernel
theorem dX4_moon_36 : decode cX4_moon 36 = .ok (.goto 4, 3) := by decide +kernel
theorem dX4_moon_39 : decode cX4_moon 39 = .ok (.iconst 2, 1) := by decide +kernel
theorem dX4_moon_40 : decode cX4_moon 40 = .ok (.ireturn, 1) := by decide +kernel
theorem dX4_run_0 : decode cX4_run 0 = .ok (.aload_n 0, 1) := by decide +kernel
theorem dX4_run_1 : decode cX4_run 1 = .ok (.getfield 3, 3) := by decide +kernel
theorem dX4_run_4 : decode cX4_run 4 = .ok (.getfield 72, 3) := by decide +kernel
theorem dX4_run_7 : decode cX4_run 7 = .ok (.aload_n 0, 1) := by decide +kernel
theorem dX4_run_8 : decode cX4_run 8 = .ok (.getfield 52, 3) := by decide +kernel
theorem dX4_run_11 : decode cX4_run 11 = .ok (.bipush 7, 2) := by decide +kernel
theorem dX4_run_13 : decode cX4_run 13 = .ok (.irem, 1) := by decide +kernel
theorem dX4_run_14 : decode cX4_run 14 = .ok (.iaload, 1) := by decide +kernel
theorem dX4_run_15 : decode cX4_run 15 = .ok (.iconst 3, 1) := by decide +kernel
theorem dX4_run_16 : decode cX4_run 16 = .ok (.aload_n 0, 1) := by decide +kernel
theorem dX4_run_17 : decode cX4_run 17 = .ok (.invokevirtual 75, 3) := by decide +kernel
theorem dX4_run_20 : decode cX4_run 20 = .ok (.isub, 1) := by decide +kernel
theorem dX4_run_21 : decode cX4_run 21 = .ok (.imul, 1) := by decide +kernel
theorem dX4_run_22 : decode cX4_run 22 = .ok (.ireturn, 1) := by decide +kernel
theorem dX4_isInWay_0 : decode cX4_isInWay 0 = .ok (.aload_n 0, 1) := by decide +kernel
theorem dX4_isInWay_1 : decode cX4_isInWay 1 = .ok (.iload_n 1, 1) := by decide +kernel
theorem dX4_isInWay_2 : decode cX4_isInWay 2 = .ok (.invokevirtual 79, 3) := by decide +kernel
theorem dX4_isInWay_5 : decode cX4_isInWay 5 = .ok (.ifCond .eq 29, 3) := by decide +kernel
theorem dX4_isInWay_8 : decode cX4_isInWay 8 = .ok (.aload_n 0, 1) := by decide +kernel
theorem dX4_isInWay_9 : decode cX4_isInWay 9 = .ok (.getfield 28, 3) := by decide +kernel
theorem dX4_isInWay_12 : decode cX4_isInWay 12 = .ok (.iload_n 1, 1) := by decide +kernel
theorem dX4_isInWay_13 : decode cX4_isInWay 13 = .ok (.iaload, 1) := by decide +kernel
theorem dX4_isInWay_14 : decode cX4_isInWay 14 = .ok (.ifCond .ne 20, 3) := by decide +kernel
theorem dX4_isInWay_17 : decode cX4_isInWay 17 = .ok (.aload_n 0, 1) := by decide +kernel
theorem dX4_isInWay_18 : decode cX4_isInWay 18 = .ok (.getfield 15, 3) := by decide +kernel
theorem dX4_isInWay_21 : decode cX4_isInWay 21 = .ok (.iload_n 1, 1) := by decide +kernel
theorem dX4_isInWay_22 : decode cX4_isInWay 22 = .ok (.iaload, 1) := by decide +kernel
theorem dX4_isInWay_23 : decode cX4_isInWay 23 = .ok (.bipush 30, 2) := by decide +kernel
theorem dX4_isInWay_25 : decode cX4_isInWay 25 = .ok (.iload_n 2, 1) := by decide +kernel
theorem dX4_isInWay_26 : decode cX4_isInWay 26 = .ok (.isub, 1) := by decide +kernel
theorem dX4_isInWay_27 : decode cX4_isInWay 27 = .ok (.if_icmp .le 7, 3) := by decide +kernel
theorem dX4_isInWay_30 : decode cX4_isInWay 30 = .ok (.iconst 1, 1) := by decide +kernel
theorem dX4_isInWay_31 : decode cX4_isInWay 31 = .ok (.goto 4, 3) := by decide +kernel
theorem dX4_isInWay_34 : decode cX4_isInWay 34 = .ok (.iconst 0, 1) := by decide +kernel
theorem dX4_isInWay_35 : decode cX4_isInWay 35 = .ok (.ireturn, 1) := by decide +kernel
theorem dX4_runDown_0 : decode cX4_runDown 0 = .ok (.aload_n 0, 1) := by decide +kernel
theorem dX4_runDown_1 : decode cX4_runDown 1 = .ok (.invokevirtual 83, 3) := by decide +kernel
theorem dX4_runDown_4 : decode cX4_runDown 4 = .ok (.istore_n 2, 1) := by decide +kernel
theorem dX4_runDown_5 : decode cX4_runDown 5 = .ok (.iconst 0, 1) := by decide +kernel
theorem dX4_runDown_6 : decode cX4_runDown 6 = .ok (.istore_n 3, 1) := by decide +kernel
theorem dX4_runDown_7 : decode cX4_runDown 7 = .ok (.bipush 39, 2) := by decide +kernel
theorem dX4_runDown_9 : decode cX4_runDown 9 = .ok (.istore 4, 2) := by decide +kernel
theorem dX4_runDown_11 : decode cX4_runDown 11 = .ok (.iload 4, 2) := by decide +kernel
theorem dX4_runDown_13 : decode cX4_runDown 13 = .ok (.ifCond .lt 137, 3) := by decide +kernel
theorem dX4_runDown_16 : decode cX4_runDown 16 = .ok (.iconst 0, 1) := by decide +kernel
theorem dX4_runDown_17 : decode cX4_runDown 17 = .ok (.istore 5, 2) := by decide +kernel
theorem dX4_runDown_19 : decode cX4_runDown 19 = .ok (.iload 5, 2) := by decide +kernel
theorem dX4_runDown_21 : decode cX4_runDown 21 = .ok (.aload_n 0, 1) := by decide +kernel
theorem dX4_runDown_22 : decode cX4_runDown 22 = .ok (.getfield 3, 3) := by decide +kernel
theorem dX4_runDown_25 : decode cX4_runDown 25 = .ok (.getfield 86, 3) := by decide +kernel
theorem dX4_runDown_28 : decode cX4_runDown 28 = .ok (.if_icmp .ge 116, 3) := by decide +kernel
theorem dX4_runDown_31 : decode cX4_runDown 31 = .ok (.aload_n 0, 1) := by decide +kernel
theorem dX4_runDown_32 : decode cX4_runDown 32 = .ok (.getfield 3, 3) := by decide +kernel
theorem dX4_runDown_35 : decode cX4_runDown 35 = .ok (.getfield 89, 3) := by decide +kernel
theorem dX4_runDown_38 : decode cX4_runDown 38 = .ok (.iload 5, 2) := by decide +kernel
theorem dX4_runDown_40 : decode cX4_runDown 40 = .ok (.iaload, 1) := by decide +kernel
theorem dX4_runDown_41 : decode cX4_runDown 41 = .ok (.iload 4, 2) := by decide +kernel
theorem dX4_runDown_43 : decode cX4_runDown 43 = .ok (.if_icmp .ne 95, 3) := by decide +kernel
theorem dX4_runDown_46 : decode cX4_runDown 46 = .ok (.aload_n 0, 1) := by decide +kernel
theorem dX4_runDown_47 : decode cX4_runDown 47 = .ok (.iload 5, 2) := by decide +kernel
theorem dX4_runDown_49 : decode cX4_runDown 49 = .ok (.invokevirtual 79, 3) := by decide +kernel
theorem dX4_runDown_52 : decode cX4_runDown 52 = .ok (.ifCond .eq 86, 3) := by decide +kernel
theorem dX4_runDown_55 : decode cX4_runDown 55 = .ok (.aload_n 0, 1) := by decide +kernel
theorem dX4_runDown_56 : decode cX4_runDown 56 = .ok (.getfield 28, 3) := by decide +kernel
theorem dX4_runDown_59 : decode cX4_runDown 59 = .ok (.iload 5, 2) := by decide +kernel
theorem dX4_runDown_61 : decode cX4_runDown 61 = .ok (.iaload, 1) := by decide +kernel
theorem dX4_runDown_62 : decode cX4_runDown 62 = .ok (.iconst 1, 1) := by decide +kernel
theorem dX4_runDown_63 : decode cX4_runDown 63 = .ok (.if_icmp .ne 6, 3) := by decide +kernel
theorem dX4_runDown_66 : decode cX4_runDown 66 = .ok (.goto 72, 3) := by decide +kernel
theorem dX4_runDown_69 : decode cX4_runDown 69 = .ok (.iload_n 2, 1) := by decide +kernel
theorem dX4_runDown_70 : decode cX4_runDown 70 = .ok (.aload_n 0, 1) := by decide +kernel
theorem dX4_runDown_71 : decode cX4_runDown 71 = .ok (.getfield 15, 3) := by decide +kernel
theorem dX4_runDown_74 : decode cX4_runDown 74 = .ok (.iload 5, 2) := by decide +kernel
theorem dX4_runDown_76 : decode cX4_runDown 76 = .ok (.iaload, 1) := by decide +kernel
theorem dX4_runDown_77 : decode cX4_runDown 77 = .ok (.imul, 1) := by decide +kernel
theorem dX4_runDown_78 : decode cX4_runDown 78 = .ok (.aload_n 0, 1) := by decide +kernel
theorem dX4_runDown_79 : decode cX4_runDown 79 = .ok (.getfield 19, 3) := by decide +kernel
theorem dX4_runDown_82 : decode cX4_runDown 82 = .ok (.iload 5, 2) := by decide +kernel
theorem dX4_runDown_84 : decode cX4_runDown 84 = .ok (.iaload, 1) := by decide +kernel
theorem dX4_runDown_85 : decode cX4_runDown 85 = .ok (.imul, 1) := by decide +kernel
theorem dX4_runDown_86 : decode cX4_runDown 86 = .ok (.sipush 3000, 3) := by decide +kernel
theorem dX4_runDown_89 : decode cX4_runDown 89 = .ok (.idiv, 1) := by decide +kernel
theorem dX4_runDown_90 : decode cX4_runDown 90 = .ok (.sipush 200, 3) := by decide +kernel
theorem dX4_runDown_93 : decode cX4_runDown 93 = .ok (.aload_n 0, 1) := by decide +kernel
theorem dX4_runDown_94 : decode cX4_runDown 94 = .ok (.getfield 25, 3) := by decide +kernel
theorem dX4_runDown_97 : decode cX4_runDown 97 = .ok (.iload 5, 2) := by decide +kernel
theorem dX4_runDown_99 : decode cX4_runDown 99 = .ok (.iaload, 1) := by decide +kernel
theorem dX4_runDown_100 : decode cX4_runDown 100 = .ok (.isub, 1) := by decide +kernel
theorem dX4_runDown_101 : decode cX4_runDown 101 = .ok (.invokestatic 92, 3) := by decide +kernel
theorem dX4_runDown_104 : decode cX4_runDown 104 = .ok (.istore 6, 2) := by decide +kernel
theorem dX4_runDown_106 : decode cX4_runDown 106 = .ok (.iload_n 2, 1) := by decide +kernel
theorem dX4_runDown_107 : decode cX4_runDown 107 = .ok (.iload 6, 2) := by decide +kernel
theorem dX4_runDown_109 : decode cX4_runDown 109 = .ok (.isub, 1) := by decide +kernel
theorem dX4_runDown_110 : decode cX4_runDown 110 = .ok (.istore_n 2, 1) := by decide +kernel
theorem dX4_runDown_111 : decode cX4_runDown 111 = .ok (.aload_n 0, 1) := by decide +kernel
theorem dX4_runDown_112 : decode cX4_runDown 112 = .ok (.getfield 25, 3) := by decide +kernel
theorem dX4_runDown_115 : decode cX4_runDown 115 = .ok (.iload 5, 2) := by decide +kernel
theorem dX4_runDown_117 : decode cX4_runDown 117 = .ok (.dup2, 1) := by decide +kernel
theorem dX4_runDown_118 : decode cX4_runDown 118 = .ok (.iaload, 1) := by decide +kernel
theorem dX4_runDown_119 : decode cX4_runDown 119 = .ok (.iload 6, 2) := by decide +kernel
theorem dX4_runDown_121 : decode cX4_runDown 121 = .ok (.iadd, 1) := by decide +kernel
theorem dX4_runDown_122 : decode cX4_runDown 122 = .ok (.iastore, 1) := by decide +kernel
theorem dX4_runDown_123 : decode cX4_runDown 123 = .ok (.iload_n 3, 1) := by decide +kernel
theorem dX4_runDown_124 : decode cX4_runDown 124 = .ok (.iload 5, 2) := by decide +kernel
theorem dX4_runDown_126 : decode cX4_runDown 126 = .ok (.iload_n 1, 1) := by decide +kernel
theorem dX4_runDown_127 : decode cX4_runDown 127 = .ok (.if_icmp .ne 8, 3) := by decide +kernel
theorem dX4_runDown_130 : decode cX4_runDown 130 = .ok (.iload 6, 2) := by decide +kernel
theorem dX4_runDown_132 : decode cX4_runDown 132 = .ok (.goto 4, 3) := by decide +kernel
theorem dX4_runDown_135 : decode cX4_runDown 135 = .ok (.iconst 0, 1) := by decide +kernel
theorem dX4_runDown_136 : decode cX4_runDown 136 = .ok (.iadd, 1) := by decide +kernel
theorem dX4_runDown_137 : decode cX4_runDown 137 = .ok (.istore_n 3, 1) := by decide +kernel
theorem dX4_runDown_138 : decode cX4_runDown 138 = .ok (.iinc 5 1, 3) := by decide +kernel
theorem dX4_runDown_141 : decode cX4_runDown 141 = .ok (.goto (-122), 3) := by decide +kernel
theorem dX4_runDown_144 : decode cX4_runDown 144 = .ok (.iinc 4 (-1), 3) := by decide +kernel
theorem dX4_runDown_147 : decode cX4_runDown 147 = .ok (.goto (-136), 3) := by decide +kernel
theorem dX4_runDown_150 : decode cX4_runDown 150 = .ok (.iload_n 3, 1) := by decide +kernel
theorem dX4_runDown_151 : decode cX4_runDown 151 = .ok (.ireturn, 1) := by decide +kernel
theorem dX4_breaks_0 : decode cX4_breaks 0 = .ok (.iconst 0, 1) := by decide +kernel
theorem dX4_breaks_1 : decode cX4_breaks 1 = .ok (.istore_n 2, 1) := by decide +kernel
theorem dX4_breaks_2 : decode cX4_breaks 2 = .ok (.iconst 0, 1) := by decide +kernel
theorem dX4_breaks_3 : decode cX4_breaks 3 = .ok (.istore_n 3, 1) := by decide +kernel
theorem dX4_breaks_4 : decode cX4_breaks 4 = .ok (.iload_n 3, 1) := by decide +kernel
theorem dX4_breaks_5 : decode cX4_breaks 5 = .ok (.aload_n 0, 1) := by decide +kernel
theorem dX4_breaks_6 : decode cX4_breaks 6 = .ok (.getfield 3, 3) := by decide +kernel
theorem dX4_breaks_9 : decode cX4_breaks 9 = .ok (.getfield 86, 3) := by decide +kernel
theorem dX4_breaks_12 : decode cX4_breaks 12 = .ok (.if_icmp .ge 124, 3) := by decide +kernel
theorem dX4_breaks_15 : decode cX4_breaks 15 = .ok (.aload_n 0, 1) := by decide +kernel
theorem dX4_breaks_16 : decode cX4_breaks 16 = .ok (.getfield 3, 3) := by decide +kernel
theorem dX4_breaks_19 : decode cX4_breaks 19 = .ok (.getfield 89, 3) := by decide +kernel
theorem dX4_breaks_22 : decode cX4_breaks 22 = .ok (.iload_n 3, 1) := by decide +kernel
theorem dX4_breaks_23 : decode cX4_breaks 23 = .ok (.iaload, 1) := by decide +kernel
theorem dX4_breaks_24 : decode cX4_breaks 24 = .ok (.aload_n 0, 1) := by decide +kernel
theorem dX4_breaks_25 : decode cX4_breaks 25 = .ok (.getfield 37, 3) := by decide +kernel
theorem dX4_breaks_28 : decode cX4_breaks 28 = .ok (.iload_n 1, 1) := by decide +kernel
theorem dX4_breaks_29 : decode cX4_breaks 29 = .ok (.iaload, 1) := by decide +kernel
theorem dX4_breaks_30 : decode cX4_breaks 30 = .ok (.if_icmp .ne 100, 3) := by decide +kernel
theorem dX4_breaks_33 : decode cX4_breaks 33 = .ok (.aload_n 0, 1) := by decide +kernel
theorem dX4_breaks_34 : decode cX4_breaks 34 = .ok (.iload_n 3, 1) := by decide +kernel
theorem dX4_breaks_35 : decode cX4_breaks 35 = .ok (.aload_n 0, 1) := by decide +kernel
theorem dX4_breaks_36 : decode cX4_breaks 36 = .ok (.getfield 34, 3) := by decide +kernel
theorem dX4_breaks_39 : decode cX4_breaks 39 = .ok (.iload_n 1, 1) := by decide +kernel
theorem dX4_breaks_40 : decode cX4_breaks 40 = .ok (.iaload, 1) := by decide +kernel
theorem dX4_breaks_41 : decode cX4_breaks 41 = .ok (.invokevirtual 98, 3) := by decide +kernel
theorem dX4_breaks_44 : decode cX4_breaks 44 = .ok (.ifCond .ne 6, 3) := by decide +kernel
theorem dX4_breaks_47 : decode cX4_breaks 47 = .ok (.goto 83, 3) := by decide +kernel
theorem dX4_breaks_50 : decode cX4_breaks 50 = .ok (.iconst 1, 1) := by decide +kernel
theorem dX4_breaks_51 : decode cX4_breaks 51 = .ok (.istore_n 2, 1) := by decide +kernel
theorem dX4_breaks_52 : decode cX4_breaks 52 = .ok (.aload_n 0, 1) := by decide +kernel
theorem dX4_breaks_53 : decode cX4_breaks 53 = .ok (.getfield 15, 3) := by decide +kernel
theorem dX4_breaks_56 : decode cX4_breaks 56 = .ok (.iload_n 3, 1) := by decide +kernel
theorem dX4_breaks_57 : decode cX4_breaks 57 = .ok (.bipush 30, 2) := by decide +kernel
theorem dX4_breaks_59 : decode cX4_breaks 59 = .ok (.aload_n 0, 1) := by decide +kernel
theorem dX4_breaks_60 : decode cX4_breaks 60 = .ok (.getfield 34, 3) := by decide +kernel
theorem dX4_breaks_63 : decode cX4_breaks 63 = .ok (.iload_n 1, 1) := by decide +kernel
theorem dX4_breaks_64 : decode cX4_breaks 64 = .ok (.iaload, 1) := by decide +kernel
