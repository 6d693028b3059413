theorem dX1_init_0 : decode cX1_init 0 = .ok (.aload_n 0, 1) := by decide +kernel
theorem dX1_init_1 : decode cX1_init 1 = .ok (.invokespecial 3, 3) := by decide +kernel
theorem dX1_init_4 : decode cX1_init 4 = .ok (.aload_n 0, 1) := by decide +kernel
theorem dX1_init_5 : decode cX1_init 5 = .ok (.bipush 7, 2) := by decide +kernel
theorem dX1_init_7 : decode cX1_init 7 = .ok (.newarray .int, 2) := by decide +kernel
theorem dX1_init_9 : decode cX1_init 9 = .ok (.putfield 9, 3) := by decide +kernel
theorem dX1_init_12 : decode cX1_init 12 = .ok (.iconst 0, 1) := by decide +kernel
theorem dX1_init_13 : decode cX1_init 13 = .ok (.istore_n 1, 1) := by decide +kernel
theorem dX1_init_14 : decode cX1_init 14 = .ok (.iload_n 1, 1) := by decide +kernel
theorem dX1_init_15 : decode cX1_init 15 = .ok (.aload_n 0, 1) := by decide +kernel
theorem dX1_init_16 : decode cX1_init 16 = .ok (.getfield 9, 3) := by decide +kernel
theorem dX1_init_19 : decode cX1_init 19 = .ok (.arraylength, 1) := by decide +kernel
theorem dX1_init_20 : decode cX1_init 20 = .ok (.if_icmp .ge 17, 3) := by decide +kernel
theorem dX1_init_23 : decode cX1_init 23 = .ok (.aload_n 0, 1) := by decide +kernel
theorem dX1_init_24 : decode cX1_init 24 = .ok (.getfield 9, 3) := by decide +kernel
theorem dX1_init_27 : decode cX1_init 27 = .ok (.iload_n 1, 1) := by decide +kernel
theorem dX1_init_28 : decode cX1_init 28 = .ok (.bipush 30, 2) := by decide +kernel
theorem dX1_init_30 : decode cX1_init 30 = .ok (.iastore, 1) := by decide +kernel
theorem dX1_init_31 : decode cX1_init 31 = .ok (.iinc 1 1, 3) := by decide +kernel
theorem dX1_init_34 : decode cX1_init 34 = .ok (.goto (-20), 3) := by decide +kernel
theorem dX1_init_37 : decode cX1_init 37 = .ok (.aload_n 0, 1) := by decide +kernel
theorem dX1_init_38 : decode cX1_init 38 = .ok (.bipush 6, 2) := by decide +kernel
theorem dX1_init_40 : decode cX1_init 40 = .ok (.newarray .int, 2) := by decide +kernel
theorem dX1_init_42 : decode cX1_init 42 = .ok (.putfield 15, 3) := by decide +kernel
theorem dX1_init_45 : decode cX1_init 45 = .ok (.aload_n 0, 1) := by decide +kernel
theorem dX1_init_46 : decode cX1_init 46 = .ok (.bipush 6, 2) := by decide +kernel
theorem dX1_init_48 : decode cX1_init 48 = .ok (.anewarray 18, 3) := by decide +kernel
theorem dX1_init_51 : decode cX1_init 51 = .ok (.putfield 20, 3) := by decide +kernel
theorem dX1_init_54 : decode cX1_init 54 = .ok (.iconst 0, 1) := by decide +kernel
theorem dX1_init_55 : decode cX1_init 55 = .ok (.istore_n 1, 1) := by decide +kernel
theorem dX1_init_56 : decode cX1_init 56 = .ok (.iload_n 1, 1) := by decide +kernel
theorem dX1_init_57 : decode cX1_init 57 = .ok (.aload_n 0, 1) := by decide +kernel
theorem dX1_init_58 : decode cX1_init 58 = .ok (.getfield 20, 3) := by decide +kernel
theorem dX1_init_61 : decode cX1_init 61 = .ok (.arraylength, 1) := by decide +kernel
theorem dX1_init_62 : decode cX1_init 62 = .ok (.if_icmp .ge 22, 3) := by decide +kernel
theorem dX1_init_65 : decode cX1_init 65 = .ok (.aload_n 0, 1) := by decide +kernel
theorem dX1_init_66 : decode cX1_init 66 = .ok (.getfield 20, 3) := by decide +kernel
theorem dX1_init_69 : decode cX1_init 69 = .ok (.iload_n 1, 1) := by decide +kernel
theorem dX1_init_70 : decode cX1_init 70 = .ok (.new 18, 3) := by decide +kernel
theorem dX1_init_73 : decode cX1_init 73 = .ok (.dup, 1) := by decide +kernel
theorem dX1_init_74 : decode cX1_init 74 = .ok (.invokespecial 24, 3) := by decide +kernel
theorem dX1_init_77 : decode cX1_init 77 = .ok (.aastore, 1) := by decide +kernel
theorem dX1_init_78 : decode cX1_init 78 = .ok (.iinc 1 1, 3) := by decide +kernel
theorem dX1_init_81 : decode cX1_init 81 = .ok (.goto (-25), 3) := by decide +kernel
theorem dX1_init_84 : decode cX1_init 84 = .ok (.aload_n 0, 1) := by decide +kernel
theorem dX1_init_85 : decode cX1_init 85 = .ok (.iconst 5, 1) := by decide +kernel
theorem dX1_init_86 : decode cX1_init 86 = .ok (.anewarray 25, 3) := by decide +kernel
theorem dX1_init_89 : decode cX1_init 89 = .ok (.putfield 27, 3) := by decide +kernel
theorem dX1_init_92 : decode cX1_init 92 = .ok (.iconst 0, 1) := by decide +kernel
theorem dX1_init_93 : decode cX1_init 93 = .ok (.istore_n 1, 1) := by decide +kernel
theorem dX1_init_94 : decode cX1_init 94 = .ok (.iload_n 1, 1) := by decide +kernel
theorem dX1_init_95 : decode cX1_init 95 = .ok (.aload_n 0, 1) := by decide +kernel
theorem dX1_init_96 : decode cX1_init 96 = .ok (.getfield 27, 3) := by decide +kernel
theorem dX1_init_99 : decode cX1_init 99 = .ok (.arraylength, 1) := by decide +kernel
theorem dX1_init_100 : decode cX1_init 100 = .ok (.if_icmp .ge 22, 3) := by decide +kernel
theorem dX1_init_103 : decode cX1_init 103 = .ok (.aload_n 0, 1) := by decide +kernel
theorem dX1_init_104 : decode cX1_init 104 = .ok (.getfield 27, 3) := by decide +kernel
theorem dX1_init_107 : decode cX1_init 107 = .ok (.iload_n 1, 1) := by decide +kernel
theorem dX1_init_108 : decode cX1_init 108 = .ok (.new 25, 3) := by decide +kernel
theorem dX1_init_111 : decode cX1_init 111 = .ok (.dup, 1) := by decide +kernel
theorem dX1_init_112 : decode cX1_init 112 = .ok (.invokespecial 31, 3) := by decide +kernel
theorem dX1_init_115 : decode cX1_init 115 = .ok (.aastore, 1) := by decide +kernel
theorem dX1_init_116 : decode cX1_init 116 = .ok (.iinc 1 1, 3) := by decide +kernel
theorem dX1_init_119 : decode cX1_init 119 = .ok (.goto (-25), 3) := by decide +kernel
theorem dX1_init_122 : decode cX1_init 122 = .ok (.return_, 1) := by decide +kernel
theorem dX1_copyFrom_0 : decode cX1_copyFrom 0 = .ok (.iconst 0, 1) := by decide +kernel
theorem dX1_copyFrom_1 : decode cX1_copyFrom 1 = .ok (.istore_n 2, 1) := by decide +kernel
theorem dX1_copyFrom_2 : decode cX1_copyFrom 2 = .ok (.iload_n 2, 1) := by decide +kernel
theorem dX1_copyFrom_3 : decode cX1_copyFrom 3 = .ok (.aload_n 0, 1) := by decide +kernel
theorem dX1_copyFrom_4 : decode cX1_copyFrom 4 = .ok (.getfield 9, 3) := by decide +kernel
theorem dX1_copyFrom_7 : decode cX1_copyFrom 7 = .ok (.arraylength, 1) := by decide +kernel
theorem dX1_copyFrom_8 : decode cX1_copyFrom 8 = .ok (.if_icmp .ge 20, 3) := by decide +kernel
theorem dX1_copyFrom_11 : decode cX1_copyFrom 11 = .ok (.aload_n 0, 1) := by decide +kernel
theorem dX1_copyFrom_12 : decode cX1_copyFrom 12 = .ok (.getfield 9, 3) := by decide +kernel
theorem dX1_copyFrom_15 : decode cX1_copyFrom 15 = .ok (.iload_n 2, 1) := by decide +kernel
theorem dX1_copyFrom_16 : decode cX1_copyFrom 16 = .ok (.aload_n 1, 1) := by decide +kernel
theorem dX1_copyFrom_17 : decode cX1_copyFrom 17 = .ok (.iload_n 2, 1) := by decide +kernel
theorem dX1_copyFrom_18 : decode cX1_copyFrom 18 = .ok (.invokevirtual 32, 3) := by decide +kernel
theorem dX1_copyFrom_21 : decode cX1_copyFrom 21 = .ok (.iastore, 1) := by decide +kernel
theorem dX1_copyFrom_22 : decode cX1_copyFrom 22 = .ok (.iinc 2 1, 3) := by decide +kernel
theorem dX1_copyFrom_25 : decode cX1_copyFrom 25 = .ok (.goto (-23), 3) := by decide +kernel
theorem dX1_copyFrom_28 : decode cX1_copyFrom 28 = .ok (.iconst 0, 1) := by decide +kernel
theorem dX1_copyFrom_29 : decode cX1_copyFrom 29 = .ok (.istore_n 2, 1) := by decide +kernel
theorem dX1_copyFrom_30 : decode cX1_copyFrom 30 = .ok (.iload_n 2, 1) := by decide +kernel
theorem dX1_copyFrom_31 : decode cX1_copyFrom 31 = .ok (.aload_n 0, 1) := by decide +kernel
theorem dX1_copyFrom_32 : decode cX1_copyFrom 32 = .ok (.getfield 15, 3) := by decide +kernel
theorem dX1_copyFrom_35 : decode cX1_copyFrom 35 = .ok (.arraylength, 1) := by decide +kernel
theorem dX1_copyFrom_36 : decode cX1_copyFrom 36 = .ok (.if_icmp .ge 20, 3) := by decide +kernel
theorem dX1_copyFrom_39 : decode cX1_copyFrom 39 = .ok (.aload_n 0, 1) := by decide +kernel
theorem dX1_copyFrom_40 : decode cX1_copyFrom 40 = .ok (.getfield 15, 3) := by decide +kernel
theorem dX1_copyFrom_43 : decode cX1_copyFrom 43 = .ok (.iload_n 2, 1) := by decide +kernel
theorem dX1_copyFrom_44 : decode cX1_copyFrom 44 = .ok (.aload_n 1, 1) := by decide +kernel
theorem dX1_copyFrom_45 : decode cX1_copyFrom 45 = .ok (.iload_n 2, 1) := by decide +kernel
theorem dX1_copyFrom_46 : decode cX1_copyFrom 46 = .ok (.invokevirtual 36, 3) := by decide +kernel
theorem dX1_copyFrom_49 : decode cX1_copyFrom 49 = .ok (.iastore, 1) := by decide +kernel
theorem dX1_copyFrom_50 : decode cX1_copyFrom 50 = .ok (.iinc 2 1, 3) := by decide +kernel
theorem dX1_copyFrom_53 : decode cX1_copyFrom 53 = .ok (.goto (-23), 3) := by decide +kernel
theorem dX1_copyFrom_56 : decode cX1_copyFrom 56 = .ok (.aload_n 0, 1) := by decide +kernel
theorem dX1_copyFrom_57 : decode cX1_copyFrom 57 = .ok (.aload_n 1, 1) := by decide +kernel
theorem dX1_copyFrom_58 : decode cX1_copyFrom 58 = .ok (.getfield 39, 3) := by decide +kernel
theorem dX1_copyFrom_61 : decode cX1_copyFrom 61 = .ok (.putfield 39, 3) := by decide +kernel
theorem dX1_copyFrom_64 : decode cX1_copyFrom 64 = .ok (.iconst 0, 1) := by decide +kernel
theorem dX1_copyFrom_65 : decode cX1_copyFrom 65 = .ok (.istore_n 2, 1) := by decide +kernel
theorem dX1_copyFrom_66 : decode cX1_copyFrom 66 = .ok (.iload_n 2, 1) := by decide +kernel
theorem dX1_copyFrom_67 : decode cX1_copyFrom 67 = .ok (.aload_n 0, 1) := by decide +kernel
theorem dX1_copyFrom_68 : decode cX1_copyFrom 68 = .ok (.getfield 39, 3) := by decide +kernel
theorem dX1_copyFrom_71 : decode cX1_copyFrom 71 = .ok (.if_icmp .ge 22, 3) := by decide +kernel
theorem dX1_copyFrom_74 : decode cX1_copyFrom 74 = .ok (.aload_n 0, 1) := by decide +kernel
theorem dX1_copyFrom_75 : decode cX1_copyFrom 75 = .ok (.iload_n 2, 1) := by decide +kernel
theorem dX1_copyFrom_76 : decode cX1_copyFrom 76 = .ok (.invokevirtual 43, 3) := by decide +kernel
theorem dX1_copyFrom_79 : decode cX1_copyFrom 79 = .ok (.aload_n 1, 1) := by decide +kernel
theorem dX1_copyFrom_80 : decode cX1_copyFrom 80 = .ok (.iload_n 2, 1) := by decide +kernel
theorem dX1_copyFrom_81 : decode cX1_copyFrom 81 = .ok (.invokevirtual 43, 3) := by decide +kernel
theorem dX1_copyFrom_84 : decode cX1_copyFrom 84 = .ok (.invokestatic 47, 3) := by decide +kernel
theorem dX1_copyFrom_87 : decode cX1_copyFrom 87 = .ok (.iinc 2 1, 3) := by decide +kernel
theorem dX1_copyFrom_90 : decode cX1_copyFrom 90 = .ok (.goto (-24), 3) := by decide +kernel
theorem dX1_copyFrom_93 : decode cX1_copyFrom 93 = .ok (.aload_n 0, 1) := by decide +kernel
theorem dX1_copyFrom_94 : decode cX1_copyFrom 94 = .ok (.aload_n 1, 1) := by decide +kernel
theorem dX1_copyFrom_95 : decode cX1_copyFrom 95 = .ok (.getfield 51, 3) := by decide +kernel
theorem dX1_copyFrom_98 : decode cX1_copyFrom 98 = .ok (.putfield 51, 3) := by decide +kernel
theorem dX1_copyFrom_101 : decode cX1_copyFrom 101 = .ok (.iconst 0, 1) := by decide +kernel
theorem dX1_copyFrom_102 : decode cX1_copyFrom 102 = .ok (.istore_n 2, 1) := by decide +kernel
theorem dX1_copyFrom_103 : decode cX1_copyFrom 103 = .ok (.iload_n 2, 1) := by decide +kernel
theorem dX1_copyFrom_104 : decode cX1_copyFrom 104 = .ok (.aload_n 0, 1) := by decide +kernel
theorem dX1_copyFrom_105 : decode cX1_copyFrom 105 = .ok (.getfield 51, 3) := by decide +kernel
theorem dX1_copyFrom_108 : decode cX1_copyFrom 108 = .ok (.if_icmp .ge 22, 3) := by decide +kernel
theorem dX1_copyFrom_111 : decode cX1_copyFrom 111 = .ok (.aload_n 0, 1) := by decide +kernel
theorem dX1_copyFrom_112 : decode cX1_copyFrom 112 = .ok (.iload_n 2, 1) := by decide +kernel
theorem dX1_copyFrom_113 : decode cX1_copyFrom 113 = .ok (.invokevirtual 54, 3) := by decide +kernel
theorem dX1_copyFrom_116 : decode cX1_copyFrom 116 = .ok (.aload_n 1, 1) := by decide +kernel
theorem dX1_copyFrom_117 : decode cX1_copyFrom 117 = .ok (.iload_n 2, 1) := by decide +kernel
theorem dX1_copyFrom_118 : decode cX1_copyFrom 118 = .ok (.invokevirtual 54, 3) := by decide +kernel
theorem dX1_copyFrom_121 : decode cX1_copyFrom 121 = .ok (.invokestatic 58, 3) := by decide +kernel
theorem dX1_copyFrom_124 : decode cX1_copyFrom 124 = .ok (.iinc 2 1, 3) := by decide +kernel
theorem dX1_copyFrom_127 : decode cX1_copyFrom 127 = .ok (.goto (-24), 3) := by decide +kernel
theorem dX1_copyFrom_130 : decode cX1_copyFrom 130 = .ok (.aload_n 0, 1) := by decide +kernel
theorem dX1_copyFrom_131 : decode cX1_copyFrom 131 = .ok (.aload_n 1, 1) := by decide +kernel
theorem dX1_copyFrom_132 : decode cX1_copyFrom 132 = .ok (.getfield 62, 3) := by decide +kernel
theorem dX1_copyFrom_135 : decode cX1_copyFrom 135 = .ok (.putfield 62, 3) := by decide +kernel
theorem dX1_copyFrom_138 : decode cX1_copyFrom 138 = .ok (.aload_n 0, 1) := by decide +kernel
theorem dX1_copyFrom_139 : decode cX1_copyFrom 139 = .ok (.aload_n 1, 1) := by decide +kernel
theorem dX1_copyFrom_140 : decode cX1_copyFrom 140 = .ok (.getfield 65, 3) := by decide +kernel
theorem dX1_copyFrom_143 : decode cX1_copyFrom 143 = .ok (.putfield 65, 3) := by decide +kernel
theorem dX1_copyFrom_146 : decode cX1_copyFrom 146 = .ok (.aload_n 0, 1) := by decide +kernel
theorem dX1_copyFrom_147 : decode cX1_copyFrom 147 = .ok (.aload_n 1, 1) := by decide +kernel
theorem dX1_copyFrom_148 : decode cX1_copyFrom 148 = .ok (.getfield 68, 3) := by decide +kernel
theorem dX1_copyFrom_151 : decode cX1_copyFrom 151 = .ok (.putfield 68, 3) := by decide +kernel
theorem dX1_copyFrom_154 : decode cX1_copyFrom 154 = .ok (.aload_n 0, 1) := by decide +kernel
theorem dX1_copyFrom_155 : decode cX1_copyFrom 155 = .ok (.aload_n 1, 1) := by decide +kernel
theorem dX1_copyFrom_156 : decode cX1_copyFrom 156 = .ok (.getfield 71, 3) := by decide +kernel
theorem dX1_copyFrom_159 : decode cX1_copyFrom 159 = .ok (.putfield 71, 3) := by decide +kernel
theorem dX1_copyFrom_162 : decode cX1_copyFrom 162 = .ok (.return_, 1) := by decide +kernel
theorem dX1_copyWeir_0 : decode cX1_copyWeir 0 = .ok (.aload_n 0, 1) := by decide +kernel
theorem dX1_copyWeir_1 : decode cX1_copyWeir 1 = .ok (.ifnull 12, 3) := by decide +kernel
theorem dX1_copyWeir_4 : decode cX1_copyWeir 4 = .ok (.aload_n 1, 1) := by decide +kernel
theorem dX1_copyWeir_5 : decode cX1_copyWeir 5 = .ok (.ifnull 8, 3) := by decide +kernel
theorem dX1_copyWeir_8 : decode cX1_copyWeir 8 = .ok (.aload_n 0, 1) := by decide +kernel
theorem dX1_copyWeir_9 : decode cX1_copyWeir 9 = .ok (.aload_n 1, 1) := by decide +kernel
theorem dX1_copyWeir_10 : decode cX1_copyWeir 10 = .ok (.invokevirtual 74, 3) := by decide +kernel
theorem dX1_copyWeir_13 : decode cX1_copyWeir 13 = .ok (.return_, 1) := by decide +kernel
theorem dX1_copyBarge_0 : decode cX1_copyBarge 0 = .ok (.aload_n 0, 1) := by decide +kernel
theorem dX1_copyBarge_1 : decode cX1_copyBarge 1 = .ok (.ifnull 12, 3) := by decide +kernel
theorem dX1_copyBarge_4 : decode cX1_copyBarge 4 = .ok (.aload_n 1, 1) := by decide +kernel
theorem dX1_copyBarge_5 : decode cX1_copyBarge 5 = .ok (.ifnull 8, 3) := by decide +kernel
theorem dX1_copyBarge_8 : decode cX1_copyBarge 8 = .ok (.aload_n 0, 1) := by decide +kernel
theorem dX1_copyBarge_9 : decode cX1_copyBarge 9 = .ok (.aload_n 1, 1) := by decide +kernel
theorem dX1_copyBarge_10 : decode cX1_copyBarge 10 = .ok (.invokevirtual 78, 3) := by decide +kernel
theorem dX1_copyBarge_13 : decode cX1_copyBarge 13 = .ok (.return_, 1) := by decide +kernel
theorem dX1_weirAt_0 : decode cX1_weirAt 0 = .ok (.iload_n 1, 1) := by decide +kernel
theorem dX1_weirAt_1 : decode cX1_weirAt 1 = .ok (.ifCond .lt 24, 3) := by decide +kernel
theorem dX1_weirAt_4 : decode cX1_weirAt 4 = .ok (.iload_n 1, 1) := by decide +kernel
theorem dX1_weirAt_5 : decode cX1_weirAt 5 = .ok (.aload_n 0, 1) := by decide +kernel
theorem dX1_weirAt_6 : decode cX1_weirAt 6 = .ok (.getfield 39, 3) := by decide +kernel
theorem dX1_weirAt_9 : decode cX1_weirAt 9 = .ok (.if_icmp .ge 16, 3) := by decide +kernel
theorem dX1_weirAt_12 : decode cX1_weirAt 12 = .ok (.iload_n 1, 1) := by decide +kernel
theorem dX1_weirAt_13 : decode cX1_weirAt 13 = .ok (.aload_n 0, 1) := by decide +kernel
theorem dX1_weirAt_14 : decode cX1_weirAt 14 = .ok (.getfield 20, 3) := by decide +kernel
theorem dX1_weirAt_17 : decode cX1_weirAt 17 = .ok (.arraylength, 1) := by decide +kernel
theorem dX1_weirAt_18 : decode cX1_weirAt 18 = .ok (.if_icmp .ge 7, 3) := by decide +kernel
theorem dX1_weirAt_21 : decode cX1_weirAt 21 = .ok (.iconst 1, 1) := by decide +kernel
theorem dX1_weirAt_22 : decode cX1_weirAt 22 = .ok (.goto 4, 3) := by decide +kernel
theorem dX1_weirAt_25 : decode cX1_weirAt 25 = .ok (.iconst 0, 1) := by decide +kernel
theorem dX1_weirAt_26 : decode cX1_weirAt 26 = .ok (.istore_n 2, 1) := by decide +kernel
theorem dX1_weirAt_27 : decode cX1_weirAt 27 = .ok (.iload_n 2, 1) := by decide +kernel
theorem dX1_weirAt_28 : decode cX1_weirAt 28 = .ok (.ifCond .eq 12, 3) := by decide +kernel
theorem dX1_weirAt_31 : decode cX1_weirAt 31 = .ok (.aload_n 0, 1) := by decide +kernel
theorem dX1_weirAt_32 : decode cX1_weirAt 32 = .ok (.getfield 20, 3) := by decide +kernel
theorem dX1_weirAt_35 : decode cX1_weirAt 35 = .ok (.iload_n 1, 1) := by decide +kernel
theorem dX1_weirAt_36 : decode cX1_weirAt 36 = .ok (.aaload, 1) := by decide +kernel
theorem dX1_weirAt_37 : decode cX1_weirAt 37 = .ok (.goto 4, 3) := by decide +kernel
theorem dX1_weirAt_40 : decode cX1_weirAt 40 = .ok (.aconst_null, 1) := by decide +kernel
theorem dX1_weirAt_41 : decode cX1_weirAt 41 = .ok (.areturn, 1) := by decide +kernel
theorem dX1_bargeAt_0 : decode cX1_bargeAt 0 = .ok (.iload_n 1, 1) := by decide +kernel
theorem dX1_bargeAt_1 : decode cX1_bargeAt 1 = .ok (.ifCond .lt 24, 3) := by decide +kernel
theorem dX1_bargeAt_4 : decode cX1_bargeAt 4 = .ok (.iload_n 1, 1) := by decide +kernel
theorem dX1_bargeAt_5 : decode cX1_bargeAt 5 = .ok (.aload_n 0, 1) := by decide +kernel
theorem dX1_bargeAt_6 : decode cX1_bargeAt 6 = .ok (.getfield 51, 3) := by decide +kernel
theorem dX1_bargeAt_9 : decode cX1_bargeAt 9 = .ok (.if_icmp .ge 16, 3) := by decide +kernel
theorem dX1_bargeAt_12 : decode cX1_bargeAt 12 = .ok (.iload_n 1, 1) := by decide +kernel
theorem dX1_bargeAt_13 : decode cX1_bargeAt 13 = .ok (.aload_n 0, 1) := by decide +kernel
theorem dX1_bargeAt_14 : decode cX1_bargeAt 14 = .ok (.getfield 27, 3) := by decide +kernel
theorem dX1_bargeAt_17 : decode cX1_bargeAt 17 = .ok (.arraylength, 1) := by decide +kernel
theorem dX1_bargeAt_18 : decode cX1_bargeAt 18 = .ok (.if_icmp .ge 7, 3) := by decide +kernel
theorem dX1_bargeAt_21 : decode cX1_bargeAt 21 = .ok (.iconst 1, 1) := by decide +kernel
theorem dX1_bargeAt_22 : decode cX1_bargeAt 22 = .ok (.goto 4, 3) := by decide +kernel
theorem dX1_bargeAt_25 : decode cX1_bargeAt 25 = .ok (.iconst 0, 1) := by decide +kernel
theorem dX1_bargeAt_26 : decode cX1_bargeAt 26 = .ok (.istore_n 2, 1) := by decide +kernel
theorem dX1_bargeAt_27 : decode cX1_bargeAt 27 = .ok (.iload_n 2, 1) := by decide +kernel
theorem dX1_bargeAt_28 : decode cX1_bargeAt 28 = .ok (.ifCond .eq 12, 3) := by decide +kernel
theorem dX1_bargeAt_31 : decode cX1_bargeAt 31 = .ok (.aload_n 0, 1) := by decide +kernel
theorem dX1_bargeAt_32 : decode cX1_bargeAt 32 = .ok (.getfield 27, 3) := by decide +kernel
theorem dX1_bargeAt_35 : decode cX1_bargeAt 35 = .ok (.iload_n 1, 1) := by decide +kernel
theorem dX1_bargeAt_36 : decode cX1_bargeAt 36 = .ok (.aaload, 1) := by decide +kernel
theorem dX1_bargeAt_37 : decode cX1_bargeAt 37 = .ok (.goto 4, 3) := by decide +kernel
theorem dX1_bargeAt_40 : decode cX1_bargeAt 40 = .ok (.aconst_null, 1) := by decide +kernel
theorem dX1_bargeAt_41 : decode cX1_bargeAt 41 = .ok (.areturn, 1) := by decide +kernel
theorem dX1_inOrder_0 : decode cX1_inOrder 0 = .ok (.iload_n 1, 1) := by decide +kernel
theorem dX1_inOrder_1 : decode cX1_inOrder 1 = .ok (.ifCond .lt 21, 3) := by decide +kernel
theorem dX1_inOrder_4 : decode cX1_inOrder 4 = .ok (.iload_n 1, 1) := by decide +kernel
theorem dX1_inOrder_5 : decode cX1_inOrder 5 = .ok (.aload_n 0, 1) := by decide +kernel
theorem dX1_inOrder_6 : decode cX1_inOrder 6 = .ok (.getfield 15, 3) := by decide +kernel
theorem dX1_inOrder_9 : decode cX1_inOrder 9 = .ok (.arraylength, 1) := by decide +kernel
theorem dX1_inOrder_10 : decode cX1_inOrder 10 = .ok (.if_icmp .ge 12, 3) := by decide +kernel
theorem dX1_inOrder_13 : decode cX1_inOrder 13 = .ok (.aload_n 0, 1) := by decide +kernel
theorem dX1_inOrder_14 : decode cX1_inOrder 14 = .ok (.getfield 15, 3) := by decide +kernel
theorem dX1_inOrder_17 : decode cX1_inOrder 17 = .ok (.iload_n 1, 1) := by decide +kernel
theorem dX1_inOrder_18 : decode cX1_inOrder 18 = .ok (.iaload, 1) := by decide +kernel
theorem dX1_inOrder_19 : decode cX1_inOrder 19 = .ok (.goto 4, 3) := by decide +kernel
theorem dX1_inOrder_22 : decode cX1_inOrder 22 = .ok (.iconst (-1), 1) := by decide +kernel
theorem dX1_inOrder_23 : decode cX1_inOrder 23 = .ok (.ireturn, 1) := by decide +kernel
theorem dX1_tableEels_0 : decode cX1_tableEels 0 = .ok (.iload_n 1, 1) := by decide +kernel
theorem dX1_tableEels_1 : decode cX1_tableEels 1 = .ok (.ifCond .lt 21, 3) := by decide +kernel
theorem dX1_tableEels_4 : decode cX1_tableEels 4 = .ok (.iload_n 1, 1) := by decide +kernel
theorem dX1_tableEels_5 : decode cX1_tableEels 5 = .ok (.aload_n 0, 1) := by decide +kernel
theorem dX1_tableEels_6 : decode cX1_tableEels 6 = .ok (.getfield 9, 3) := by decide +kernel
theorem dX1_tableEels_9 : decode cX1_tableEels 9 = .ok (.arraylength, 1) := by decide +kernel
theorem dX1_tableEels_10 : decode cX1_tableEels 10 = .ok (.if_icmp .ge 12, 3) := by decide +kernel
theorem dX1_tableEels_13 : decode cX1_tableEels 13 = .ok (.aload_n 0, 1) := by decide +kernel
theorem dX1_tableEels_14 : decode cX1_tableEels 14 = .ok (.getfield 9, 3) := by decide +kernel
theorem dX1_tableEels_17 : decode cX1_tableEels 17 = .ok (.iload_n 1, 1) := by decide +kernel
theorem dX1_tableEels_18 : decode cX1_tableEels 18 = .ok (.iaload, 1) := by decide +kernel
theorem dX1_tableEels_19 : decode cX1_tableEels 19 = .ok (.goto 4, 3) := by decide +kernel
theorem dX1_tableEels_22 : decode cX1_tableEels 22 = .ok (.iconst 0, 1) := by decide +kernel
theorem dX1_tableEels_23 : decode cX1_tableEels 23 = .ok (.ireturn, 1) := by decide +kernel
theorem dX1_setTableEels_0 : decode cX1_setTableEels 0 = .ok (.iload_n 1, 1) := by decide +kernel
theorem dX1_setTableEels_1 : decode cX1_setTableEels 1 = .ok (.ifCond .lt 19, 3) := by decide +kernel
theorem dX1_setTableEels_4 : decode cX1_setTableEels 4 = .ok (.iload_n 1, 1) := by decide +kernel
theorem dX1_setTableEels_5 : decode cX1_setTableEels 5 = .ok (.aload_n 0, 1) := by decide +kernel
theorem dX1_setTableEels_6 : decode cX1_setTableEels 6 = .ok (.getfield 9, 3) := by decide +kernel
theorem dX1_setTableEels_9 : decode cX1_setTableEels 9 = .ok (.arraylength, 1) := by decide +kernel
theorem dX1_setTableEels_10 : decode cX1_setTableEels 10 = .ok (.if_icmp .ge 10, 3) := by decide +kernel
theorem dX1_setTableEels_13 : decode cX1_setTableEels 13 = .ok (.aload_n 0, 1) := by decide +kernel
theorem dX1_setTableEels_14 : decode cX1_setTableEels 14 = .ok (.getfield 9, 3) := by decide +kernel
theorem dX1_setTableEels_17 : decode cX1_setTableEels 17 = .ok (.iload_n 1, 1) := by decide +kernel
theorem dX1_setTableEels_18 : decode cX1_setTableEels 18 = .ok (.iload_n 2, 1) := by decide +kernel
theorem dX1_setTableEels_19 : decode cX1_setTableEels 19 = .ok (.iastore, 1) := by decide +kernel
theorem dX1_setTableEels_20 : decode cX1_setTableEels 20 = .ok (.return_, 1) := by decide +kernel
theorem dX1_addWeir_0 : decode cX1_addWeir 0 = .ok (.aload_n 0, 1) := by decide +kernel
theorem dX1_addWeir_1 : decode cX1_addWeir 1 = .ok (.getfield 39, 3) := by decide +kernel
theorem dX1_addWeir_4 : decode cX1_addWeir 4 = .ok (.istore 4, 2) := by decide +kernel
theorem dX1_addWeir_6 : decode cX1_addWeir 6 = .ok (.aload_n 0, 1) := by decide +kernel
theorem dX1_addWeir_7 : decode cX1_addWeir 7 = .ok (.iload 4, 2) := by decide +kernel
theorem dX1_addWeir_9 : decode cX1_addWeir 9 = .ok (.iload_n 1, 1) := by decide +kernel
theorem dX1_addWeir_10 : decode cX1_addWeir 10 = .ok (.invokevirtual 81, 3) := by decide +kernel
theorem dX1_addWeir_13 : decode cX1_addWeir 13 = .ok (.aload_n 0, 1) := by decide +kernel
theorem dX1_addWeir_14 : decode cX1_addWeir 14 = .ok (.dup, 1) := by decide +kernel
theorem dX1_addWeir_15 : decode cX1_addWeir 15 = .ok (.getfield 39, 3) := by decide +kernel
theorem dX1_addWeir_18 : decode cX1_addWeir 18 = .ok (.iconst 1, 1) := by decide +kernel
theorem dX1_addWeir_19 : decode cX1_addWeir 19 = .ok (.iadd, 1) := by decide +kernel
theorem dX1_addWeir_20 : decode cX1_addWeir 20 = .ok (.putfield 39, 3) := by decide +kernel
theorem dX1_addWeir_23 : decode cX1_addWeir 23 = .ok (.aload_n 0, 1) := by decide +kernel
theorem dX1_addWeir_24 : decode cX1_addWeir 24 = .ok (.iload 4, 2) := by decide +kernel
theorem dX1_addWeir_26 : decode cX1_addWeir 26 = .ok (.invokevirtual 43, 3) := by decide +kernel
theorem dX1_addWeir_29 : decode cX1_addWeir 29 = .ok (.astore 5, 2) := by decide +kernel
theorem dX1_addWeir_31 : decode cX1_addWeir 31 = .ok (.aload 5, 2) := by decide +kernel
theorem dX1_addWeir_33 : decode cX1_addWeir 33 = .ok (.ifnull 11, 3) := by decide +kernel
theorem dX1_addWeir_36 : decode cX1_addWeir 36 = .ok (.aload 5, 2) := by decide +kernel
theorem dX1_addWeir_38 : decode cX1_addWeir 38 = .ok (.iload_n 1, 1) := by decide +kernel
theorem dX1_addWeir_39 : decode cX1_addWeir 39 = .ok (.iload_n 2, 1) := by decide +kernel
theorem dX1_addWeir_40 : decode cX1_addWeir 40 = .ok (.iload_n 3, 1) := by decide +kernel
theorem dX1_addWeir_41 : decode cX1_addWeir 41 = .ok (.invokevirtual 85, 3) := by decide +kernel
theorem dX1_addWeir_44 : decode cX1_addWeir 44 = .ok (.iload 4, 2) := by decide +kernel
theorem dX1_addWeir_46 : decode cX1_addWeir 46 = .ok (.ireturn, 1) := by decide +kernel
theorem dX1_putInOrder_0 : decode cX1_putInOrder 0 = .ok (.iload_n 1, 1) := by decide +kernel
theorem dX1_putInOrder_1 : decode cX1_putInOrder 1 = .ok (.istore_n 3, 1) := by decide +kernel
theorem dX1_putInOrder_2 : decode cX1_putInOrder 2 = .ok (.iload_n 3, 1) := by decide +kernel
theorem dX1_putInOrder_3 : decode cX1_putInOrder 3 = .ok (.ifCond .le 48, 3) := by decide +kernel
theorem dX1_putInOrder_6 : decode cX1_putInOrder 6 = .ok (.iload_n 3, 1) := by decide +kernel
theorem dX1_putInOrder_7 : decode cX1_putInOrder 7 = .ok (.aload_n 0, 1) := by decide +kernel
theorem dX1_putInOrder_8 : decode cX1_putInOrder 8 = .ok (.getfield 15, 3) := by decide +kernel
theorem dX1_putInOrder_11 : decode cX1_putInOrder 11 = .ok (.arraylength, 1) := by decide +kernel
theorem dX1_putInOrder_12 : decode cX1_putInOrder 12 = .ok (.if_icmp .ge 39, 3) := by decide +kernel
theorem dX1_putInOrder_15 : decode cX1_putInOrder 15 = .ok (.aload_n 0, 1) := by decide +kernel
theorem dX1_putInOrder_16 : decode cX1_putInOrder 16 = .ok (.aload_n 0, 1) := by decide +kernel
theorem dX1_putInOrder_17 : decode cX1_putInOrder 17 = .ok (.getfield 15, 3) := by decide +kernel
theorem dX1_putInOrder_20 : decode cX1_putInOrder 20 = .ok (.iload_n 3, 1) := by decide +kernel
theorem dX1_putInOrder_21 : decode cX1_putInOrder 21 = .ok (.iconst 1, 1) := by decide +kernel
theorem dX1_putInOrder_22 : decode cX1_putInOrder 22 = .ok (.isub, 1) := by decide +kernel
theorem dX1_putInOrder_23 : decode cX1_putInOrder 23 = .ok (.iaload, 1) := by decide +kernel
theorem dX1_putInOrder_24 : decode cX1_putInOrder 24 = .ok (.iload_n 2, 1) := by decide +kernel
theorem dX1_putInOrder_25 : decode cX1_putInOrder 25 = .ok (.invokevirtual 89, 3) := by decide +kernel
theorem dX1_putInOrder_28 : decode cX1_putInOrder 28 = .ok (.ifCond .eq 23, 3) := by decide +kernel
theorem dX1_putInOrder_31 : decode cX1_putInOrder 31 = .ok (.aload_n 0, 1) := by decide +kernel
theorem dX1_putInOrder_32 : decode cX1_putInOrder 32 = .ok (.getfield 15, 3) := by decide +kernel
theorem dX1_putInOrder_35 : decode cX1_putInOrder 35 = .ok (.iload_n 3, 1) := by decide +kernel
theorem dX1_putInOrder_36 : decode cX1_putInOrder 36 = .ok (.aload_n 0, 1) := by decide +kernel
theorem dX1_putInOrder_37 : decode cX1_putInOrder 37 = .ok (.getfield 15, 3) := by decide +kernel
theorem dX1_putInOrder_40 : decode cX1_putInOrder 40 = .ok (.iload_n 3, 1) := by decide +kernel
theorem dX1_putInOrder_41 : decode cX1_putInOrder 41 = .ok (.iconst 1, 1) := by decide +kernel
theorem dX1_putInOrder_42 : decode cX1_putInOrder 42 = .ok (.isub, 1) := by decide +kernel
theorem dX1_putInOrder_43 : decode cX1_putInOrder 43 = .ok (.iaload, 1) := by decide +kernel
theorem dX1_putInOrder_44 : decode cX1_putInOrder 44 = .ok (.iastore, 1) := by decide +kernel
theorem dX1_putInOrder_45 : decode cX1_putInOrder 45 = .ok (.iinc 3 (-1), 3) := by decide +kernel
theorem dX1_putInOrder_48 : decode cX1_putInOrder 48 = .ok (.goto (-46), 3) := by decide +kernel
theorem dX1_putInOrder_51 : decode cX1_putInOrder 51 = .ok (.iload_n 3, 1) := by decide +kernel
theorem dX1_putInOrder_52 : decode cX1_putInOrder 52 = .ok (.ifCond .lt 19, 3) := by decide +kernel
theorem dX1_putInOrder_55 : decode cX1_putInOrder 55 = .ok (.iload_n 3, 1) := by decide +kernel
theorem dX1_putInOrder_56 : decode cX1_putInOrder 56 = .ok (.aload_n 0, 1) := by decide +kernel
theorem dX1_putInOrder_57 : decode cX1_putInOrder 57 = .ok (.getfield 15, 3) := by decide +kernel
theorem dX1_putInOrder_60 : decode cX1_putInOrder 60 = .ok (.arraylength, 1) := by decide +kernel
theorem dX1_putInOrder_61 : decode cX1_putInOrder 61 = .ok (.if_icmp .ge 10, 3) := by decide +kernel
theorem dX1_putInOrder_64 : decode cX1_putInOrder 64 = .ok (.aload_n 0, 1) := by decide +kernel
theorem dX1_putInOrder_65 : decode cX1_putInOrder 65 = .ok (.getfield 15, 3) := by decide +kernel
theorem dX1_putInOrder_68 : decode cX1_putInOrder 68 = .ok (.iload_n 3, 1) := by decide +kernel
theorem dX1_putInOrder_69 : decode cX1_putInOrder 69 = .ok (.iload_n 1, 1) := by decide +kernel
theorem dX1_putInOrder_70 : decode cX1_putInOrder 70 = .ok (.iastore, 1) := by decide +kernel
theorem dX1_putInOrder_71 : decode cX1_putInOrder 71 = .ok (.return_, 1) := by decide +kernel
theorem dX1_isSeawardsOf_0 : decode cX1_isSeawardsOf 0 = .ok (.aload_n 0, 1) := by decide +kernel
theorem dX1_isSeawardsOf_1 : decode cX1_isSeawardsOf 1 = .ok (.iload_n 1, 1) := by decide +kernel
theorem dX1_isSeawardsOf_2 : decode cX1_isSeawardsOf 2 = .ok (.invokevirtual 43, 3) := by decide +kernel
