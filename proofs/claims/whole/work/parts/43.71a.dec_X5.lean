theorem dX5_init_0 : decode cX5_init 0 = .ok (.aload_n 0, 1) := by decide +kernel
theorem dX5_init_1 : decode cX5_init 1 = .ok (.invokespecial 1, 3) := by decide +kernel
theorem dX5_init_4 : decode cX5_init 4 = .ok (.aload_n 0, 1) := by decide +kernel
theorem dX5_init_5 : decode cX5_init 5 = .ok (.bipush 7, 2) := by decide +kernel
theorem dX5_init_7 : decode cX5_init 7 = .ok (.newarray .int, 2) := by decide +kernel
theorem dX5_init_9 : decode cX5_init 9 = .ok (.dup, 1) := by decide +kernel
theorem dX5_init_10 : decode cX5_init 10 = .ok (.iconst 0, 1) := by decide +kernel
theorem dX5_init_11 : decode cX5_init 11 = .ok (.bipush 30, 2) := by decide +kernel
theorem dX5_init_13 : decode cX5_init 13 = .ok (.iastore, 1) := by decide +kernel
theorem dX5_init_14 : decode cX5_init 14 = .ok (.dup, 1) := by decide +kernel
theorem dX5_init_15 : decode cX5_init 15 = .ok (.iconst 1, 1) := by decide +kernel
theorem dX5_init_16 : decode cX5_init 16 = .ok (.bipush 30, 2) := by decide +kernel
theorem dX5_init_18 : decode cX5_init 18 = .ok (.iastore, 1) := by decide +kernel
theorem dX5_init_19 : decode cX5_init 19 = .ok (.dup, 1) := by decide +kernel
theorem dX5_init_20 : decode cX5_init 20 = .ok (.iconst 2, 1) := by decide +kernel
theorem dX5_init_21 : decode cX5_init 21 = .ok (.bipush 30, 2) := by decide +kernel
theorem dX5_init_23 : decode cX5_init 23 = .ok (.iastore, 1) := by decide +kernel
theorem dX5_init_24 : decode cX5_init 24 = .ok (.dup, 1) := by decide +kernel
theorem dX5_init_25 : decode cX5_init 25 = .ok (.iconst 3, 1) := by decide +kernel
theorem dX5_init_26 : decode cX5_init 26 = .ok (.bipush 30, 2) := by decide +kernel
theorem dX5_init_28 : decode cX5_init 28 = .ok (.iastore, 1) := by decide +kernel
theorem dX5_init_29 : decode cX5_init 29 = .ok (.dup, 1) := by decide +kernel
theorem dX5_init_30 : decode cX5_init 30 = .ok (.iconst 4, 1) := by decide +kernel
theorem dX5_init_31 : decode cX5_init 31 = .ok (.bipush 30, 2) := by decide +kernel
theorem dX5_init_33 : decode cX5_init 33 = .ok (.iastore, 1) := by decide +kernel
theorem dX5_init_34 : decode cX5_init 34 = .ok (.dup, 1) := by decide +kernel
theorem dX5_init_35 : decode cX5_init 35 = .ok (.iconst 5, 1) := by decide +kernel
theorem dX5_init_36 : decode cX5_init 36 = .ok (.bipush 30, 2) := by decide +kernel
theorem dX5_init_38 : decode cX5_init 38 = .ok (.iastore, 1) := by decide +kernel
theorem dX5_init_39 : decode cX5_init 39 = .ok (.dup, 1) := by decide +kernel
theorem dX5_init_40 : decode cX5_init 40 = .ok (.bipush 6, 2) := by decide +kernel
theorem dX5_init_42 : decode cX5_init 42 = .ok (.bipush 30, 2) := by decide +kernel
theorem dX5_init_44 : decode cX5_init 44 = .ok (.iastore, 1) := by decide +kernel
theorem dX5_init_45 : decode cX5_init 45 = .ok (.putfield 7, 3) := by decide +kernel
theorem dX5_init_48 : decode cX5_init 48 = .ok (.aload_n 0, 1) := by decide +kernel
theorem dX5_init_49 : decode cX5_init 49 = .ok (.bipush 6, 2) := by decide +kernel
theorem dX5_init_51 : decode cX5_init 51 = .ok (.newarray .int, 2) := by decide +kernel
theorem dX5_init_53 : decode cX5_init 53 = .ok (.putfield 13, 3) := by decide +kernel
theorem dX5_init_56 : decode cX5_init 56 = .ok (.aload_n 0, 1) := by decide +kernel
theorem dX5_init_57 : decode cX5_init 57 = .ok (.bipush 6, 2) := by decide +kernel
theorem dX5_init_59 : decode cX5_init 59 = .ok (.newarray .int, 2) := by decide +kernel
theorem dX5_init_61 : decode cX5_init 61 = .ok (.putfield 16, 3) := by decide +kernel
theorem dX5_init_64 : decode cX5_init 64 = .ok (.aload_n 0, 1) := by decide +kernel
theorem dX5_init_65 : decode cX5_init 65 = .ok (.new 19, 3) := by decide +kernel
theorem dX5_init_68 : decode cX5_init 68 = .ok (.dup, 1) := by decide +kernel
theorem dX5_init_69 : decode cX5_init 69 = .ok (.aload_n 0, 1) := by decide +kernel
theorem dX5_init_70 : decode cX5_init 70 = .ok (.invokespecial 21, 3) := by decide +kernel
theorem dX5_init_73 : decode cX5_init 73 = .ok (.putfield 24, 3) := by decide +kernel
theorem dX5_init_76 : decode cX5_init 76 = .ok (.aload_n 0, 1) := by decide +kernel
theorem dX5_init_77 : decode cX5_init 77 = .ok (.new 19, 3) := by decide +kernel
theorem dX5_init_80 : decode cX5_init 80 = .ok (.dup, 1) := by decide +kernel
theorem dX5_init_81 : decode cX5_init 81 = .ok (.aload_n 0, 1) := by decide +kernel
theorem dX5_init_82 : decode cX5_init 82 = .ok (.invokespecial 21, 3) := by decide +kernel
theorem dX5_init_85 : decode cX5_init 85 = .ok (.putfield 28, 3) := by decide +kernel
theorem dX5_init_88 : decode cX5_init 88 = .ok (.return_, 1) := by decide +kernel
theorem dX5_thrown_0 : decode cX5_thrown 0 = .ok (.aload_n 0, 1) := by decide +kernel
theorem dX5_thrown_1 : decode cX5_thrown 1 = .ok (.getfield 31, 3) := by decide +kernel
theorem dX5_thrown_4 : decode cX5_thrown 4 = .ok (.ireturn, 1) := by decide +kernel
theorem dX5_no_0 : decode cX5_no 0 = .ok (.aload_n 0, 1) := by decide +kernel
theorem dX5_no_1 : decode cX5_no 1 = .ok (.iload_n 1, 1) := by decide +kernel
theorem dX5_no_2 : decode cX5_no 2 = .ok (.putfield 31, 3) := by decide +kernel
theorem dX5_no_5 : decode cX5_no 5 = .ok (.iconst 0, 1) := by decide +kernel
theorem dX5_no_6 : decode cX5_no 6 = .ok (.ireturn, 1) := by decide +kernel
theorem dX5_isIn_0 : decode cX5_isIn 0 = .ok (.iload_n 0, 1) := by decide +kernel
theorem dX5_isIn_1 : decode cX5_isIn 1 = .ok (.iload_n 1, 1) := by decide +kernel
theorem dX5_isIn_2 : decode cX5_isIn 2 = .ok (.if_icmp .lt 12, 3) := by decide +kernel
theorem dX5_isIn_5 : decode cX5_isIn 5 = .ok (.iload_n 0, 1) := by decide +kernel
theorem dX5_isIn_6 : decode cX5_isIn 6 = .ok (.iload_n 2, 1) := by decide +kernel
theorem dX5_isIn_7 : decode cX5_isIn 7 = .ok (.if_icmp .gt 7, 3) := by decide +kernel
theorem dX5_isIn_10 : decode cX5_isIn 10 = .ok (.iconst 1, 1) := by decide +kernel
theorem dX5_isIn_11 : decode cX5_isIn 11 = .ok (.goto 4, 3) := by decide +kernel
theorem dX5_isIn_14 : decode cX5_isIn 14 = .ok (.iconst 0, 1) := by decide +kernel
theorem dX5_isIn_15 : decode cX5_isIn 15 = .ok (.ireturn, 1) := by decide +kernel
theorem dX5_isWeir_0 : decode cX5_isWeir 0 = .ok (.iload_n 1, 1) := by decide +kernel
theorem dX5_isWeir_1 : decode cX5_isWeir 1 = .ok (.iconst 0, 1) := by decide +kernel
theorem dX5_isWeir_2 : decode cX5_isWeir 2 = .ok (.aload_n 0, 1) := by decide +kernel
theorem dX5_isWeir_3 : decode cX5_isWeir 3 = .ok (.getfield 35, 3) := by decide +kernel
theorem dX5_isWeir_6 : decode cX5_isWeir 6 = .ok (.iconst 1, 1) := by decide +kernel
theorem dX5_isWeir_7 : decode cX5_isWeir 7 = .ok (.isub, 1) := by decide +kernel
theorem dX5_isWeir_8 : decode cX5_isWeir 8 = .ok (.invokestatic 38, 3) := by decide +kernel
theorem dX5_isWeir_11 : decode cX5_isWeir 11 = .ok (.ireturn, 1) := by decide +kernel
theorem dX5_isBarge_0 : decode cX5_isBarge 0 = .ok (.iload_n 1, 1) := by decide +kernel
theorem dX5_isBarge_1 : decode cX5_isBarge 1 = .ok (.iconst 0, 1) := by decide +kernel
theorem dX5_isBarge_2 : decode cX5_isBarge 2 = .ok (.aload_n 0, 1) := by decide +kernel
theorem dX5_isBarge_3 : decode cX5_isBarge 3 = .ok (.getfield 24, 3) := by decide +kernel
theorem dX5_isBarge_6 : decode cX5_isBarge 6 = .ok (.getfield 42, 3) := by decide +kernel
theorem dX5_isBarge_9 : decode cX5_isBarge 9 = .ok (.iconst 1, 1) := by decide +kernel
theorem dX5_isBarge_10 : decode cX5_isBarge 10 = .ok (.isub, 1) := by decide +kernel
theorem dX5_isBarge_11 : decode cX5_isBarge 11 = .ok (.invokestatic 38, 3) := by decide +kernel
theorem dX5_isBarge_14 : decode cX5_isBarge 14 = .ok (.ireturn, 1) := by decide +kernel
theorem dX5_weir_0 : decode cX5_weir 0 = .ok (.aload_n 0, 1) := by decide +kernel
theorem dX5_weir_1 : decode cX5_weir 1 = .ok (.iconst 0, 1) := by decide +kernel
theorem dX5_weir_2 : decode cX5_weir 2 = .ok (.putfield 31, 3) := by decide +kernel
theorem dX5_weir_5 : decode cX5_weir 5 = .ok (.iload_n 1, 1) := by decide +kernel
theorem dX5_weir_6 : decode cX5_weir 6 = .ok (.iconst 0, 1) := by decide +kernel
theorem dX5_weir_7 : decode cX5_weir 7 = .ok (.bipush 39, 2) := by decide +kernel
theorem dX5_weir_9 : decode cX5_weir 9 = .ok (.invokestatic 38, 3) := by decide +kernel
theorem dX5_weir_12 : decode cX5_weir 12 = .ok (.ifCond .eq 23, 3) := by decide +kernel
theorem dX5_weir_15 : decode cX5_weir 15 = .ok (.iload_n 2, 1) := by decide +kernel
theorem dX5_weir_16 : decode cX5_weir 16 = .ok (.iconst 1, 1) := by decide +kernel
theorem dX5_weir_17 : decode cX5_weir 17 = .ok (.bipush 30, 2) := by decide +kernel
theorem dX5_weir_19 : decode cX5_weir 19 = .ok (.invokestatic 38, 3) := by decide +kernel
theorem dX5_weir_22 : decode cX5_weir 22 = .ok (.ifCond .eq 13, 3) := by decide +kernel
theorem dX5_weir_25 : decode cX5_weir 25 = .ok (.iload_n 3, 1) := by decide +kernel
theorem dX5_weir_26 : decode cX5_weir 26 = .ok (.iconst 0, 1) := by decide +kernel
theorem dX5_weir_27 : decode cX5_weir 27 = .ok (.bipush 50, 2) := by decide +kernel
theorem dX5_weir_29 : decode cX5_weir 29 = .ok (.invokestatic 38, 3) := by decide +kernel
theorem dX5_weir_32 : decode cX5_weir 32 = .ok (.ifCond .ne 9, 3) := by decide +kernel
theorem dX5_weir_35 : decode cX5_weir 35 = .ok (.aload_n 0, 1) := by decide +kernel
theorem dX5_weir_36 : decode cX5_weir 36 = .ok (.iconst 1, 1) := by decide +kernel
theorem dX5_weir_37 : decode cX5_weir 37 = .ok (.invokevirtual 45, 3) := by decide +kernel
theorem dX5_weir_40 : decode cX5_weir 40 = .ok (.ireturn, 1) := by decide +kernel
theorem dX5_weir_41 : decode cX5_weir 41 = .ok (.aload_n 0, 1) := by decide +kernel
theorem dX5_weir_42 : decode cX5_weir 42 = .ok (.getfield 35, 3) := by decide +kernel
theorem dX5_weir_45 : decode cX5_weir 45 = .ok (.bipush 6, 2) := by decide +kernel
theorem dX5_weir_47 : decode cX5_weir 47 = .ok (.if_icmp .ne 9, 3) := by decide +kernel
theorem dX5_weir_50 : decode cX5_weir 50 = .ok (.aload_n 0, 1) := by decide +kernel
theorem dX5_weir_51 : decode cX5_weir 51 = .ok (.iconst 2, 1) := by decide +kernel
theorem dX5_weir_52 : decode cX5_weir 52 = .ok (.invokevirtual 45, 3) := by decide +kernel
theorem dX5_weir_55 : decode cX5_weir 55 = .ok (.ireturn, 1) := by decide +kernel
theorem dX5_weir_56 : decode cX5_weir 56 = .ok (.aload_n 0, 1) := by decide +kernel
theorem dX5_weir_57 : decode cX5_weir 57 = .ok (.getfield 13, 3) := by decide +kernel
theorem dX5_weir_60 : decode cX5_weir 60 = .ok (.aload_n 0, 1) := by decide +kernel
theorem dX5_weir_61 : decode cX5_weir 61 = .ok (.getfield 35, 3) := by decide +kernel
theorem dX5_weir_64 : decode cX5_weir 64 = .ok (.iload_n 1, 1) := by decide +kernel
theorem dX5_weir_65 : decode cX5_weir 65 = .ok (.iastore, 1) := by decide +kernel
theorem dX5_weir_66 : decode cX5_weir 66 = .ok (.aload_n 0, 1) := by decide +kernel
theorem dX5_weir_67 : decode cX5_weir 67 = .ok (.getfield 16, 3) := by decide +kernel
theorem dX5_weir_70 : decode cX5_weir 70 = .ok (.aload_n 0, 1) := by decide +kernel
theorem dX5_weir_71 : decode cX5_weir 71 = .ok (.getfield 35, 3) := by decide +kernel
theorem dX5_weir_74 : decode cX5_weir 74 = .ok (.iload_n 3, 1) := by decide +kernel
theorem dX5_weir_75 : decode cX5_weir 75 = .ok (.iastore, 1) := by decide +kernel
theorem dX5_weir_76 : decode cX5_weir 76 = .ok (.aload_n 0, 1) := by decide +kernel
theorem dX5_weir_77 : decode cX5_weir 77 = .ok (.getfield 24, 3) := by decide +kernel
theorem dX5_weir_80 : decode cX5_weir 80 = .ok (.getfield 49, 3) := by decide +kernel
theorem dX5_weir_83 : decode cX5_weir 83 = .ok (.aload_n 0, 1) := by decide +kernel
theorem dX5_weir_84 : decode cX5_weir 84 = .ok (.getfield 35, 3) := by decide +kernel
theorem dX5_weir_87 : decode cX5_weir 87 = .ok (.iload_n 2, 1) := by decide +kernel
theorem dX5_weir_88 : decode cX5_weir 88 = .ok (.iastore, 1) := by decide +kernel
theorem dX5_weir_89 : decode cX5_weir 89 = .ok (.aload_n 0, 1) := by decide +kernel
theorem dX5_weir_90 : decode cX5_weir 90 = .ok (.getfield 24, 3) := by decide +kernel
theorem dX5_weir_93 : decode cX5_weir 93 = .ok (.getfield 52, 3) := by decide +kernel
theorem dX5_weir_96 : decode cX5_weir 96 = .ok (.aload_n 0, 1) := by decide +kernel
theorem dX5_weir_97 : decode cX5_weir 97 = .ok (.getfield 35, 3) := by decide +kernel
theorem dX5_weir_100 : decode cX5_weir 100 = .ok (.bipush 100, 2) := by decide +kernel
theorem dX5_weir_102 : decode cX5_weir 102 = .ok (.iastore, 1) := by decide +kernel
theorem dX5_weir_103 : decode cX5_weir 103 = .ok (.aload_n 0, 1) := by decide +kernel
theorem dX5_weir_104 : decode cX5_weir 104 = .ok (.getfield 24, 3) := by decide +kernel
theorem dX5_weir_107 : decode cX5_weir 107 = .ok (.getfield 55, 3) := by decide +kernel
theorem dX5_weir_110 : decode cX5_weir 110 = .ok (.aload_n 0, 1) := by decide +kernel
theorem dX5_weir_111 : decode cX5_weir 111 = .ok (.getfield 35, 3) := by decide +kernel
theorem dX5_weir_114 : decode cX5_weir 114 = .ok (.bipush 20, 2) := by decide +kernel
theorem dX5_weir_116 : decode cX5_weir 116 = .ok (.iastore, 1) := by decide +kernel
theorem dX5_weir_117 : decode cX5_weir 117 = .ok (.aload_n 0, 1) := by decide +kernel
theorem dX5_weir_118 : decode cX5_weir 118 = .ok (.dup, 1) := by decide +kernel
theorem dX5_weir_119 : decode cX5_weir 119 = .ok (.getfield 35, 3) := by decide +kernel
theorem dX5_weir_122 : decode cX5_weir 122 = .ok (.iconst 1, 1) := by decide +kernel
theorem dX5_weir_123 : decode cX5_weir 123 = .ok (.iadd, 1) := by decide +kernel
theorem dX5_weir_124 : decode cX5_weir 124 = .ok (.putfield 35, 3) := by decide +kernel
theorem dX5_weir_127 : decode cX5_weir 127 = .ok (.aload_n 0, 1) := by decide +kernel
theorem dX5_weir_128 : decode cX5_weir 128 = .ok (.getfield 35, 3) := by decide +kernel
theorem dX5_weir_131 : decode cX5_weir 131 = .ok (.iconst 1, 1) := by decide +kernel
theorem dX5_weir_132 : decode cX5_weir 132 = .ok (.isub, 1) := by decide +kernel
theorem dX5_weir_133 : decode cX5_weir 133 = .ok (.ireturn, 1) := by decide +kernel
theorem dX5_gate_0 : decode cX5_gate 0 = .ok (.aload_n 0, 1) := by decide +kernel
theorem dX5_gate_1 : decode cX5_gate 1 = .ok (.aload_n 0, 1) := by decide +kernel
theorem dX5_gate_2 : decode cX5_gate 2 = .ok (.iload_n 1, 1) := by decide +kernel
theorem dX5_gate_3 : decode cX5_gate 3 = .ok (.invokevirtual 58, 3) := by decide +kernel
theorem dX5_gate_6 : decode cX5_gate 6 = .ok (.ifCond .ne 7, 3) := by decide +kernel
theorem dX5_gate_9 : decode cX5_gate 9 = .ok (.iconst 1, 1) := by decide +kernel
theorem dX5_gate_10 : decode cX5_gate 10 = .ok (.goto 19, 3) := by decide +kernel
theorem dX5_gate_13 : decode cX5_gate 13 = .ok (.aload_n 0, 1) := by decide +kernel
theorem dX5_gate_14 : decode cX5_gate 14 = .ok (.getfield 24, 3) := by decide +kernel
theorem dX5_gate_17 : decode cX5_gate 17 = .ok (.iload_n 1, 1) := by decide +kernel
theorem dX5_gate_18 : decode cX5_gate 18 = .ok (.invokevirtual 62, 3) := by decide +kernel
theorem dX5_gate_21 : decode cX5_gate 21 = .ok (.ifCond .eq 7, 3) := by decide +kernel
theorem dX5_gate_24 : decode cX5_gate 24 = .ok (.iconst 0, 1) := by decide +kernel
theorem dX5_gate_25 : decode cX5_gate 25 = .ok (.goto 4, 3) := by decide +kernel
theorem dX5_gate_28 : decode cX5_gate 28 = .ok (.iconst 2, 1) := by decide +kernel
theorem dX5_gate_29 : decode cX5_gate 29 = .ok (.putfield 31, 3) := by decide +kernel
theorem dX5_gate_32 : decode cX5_gate 32 = .ok (.aload_n 0, 1) := by decide +kernel
theorem dX5_gate_33 : decode cX5_gate 33 = .ok (.getfield 31, 3) := by decide +kernel
theorem dX5_gate_36 : decode cX5_gate 36 = .ok (.ifCond .eq 5, 3) := by decide +kernel
theorem dX5_gate_39 : decode cX5_gate 39 = .ok (.iconst 0, 1) := by decide +kernel
theorem dX5_gate_40 : decode cX5_gate 40 = .ok (.ireturn, 1) := by decide +kernel
theorem dX5_gate_41 : decode cX5_gate 41 = .ok (.aload_n 0, 1) := by decide +kernel
theorem dX5_gate_42 : decode cX5_gate 42 = .ok (.getfield 24, 3) := by decide +kernel
theorem dX5_gate_45 : decode cX5_gate 45 = .ok (.getfield 65, 3) := by decide +kernel
theorem dX5_gate_48 : decode cX5_gate 48 = .ok (.iload_n 1, 1) := by decide +kernel
theorem dX5_gate_49 : decode cX5_gate 49 = .ok (.iconst 1, 1) := by decide +kernel
theorem dX5_gate_50 : decode cX5_gate 50 = .ok (.aload_n 0, 1) := by decide +kernel
theorem dX5_gate_51 : decode cX5_gate 51 = .ok (.getfield 24, 3) := by decide +kernel
theorem dX5_gate_54 : decode cX5_gate 54 = .ok (.getfield 65, 3) := by decide +kernel
theorem dX5_gate_57 : decode cX5_gate 57 = .ok (.iload_n 1, 1) := by decide +kernel
theorem dX5_gate_58 : decode cX5_gate 58 = .ok (.iaload, 1) := by decide +kernel
theorem dX5_gate_59 : decode cX5_gate 59 = .ok (.isub, 1) := by decide +kernel
theorem dX5_gate_60 : decode cX5_gate 60 = .ok (.iastore, 1) := by decide +kernel
theorem dX5_gate_61 : decode cX5_gate 61 = .ok (.aload_n 0, 1) := by decide +kernel
theorem dX5_gate_62 : decode cX5_gate 62 = .ok (.getfield 24, 3) := by decide +kernel
theorem dX5_gate_65 : decode cX5_gate 65 = .ok (.getfield 65, 3) := by decide +kernel
theorem dX5_gate_68 : decode cX5_gate 68 = .ok (.iload_n 1, 1) := by decide +kernel
theorem dX5_gate_69 : decode cX5_gate 69 = .ok (.iaload, 1) := by decide +kernel
theorem dX5_gate_70 : decode cX5_gate 70 = .ok (.iconst 1, 1) := by decide +kernel
theorem dX5_gate_71 : decode cX5_gate 71 = .ok (.if_icmp .ne 7, 3) := by decide +kernel
theorem dX5_gate_74 : decode cX5_gate 74 = .ok (.iconst 1, 1) := by decide +kernel
theorem dX5_gate_75 : decode cX5_gate 75 = .ok (.goto 4, 3) := by decide +kernel
theorem dX5_gate_78 : decode cX5_gate 78 = .ok (.iconst 0, 1) := by decide +kernel
theorem dX5_gate_79 : decode cX5_gate 79 = .ok (.ireturn, 1) := by decide +kernel
theorem dX5_mend_0 : decode cX5_mend 0 = .ok (.aload_n 0, 1) := by decide +kernel
theorem dX5_mend_1 : decode cX5_mend 1 = .ok (.iconst 0, 1) := by decide +kernel
theorem dX5_mend_2 : decode cX5_mend 2 = .ok (.putfield 31, 3) := by decide +kernel
theorem dX5_mend_5 : decode cX5_mend 5 = .ok (.aload_n 0, 1) := by decide +kernel
theorem dX5_mend_6 : decode cX5_mend 6 = .ok (.iload_n 1, 1) := by decide +kernel
theorem dX5_mend_7 : decode cX5_mend 7 = .ok (.invokevirtual 58, 3) := by decide +kernel
theorem dX5_mend_10 : decode cX5_mend 10 = .ok (.ifCond .ne 9, 3) := by decide +kernel
theorem dX5_mend_13 : decode cX5_mend 13 = .ok (.aload_n 0, 1) := by decide +kernel
theorem dX5_mend_14 : decode cX5_mend 14 = .ok (.iconst 1, 1) := by decide +kernel
theorem dX5_mend_15 : decode cX5_mend 15 = .ok (.invokevirtual 45, 3) := by decide +kernel
theorem dX5_mend_18 : decode cX5_mend 18 = .ok (.ireturn, 1) := by decide +kernel
theorem dX5_mend_19 : decode cX5_mend 19 = .ok (.iload_n 2, 1) := by decide +kernel
theorem dX5_mend_20 : decode cX5_mend 20 = .ok (.iconst 1, 1) := by decide +kernel
theorem dX5_mend_21 : decode cX5_mend 21 = .ok (.bipush 100, 2) := by decide +kernel
theorem dX5_mend_23 : decode cX5_mend 23 = .ok (.invokestatic 38, 3) := by decide +kernel
theorem dX5_mend_26 : decode cX5_mend 26 = .ok (.ifCond .ne 9, 3) := by decide +kernel
theorem dX5_mend_29 : decode cX5_mend 29 = .ok (.aload_n 0, 1) := by decide +kernel
theorem dX5_mend_30 : decode cX5_mend 30 = .ok (.iconst 2, 1) := by decide +kernel
theorem dX5_mend_31 : decode cX5_mend 31 = .ok (.invokevirtual 45, 3) := by decide +kernel
theorem dX5_mend_34 : decode cX5_mend 34 = .ok (.ireturn, 1) := by decide +kernel
theorem dX5_mend_35 : decode cX5_mend 35 = .ok (.iload_n 2, 1) := by decide +kernel
theorem dX5_mend_36 : decode cX5_mend 36 = .ok (.iconst 4, 1) := by decide +kernel
theorem dX5_mend_37 : decode cX5_mend 37 = .ok (.iadd, 1) := by decide +kernel
theorem dX5_mend_38 : decode cX5_mend 38 = .ok (.iconst 5, 1) := by decide +kernel
theorem dX5_mend_39 : decode cX5_mend 39 = .ok (.idiv, 1) := by decide +kernel
theorem dX5_mend_40 : decode cX5_mend 40 = .ok (.istore_n 3, 1) := by decide +kernel
theorem dX5_mend_41 : decode cX5_mend 41 = .ok (.aload_n 0, 1) := by decide +kernel
theorem dX5_mend_42 : decode cX5_mend 42 = .ok (.getfield 24, 3) := by decide +kernel
theorem dX5_mend_45 : decode cX5_mend 45 = .ok (.iload_n 1, 1) := by decide +kernel
theorem dX5_mend_46 : decode cX5_mend 46 = .ok (.invokevirtual 62, 3) := by decide +kernel
theorem dX5_mend_49 : decode cX5_mend 49 = .ok (.ifCond .eq 32, 3) := by decide +kernel
theorem dX5_mend_52 : decode cX5_mend 52 = .ok (.aload_n 0, 1) := by decide +kernel
theorem dX5_mend_53 : decode cX5_mend 53 = .ok (.getfield 24, 3) := by decide +kernel
theorem dX5_mend_56 : decode cX5_mend 56 = .ok (.getfield 52, 3) := by decide +kernel
theorem dX5_mend_59 : decode cX5_mend 59 = .ok (.iload_n 1, 1) := by decide +kernel
theorem dX5_mend_60 : decode cX5_mend 60 = .ok (.iaload, 1) := by decide +kernel
theorem dX5_mend_61 : decode cX5_mend 61 = .ok (.iload_n 2, 1) := by decide +kernel
theorem dX5_mend_62 : decode cX5_mend 62 = .ok (.iadd, 1) := by decide +kernel
theorem dX5_mend_63 : decode cX5_mend 63 = .ok (.bipush 100, 2) := by decide +kernel
theorem dX5_mend_65 : decode cX5_mend 65 = .ok (.if_icmp .gt 16, 3) := by decide +kernel
theorem dX5_mend_68 : decode cX5_mend 68 = .ok (.aload_n 0, 1) := by decide +kernel
theorem dX5_mend_69 : decode cX5_mend 69 = .ok (.getfield 24, 3) := by decide +kernel
theorem dX5_mend_72 : decode cX5_mend 72 = .ok (.getfield 55, 3) := by decide +kernel
theorem dX5_mend_75 : decode cX5_mend 75 = .ok (.iload_n 1, 1) := by decide +kernel
theorem dX5_mend_76 : decode cX5_mend 76 = .ok (.iaload, 1) := by decide +kernel
theorem dX5_mend_77 : decode cX5_mend 77 = .ok (.iload_n 3, 1) := by decide +kernel
theorem dX5_mend_78 : decode cX5_mend 78 = .ok (.if_icmp .ge 9, 3) := by decide +kernel
theorem dX5_mend_81 : decode cX5_mend 81 = .ok (.aload_n 0, 1) := by decide +kernel
theorem dX5_mend_82 : decode cX5_mend 82 = .ok (.iconst 3, 1) := by decide +kernel
theorem dX5_mend_83 : decode cX5_mend 83 = .ok (.invokevirtual 45, 3) := by decide +kernel
theorem dX5_mend_86 : decode cX5_mend 86 = .ok (.ireturn, 1) := by decide +kernel
theorem dX5_mend_87 : decode cX5_mend 87 = .ok (.aload_n 0, 1) := by decide +kernel
theorem dX5_mend_88 : decode cX5_mend 88 = .ok (.getfield 24, 3) := by decide +kernel
theorem dX5_mend_91 : decode cX5_mend 91 = .ok (.getfield 55, 3) := by decide +kernel
theorem dX5_mend_94 : decode cX5_mend 94 = .ok (.iload_n 1, 1) := by decide +kernel
theorem dX5_mend_95 : decode cX5_mend 95 = .ok (.dup2, 1) := by decide +kernel
theorem dX5_mend_96 : decode cX5_mend 96 = .ok (.iaload, 1) := by decide +kernel
theorem dX5_mend_97 : decode cX5_mend 97 = .ok (.iload_n 3, 1) := by decide +kernel
theorem dX5_mend_98 : decode cX5_mend 98 = .ok (.isub, 1) := by decide +kernel
theorem dX5_mend_99 : decode cX5_mend 99 = .ok (.iastore, 1) := by decide +kernel
theorem dX5_mend_100 : decode cX5_mend 100 = .ok (.aload_n 0, 1) := by decide +kernel
theorem dX5_mend_101 : decode cX5_mend 101 = .ok (.getfield 24, 3) := by decide +kernel
theorem dX5_mend_104 : decode cX5_mend 104 = .ok (.getfield 52, 3) := by decide +kernel
theorem dX5_mend_107 : decode cX5_mend 107 = .ok (.iload_n 1, 1) := by decide +kernel
theorem dX5_mend_108 : decode cX5_mend 108 = .ok (.dup2, 1) := by decide +kernel
theorem dX5_mend_109 : decode cX5_mend 109 = .ok (.iaload, 1) := by decide +kernel
theorem dX5_mend_110 : decode cX5_mend 110 = .ok (.iload_n 2, 1) := by decide +kernel
theorem dX5_mend_111 : decode cX5_mend 111 = .ok (.iadd, 1) := by decide +kernel
theorem dX5_mend_112 : decode cX5_mend 112 = .ok (.iastore, 1) := by decide +kernel
theorem dX5_mend_113 : decode cX5_mend 113 = .ok (.aload_n 0, 1) := by decide +kernel
theorem dX5_mend_114 : decode cX5_mend 114 = .ok (.getfield 24, 3) := by decide +kernel
theorem dX5_mend_117 : decode cX5_mend 117 = .ok (.getfield 52, 3) := by decide +kernel
theorem dX5_mend_120 : decode cX5_mend 120 = .ok (.iload_n 1, 1) := by decide +kernel
theorem dX5_mend_121 : decode cX5_mend 121 = .ok (.iaload, 1) := by decide +kernel
theorem dX5_mend_122 : decode cX5_mend 122 = .ok (.ireturn, 1) := by decide +kernel
theorem dX5_drive_0 : decode cX5_drive 0 = .ok (.aload_n 0, 1) := by decide +kernel
theorem dX5_drive_1 : decode cX5_drive 1 = .ok (.iconst 0, 1) := by decide +kernel
theorem dX5_drive_2 : decode cX5_drive 2 = .ok (.putfield 31, 3) := by decide +kernel
theorem dX5_drive_5 : decode cX5_drive 5 = .ok (.aload_n 0, 1) := by decide +kernel
theorem dX5_drive_6 : decode cX5_drive 6 = .ok (.iload_n 1, 1) := by decide +kernel
theorem dX5_drive_7 : decode cX5_drive 7 = .ok (.invokevirtual 58, 3) := by decide +kernel
theorem dX5_drive_10 : decode cX5_drive 10 = .ok (.ifCond .ne 9, 3) := by decide +kernel
theorem dX5_drive_13 : decode cX5_drive 13 = .ok (.aload_n 0, 1) := by decide +kernel
theorem dX5_drive_14 : decode cX5_drive 14 = .ok (.iconst 1, 1) := by decide +kernel
theorem dX5_drive_15 : decode cX5_drive 15 = .ok (.invokevirtual 45, 3) := by decide +kernel
theorem dX5_drive_18 : decode cX5_drive 18 = .ok (.ireturn, 1) := by decide +kernel
theorem dX5_drive_19 : decode cX5_drive 19 = .ok (.iload_n 2, 1) := by decide +kernel
theorem dX5_drive_20 : decode cX5_drive 20 = .ok (.iconst 1, 1) := by decide +kernel
theorem dX5_drive_21 : decode cX5_drive 21 = .ok (.bipush 30, 2) := by decide +kernel
theorem dX5_drive_23 : decode cX5_drive 23 = .ok (.invokestatic 38, 3) := by decide +kernel
theorem dX5_drive_26 : decode cX5_drive 26 = .ok (.ifCond .ne 9, 3) := by decide +kernel
theorem dX5_drive_29 : decode cX5_drive 29 = .ok (.aload_n 0, 1) := by decide +kernel
theorem dX5_drive_30 : decode cX5_drive 30 = .ok (.iconst 2, 1) := by decide +kernel
theorem dX5_drive_31 : decode cX5_drive 31 = .ok (.invokevirtual 45, 3) := by decide +kernel
theorem dX5_drive_34 : decode cX5_drive 34 = .ok (.ireturn, 1) := by decide +kernel
theorem dX5_drive_35 : decode cX5_drive 35 = .ok (.aload_n 0, 1) := by decide +kernel
theorem dX5_drive_36 : decode cX5_drive 36 = .ok (.getfield 24, 3) := by decide +kernel
theorem dX5_drive_39 : decode cX5_drive 39 = .ok (.iload_n 1, 1) := by decide +kernel
theorem dX5_drive_40 : decode cX5_drive 40 = .ok (.invokevirtual 62, 3) := by decide +kernel
theorem dX5_drive_43 : decode cX5_drive 43 = .ok (.ifCond .eq 34, 3) := by decide +kernel
theorem dX5_drive_46 : decode cX5_drive 46 = .ok (.aload_n 0, 1) := by decide +kernel
theorem dX5_drive_47 : decode cX5_drive 47 = .ok (.getfield 24, 3) := by decide +kernel
theorem dX5_drive_50 : decode cX5_drive 50 = .ok (.getfield 49, 3) := by decide +kernel
theorem dX5_drive_53 : decode cX5_drive 53 = .ok (.iload_n 1, 1) := by decide +kernel
theorem dX5_drive_54 : decode cX5_drive 54 = .ok (.iaload, 1) := by decide +kernel
theorem dX5_drive_55 : decode cX5_drive 55 = .ok (.iload_n 2, 1) := by decide +kernel
theorem dX5_drive_56 : decode cX5_drive 56 = .ok (.iadd, 1) := by decide +kernel
theorem dX5_drive_57 : decode cX5_drive 57 = .ok (.bipush 30, 2) := by decide +kernel
theorem dX5_drive_59 : decode cX5_drive 59 = .ok (.if_icmp .gt 18, 3) := by decide +kernel
theorem dX5_drive_62 : decode cX5_drive 62 = .ok (.aload_n 0, 1) := by decide +kernel
theorem dX5_drive_63 : decode cX5_drive 63 = .ok (.getfield 24, 3) := by decide +kernel
theorem dX5_drive_66 : decode cX5_drive 66 = .ok (.getfield 55, 3) := by decide +kernel
theorem dX5_drive_69 : decode cX5_drive 69 = .ok (.iload_n 1, 1) := by decide +kernel
theorem dX5_drive_70 : decode cX5_drive 70 = .ok (.iaload, 1) := by decide +kernel
theorem dX5_drive_71 : decode cX5_drive 71 = .ok (.iconst 2, 1) := by decide +kernel
theorem dX5_drive_72 : decode cX5_drive 72 = .ok (.iload_n 2, 1) := by decide +kernel
theorem dX5_drive_73 : decode cX5_drive 73 = .ok (.imul, 1) := by decide +kernel
theorem dX5_drive_74 : decode cX5_drive 74 = .ok (.if_icmp .ge 9, 3) := by decide +kernel
theorem dX5_drive_77 : decode cX5_drive 77 = .ok (.aload_n 0, 1) := by decide +kernel
theorem dX5_drive_78 : decode cX5_drive 78 = .ok (.iconst 3, 1) := by decide +kernel
theorem dX5_drive_79 : decode cX5_drive 79 = .ok (.invokevirtual 45, 3) := by decide +kernel
theorem dX5_drive_82 : decode cX5_drive 82 = .ok (.ireturn, 1) := by decide +kernel
