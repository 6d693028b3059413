theorem dX4_counted_12 : decode cX4_counted 12 = .ok (.iconst 1, 1) := by decide +kernel
theorem dX4_counted_13 : decode cX4_counted 13 = .ok (.aload_n 0, 1) := by decide +kernel
theorem dX4_counted_14 : decode cX4_counted 14 = .ok (.invokevirtual 75, 3) := by decide +kernel
theorem dX4_counted_17 : decode cX4_counted 17 = .ok (.iastore, 1) := by decide +kernel
theorem dX4_counted_18 : decode cX4_counted 18 = .ok (.dup, 1) := by decide +kernel
theorem dX4_counted_19 : decode cX4_counted 19 = .ok (.iconst 2, 1) := by decide +kernel
theorem dX4_counted_20 : decode cX4_counted 20 = .ok (.aload_n 0, 1) := by decide +kernel
theorem dX4_counted_21 : decode cX4_counted 21 = .ok (.invokevirtual 83, 3) := by decide +kernel
theorem dX4_counted_24 : decode cX4_counted 24 = .ok (.iastore, 1) := by decide +kernel
theorem dX4_counted_25 : decode cX4_counted 25 = .ok (.dup, 1) := by decide +kernel
theorem dX4_counted_26 : decode cX4_counted 26 = .ok (.iconst 3, 1) := by decide +kernel
theorem dX4_counted_27 : decode cX4_counted 27 = .ok (.aload_n 0, 1) := by decide +kernel
theorem dX4_counted_28 : decode cX4_counted 28 = .ok (.getfield 3, 3) := by decide +kernel
theorem dX4_counted_31 : decode cX4_counted 31 = .ok (.getfield 86, 3) := by decide +kernel
theorem dX4_counted_34 : decode cX4_counted 34 = .ok (.iastore, 1) := by decide +kernel
theorem dX4_counted_35 : decode cX4_counted 35 = .ok (.dup, 1) := by decide +kernel
theorem dX4_counted_36 : decode cX4_counted 36 = .ok (.iconst 4, 1) := by decide +kernel
theorem dX4_counted_37 : decode cX4_counted 37 = .ok (.aload_n 0, 1) := by decide +kernel
theorem dX4_counted_38 : decode cX4_counted 38 = .ok (.invokevirtual 128, 3) := by decide +kernel
theorem dX4_counted_41 : decode cX4_counted 41 = .ok (.iastore, 1) := by decide +kernel
theorem dX4_counted_42 : decode cX4_counted 42 = .ok (.dup, 1) := by decide +kernel
theorem dX4_counted_43 : decode cX4_counted 43 = .ok (.iconst 5, 1) := by decide +kernel
theorem dX4_counted_44 : decode cX4_counted 44 = .ok (.aload_n 0, 1) := by decide +kernel
theorem dX4_counted_45 : decode cX4_counted 45 = .ok (.getfield 56, 3) := by decide +kernel
theorem dX4_counted_48 : decode cX4_counted 48 = .ok (.iastore, 1) := by decide +kernel
theorem dX4_counted_49 : decode cX4_counted 49 = .ok (.dup, 1) := by decide +kernel
theorem dX4_counted_50 : decode cX4_counted 50 = .ok (.bipush 6, 2) := by decide +kernel
theorem dX4_counted_52 : decode cX4_counted 52 = .ok (.aload_n 0, 1) := by decide +kernel
theorem dX4_counted_53 : decode cX4_counted 53 = .ok (.getfield 59, 3) := by decide +kernel
theorem dX4_counted_56 : decode cX4_counted 56 = .ok (.iastore, 1) := by decide +kernel
theorem dX4_counted_57 : decode cX4_counted 57 = .ok (.dup, 1) := by decide +kernel
theorem dX4_counted_58 : decode cX4_counted 58 = .ok (.bipush 7, 2) := by decide +kernel
theorem dX4_counted_60 : decode cX4_counted 60 = .ok (.aload_n 0, 1) := by decide +kernel
theorem dX4_counted_61 : decode cX4_counted 61 = .ok (.getfield 62, 3) := by decide +kernel
theorem dX4_counted_64 : decode cX4_counted 64 = .ok (.iastore, 1) := by decide +kernel
theorem dX4_counted_65 : decode cX4_counted 65 = .ok (.dup, 1) := by decide +kernel
theorem dX4_counted_66 : decode cX4_counted 66 = .ok (.bipush 8, 2) := by decide +kernel
theorem dX4_counted_68 : decode cX4_counted 68 = .ok (.aload_n 0, 1) := by decide +kernel
theorem dX4_counted_69 : decode cX4_counted 69 = .ok (.getfield 65, 3) := by decide +kernel
theorem dX4_counted_72 : decode cX4_counted 72 = .ok (.iastore, 1) := by decide +kernel
theorem dX4_counted_73 : decode cX4_counted 73 = .ok (.dup, 1) := by decide +kernel
theorem dX4_counted_74 : decode cX4_counted 74 = .ok (.bipush 9, 2) := by decide +kernel
theorem dX4_counted_76 : decode cX4_counted 76 = .ok (.aload_n 0, 1) := by decide +kernel
theorem dX4_counted_77 : decode cX4_counted 77 = .ok (.invokevirtual 131, 3) := by decide +kernel
theorem dX4_counted_80 : decode cX4_counted 80 = .ok (.iastore, 1) := by decide +kernel
theorem dX4_counted_81 : decode cX4_counted 81 = .ok (.astore_n 2, 1) := by decide +kernel
theorem dX4_counted_82 : decode cX4_counted 82 = .ok (.aload_n 2, 1) := by decide +kernel
theorem dX4_counted_83 : decode cX4_counted 83 = .ok (.iload_n 1, 1) := by decide +kernel
theorem dX4_counted_84 : decode cX4_counted 84 = .ok (.iaload, 1) := by decide +kernel
theorem dX4_counted_85 : decode cX4_counted 85 = .ok (.ireturn, 1) := by decide +kernel
