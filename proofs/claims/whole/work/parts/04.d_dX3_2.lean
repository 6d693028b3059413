theorem dX3_advise_91 : decode cX3_advise 91 = .ok (.istore 4, 2) := by decide +kernel
theorem dX3_advise_93 : decode cX3_advise 93 = .ok (.iinc 6 1, 3) := by decide +kernel
theorem dX3_advise_96 : decode cX3_advise 96 = .ok (.goto (-35), 3) := by decide +kernel
theorem dX3_advise_99 : decode cX3_advise 99 = .ok (.iload 4, 2) := by decide +kernel
theorem dX3_advise_101 : decode cX3_advise 101 = .ok (.ireturn, 1) := by decide +kernel
theorem dX3_mean_0 : decode cX3_mean 0 = .ok (.aload_n 0, 1) := by decide +kernel
theorem dX3_mean_1 : decode cX3_mean 1 = .ok (.getfield 12, 3) := by decide +kernel
theorem dX3_mean_4 : decode cX3_mean 4 = .ok (.invokevirtual 179, 3) := by decide +kernel
theorem dX3_mean_7 : decode cX3_mean 7 = .ok (.istore_n 1, 1) := by decide +kernel
theorem dX3_mean_8 : decode cX3_mean 8 = .ok (.iload_n 1, 1) := by decide +kernel
theorem dX3_mean_9 : decode cX3_mean 9 = .ok (.ifCond .ne 7, 3) := by decide +kernel
theorem dX3_mean_12 : decode cX3_mean 12 = .ok (.dconst 0, 1) := by decide +kernel
theorem dX3_mean_13 : decode cX3_mean 13 = .ok (.goto 14, 3) := by decide +kernel
theorem dX3_mean_16 : decode cX3_mean 16 = .ok (.aload_n 0, 1) := by decide +kernel
theorem dX3_mean_17 : decode cX3_mean 17 = .ok (.getfield 12, 3) := by decide +kernel
theorem dX3_mean_20 : decode cX3_mean 20 = .ok (.invokevirtual 182, 3) := by decide +kernel
theorem dX3_mean_23 : decode cX3_mean 23 = .ok (.i2d, 1) := by decide +kernel
theorem dX3_mean_24 : decode cX3_mean 24 = .ok (.iload_n 1, 1) := by decide +kernel
theorem dX3_mean_25 : decode cX3_mean 25 = .ok (.i2d, 1) := by decide +kernel
theorem dX3_mean_26 : decode cX3_mean 26 = .ok (.ddiv, 1) := by decide +kernel
theorem dX3_mean_27 : decode cX3_mean 27 = .ok (.dreturn, 1) := by decide +kernel
theorem dX3_digest_0 : decode cX3_digest 0 = .ok (.ldc2_w 185, 3) := by decide +kernel
theorem dX3_digest_3 : decode cX3_digest 3 = .ok (.lstore_n 1, 1) := by decide +kernel
theorem dX3_digest_4 : decode cX3_digest 4 = .ok (.iconst 0, 1) := by decide +kernel
theorem dX3_digest_5 : decode cX3_digest 5 = .ok (.istore_n 3, 1) := by decide +kernel
theorem dX3_digest_6 : decode cX3_digest 6 = .ok (.iload_n 3, 1) := by decide +kernel
theorem dX3_digest_7 : decode cX3_digest 7 = .ok (.bipush 9, 2) := by decide +kernel
theorem dX3_digest_9 : decode cX3_digest 9 = .ok (.if_icmp .gt 25, 3) := by decide +kernel
theorem dX3_digest_12 : decode cX3_digest 12 = .ok (.lload_n 1, 1) := by decide +kernel
theorem dX3_digest_13 : decode cX3_digest 13 = .ok (.ldc2_w 187, 3) := by decide +kernel
theorem dX3_digest_16 : decode cX3_digest 16 = .ok (.lmul, 1) := by decide +kernel
theorem dX3_digest_17 : decode cX3_digest 17 = .ok (.aload_n 0, 1) := by decide +kernel
theorem dX3_digest_18 : decode cX3_digest 18 = .ok (.getfield 12, 3) := by decide +kernel
theorem dX3_digest_21 : decode cX3_digest 21 = .ok (.iload_n 3, 1) := by decide +kernel
theorem dX3_digest_22 : decode cX3_digest 22 = .ok (.invokevirtual 133, 3) := by decide +kernel
theorem dX3_digest_25 : decode cX3_digest 25 = .ok (.i2l, 1) := by decide +kernel
theorem dX3_digest_26 : decode cX3_digest 26 = .ok (.ladd, 1) := by decide +kernel
theorem dX3_digest_27 : decode cX3_digest 27 = .ok (.lstore_n 1, 1) := by decide +kernel
theorem dX3_digest_28 : decode cX3_digest 28 = .ok (.iinc 3 1, 3) := by decide +kernel
theorem dX3_digest_31 : decode cX3_digest 31 = .ok (.goto (-25), 3) := by decide +kernel
theorem dX3_digest_34 : decode cX3_digest 34 = .ok (.iconst 0, 1) := by decide +kernel
theorem dX3_digest_35 : decode cX3_digest 35 = .ok (.istore_n 3, 1) := by decide +kernel
theorem dX3_digest_36 : decode cX3_digest 36 = .ok (.iload_n 3, 1) := by decide +kernel
theorem dX3_digest_37 : decode cX3_digest 37 = .ok (.bipush 7, 2) := by decide +kernel
theorem dX3_digest_39 : decode cX3_digest 39 = .ok (.if_icmp .ge 25, 3) := by decide +kernel
theorem dX3_digest_42 : decode cX3_digest 42 = .ok (.lload_n 1, 1) := by decide +kernel
theorem dX3_digest_43 : decode cX3_digest 43 = .ok (.ldc2_w 187, 3) := by decide +kernel
theorem dX3_digest_46 : decode cX3_digest 46 = .ok (.lmul, 1) := by decide +kernel
theorem dX3_digest_47 : decode cX3_digest 47 = .ok (.aload_n 0, 1) := by decide +kernel
theorem dX3_digest_48 : decode cX3_digest 48 = .ok (.getfield 12, 3) := by decide +kernel
theorem dX3_digest_51 : decode cX3_digest 51 = .ok (.iload_n 3, 1) := by decide +kernel
theorem dX3_digest_52 : decode cX3_digest 52 = .ok (.invokevirtual 98, 3) := by decide +kernel
theorem dX3_digest_55 : decode cX3_digest 55 = .ok (.i2l, 1) := by decide +kernel
theorem dX3_digest_56 : decode cX3_digest 56 = .ok (.ladd, 1) := by decide +kernel
theorem dX3_digest_57 : decode cX3_digest 57 = .ok (.lstore_n 1, 1) := by decide +kernel
theorem dX3_digest_58 : decode cX3_digest 58 = .ok (.iinc 3 1, 3) := by decide +kernel
theorem dX3_digest_61 : decode cX3_digest 61 = .ok (.goto (-25), 3) := by decide +kernel
theorem dX3_digest_64 : decode cX3_digest 64 = .ok (.aload_n 0, 1) := by decide +kernel
theorem dX3_digest_65 : decode cX3_digest 65 = .ok (.aload_n 0, 1) := by decide +kernel
theorem dX3_digest_66 : decode cX3_digest 66 = .ok (.lload_n 1, 1) := by decide +kernel
theorem dX3_digest_67 : decode cX3_digest 67 = .ok (.invokevirtual 189, 3) := by decide +kernel
theorem dX3_digest_70 : decode cX3_digest 70 = .ok (.invokevirtual 193, 3) := by decide +kernel
theorem dX3_digest_73 : decode cX3_digest 73 = .ok (.lreturn, 1) := by decide +kernel
theorem dX3_digestOfWeirs_0 : decode cX3_digestOfWeirs 0 = .ok (.lload_n 1, 1) := by decide +kernel
theorem dX3_digestOfWeirs_1 : decode cX3_digestOfWeirs 1 = .ok (.lstore_n 3, 1) := by decide +kernel
theorem dX3_digestOfWeirs_2 : decode cX3_digestOfWeirs 2 = .ok (.iconst 0, 1) := by decide +kernel
theorem dX3_digestOfWeirs_3 : decode cX3_digestOfWeirs 3 = .ok (.istore 5, 2) := by decide +kernel
theorem dX3_digestOfWeirs_5 : decode cX3_digestOfWeirs 5 = .ok (.iload 5, 2) := by decide +kernel
theorem dX3_digestOfWeirs_7 : decode cX3_digestOfWeirs 7 = .ok (.aload_n 0, 1) := by decide +kernel
theorem dX3_digestOfWeirs_8 : decode cX3_digestOfWeirs 8 = .ok (.getfield 12, 3) := by decide +kernel
theorem dX3_digestOfWeirs_11 : decode cX3_digestOfWeirs 11 = .ok (.getfield 30, 3) := by decide +kernel
theorem dX3_digestOfWeirs_14 : decode cX3_digestOfWeirs 14 = .ok (.if_icmp .ge 56, 3) := by decide +kernel
theorem dX3_digestOfWeirs_17 : decode cX3_digestOfWeirs 17 = .ok (.aload_n 0, 1) := by decide +kernel
theorem dX3_digestOfWeirs_18 : decode cX3_digestOfWeirs 18 = .ok (.getfield 12, 3) := by decide +kernel
theorem dX3_digestOfWeirs_21 : decode cX3_digestOfWeirs 21 = .ok (.iload 5, 2) := by decide +kernel
theorem dX3_digestOfWeirs_23 : decode cX3_digestOfWeirs 23 = .ok (.invokevirtual 43, 3) := by decide +kernel
theorem dX3_digestOfWeirs_26 : decode cX3_digestOfWeirs 26 = .ok (.astore 6, 2) := by decide +kernel
theorem dX3_digestOfWeirs_28 : decode cX3_digestOfWeirs 28 = .ok (.iconst 0, 1) := by decide +kernel
theorem dX3_digestOfWeirs_29 : decode cX3_digestOfWeirs 29 = .ok (.istore 7, 2) := by decide +kernel
theorem dX3_digestOfWeirs_31 : decode cX3_digestOfWeirs 31 = .ok (.iload 7, 2) := by decide +kernel
theorem dX3_digestOfWeirs_33 : decode cX3_digestOfWeirs 33 = .ok (.bipush 7, 2) := by decide +kernel
theorem dX3_digestOfWeirs_35 : decode cX3_digestOfWeirs 35 = .ok (.if_icmp .gt 29, 3) := by decide +kernel
theorem dX3_digestOfWeirs_38 : decode cX3_digestOfWeirs 38 = .ok (.aload 6, 2) := by decide +kernel
theorem dX3_digestOfWeirs_40 : decode cX3_digestOfWeirs 40 = .ok (.ifnull 24, 3) := by decide +kernel
theorem dX3_digestOfWeirs_43 : decode cX3_digestOfWeirs 43 = .ok (.lload_n 3, 1) := by decide +kernel
theorem dX3_digestOfWeirs_44 : decode cX3_digestOfWeirs 44 = .ok (.ldc2_w 187, 3) := by decide +kernel
theorem dX3_digestOfWeirs_47 : decode cX3_digestOfWeirs 47 = .ok (.lmul, 1) := by decide +kernel
theorem dX3_digestOfWeirs_48 : decode cX3_digestOfWeirs 48 = .ok (.aload 6, 2) := by decide +kernel
theorem dX3_digestOfWeirs_50 : decode cX3_digestOfWeirs 50 = .ok (.iload 7, 2) := by decide +kernel
theorem dX3_digestOfWeirs_52 : decode cX3_digestOfWeirs 52 = .ok (.invokevirtual 118, 3) := by decide +kernel
theorem dX3_digestOfWeirs_55 : decode cX3_digestOfWeirs 55 = .ok (.i2l, 1) := by decide +kernel
theorem dX3_digestOfWeirs_56 : decode cX3_digestOfWeirs 56 = .ok (.ladd, 1) := by decide +kernel
theorem dX3_digestOfWeirs_57 : decode cX3_digestOfWeirs 57 = .ok (.lstore_n 3, 1) := by decide +kernel
theorem dX3_digestOfWeirs_58 : decode cX3_digestOfWeirs 58 = .ok (.iinc 7 1, 3) := by decide +kernel
theorem dX3_digestOfWeirs_61 : decode cX3_digestOfWeirs 61 = .ok (.goto (-30), 3) := by decide +kernel
theorem dX3_digestOfWeirs_64 : decode cX3_digestOfWeirs 64 = .ok (.iinc 5 1, 3) := by decide +kernel
theorem dX3_digestOfWeirs_67 : decode cX3_digestOfWeirs 67 = .ok (.goto (-62), 3) := by decide +kernel
theorem dX3_digestOfWeirs_70 : decode cX3_digestOfWeirs 70 = .ok (.lload_n 3, 1) := by decide +kernel
theorem dX3_digestOfWeirs_71 : decode cX3_digestOfWeirs 71 = .ok (.lreturn, 1) := by decide +kernel
theorem dX3_digestOfBarges_0 : decode cX3_digestOfBarges 0 = .ok (.lload_n 1, 1) := by decide +kernel
theorem dX3_digestOfBarges_1 : decode cX3_digestOfBarges 1 = .ok (.lstore_n 3, 1) := by decide +kernel
theorem dX3_digestOfBarges_2 : decode cX3_digestOfBarges 2 = .ok (.iconst 0, 1) := by decide +kernel
theorem dX3_digestOfBarges_3 : decode cX3_digestOfBarges 3 = .ok (.istore 5, 2) := by decide +kernel
theorem dX3_digestOfBarges_5 : decode cX3_digestOfBarges 5 = .ok (.iload 5, 2) := by decide +kernel
theorem dX3_digestOfBarges_7 : decode cX3_digestOfBarges 7 = .ok (.aload_n 0, 1) := by decide +kernel
theorem dX3_digestOfBarges_8 : decode cX3_digestOfBarges 8 = .ok (.getfield 12, 3) := by decide +kernel
theorem dX3_digestOfBarges_11 : decode cX3_digestOfBarges 11 = .ok (.getfield 108, 3) := by decide +kernel
theorem dX3_digestOfBarges_14 : decode cX3_digestOfBarges 14 = .ok (.if_icmp .ge 59, 3) := by decide +kernel
theorem dX3_digestOfBarges_17 : decode cX3_digestOfBarges 17 = .ok (.aload_n 0, 1) := by decide +kernel
theorem dX3_digestOfBarges_18 : decode cX3_digestOfBarges 18 = .ok (.getfield 12, 3) := by decide +kernel
theorem dX3_digestOfBarges_21 : decode cX3_digestOfBarges 21 = .ok (.iload 5, 2) := by decide +kernel
theorem dX3_digestOfBarges_23 : decode cX3_digestOfBarges 23 = .ok (.invokevirtual 121, 3) := by decide +kernel
theorem dX3_digestOfBarges_26 : decode cX3_digestOfBarges 26 = .ok (.astore 6, 2) := by decide +kernel
theorem dX3_digestOfBarges_28 : decode cX3_digestOfBarges 28 = .ok (.iconst 0, 1) := by decide +kernel
theorem dX3_digestOfBarges_29 : decode cX3_digestOfBarges 29 = .ok (.istore 7, 2) := by decide +kernel
theorem dX3_digestOfBarges_31 : decode cX3_digestOfBarges 31 = .ok (.iload 7, 2) := by decide +kernel
theorem dX3_digestOfBarges_33 : decode cX3_digestOfBarges 33 = .ok (.iconst 3, 1) := by decide +kernel
theorem dX3_digestOfBarges_34 : decode cX3_digestOfBarges 34 = .ok (.if_icmp .gt 33, 3) := by decide +kernel
theorem dX3_digestOfBarges_37 : decode cX3_digestOfBarges 37 = .ok (.aload 6, 2) := by decide +kernel
theorem dX3_digestOfBarges_39 : decode cX3_digestOfBarges 39 = .ok (.ifnull 28, 3) := by decide +kernel
theorem dX3_digestOfBarges_42 : decode cX3_digestOfBarges 42 = .ok (.lload_n 3, 1) := by decide +kernel
theorem dX3_digestOfBarges_43 : decode cX3_digestOfBarges 43 = .ok (.ldc2_w 187, 3) := by decide +kernel
theorem dX3_digestOfBarges_46 : decode cX3_digestOfBarges 46 = .ok (.lmul, 1) := by decide +kernel
theorem dX3_digestOfBarges_47 : decode cX3_digestOfBarges 47 = .ok (.aload_n 0, 1) := by decide +kernel
theorem dX3_digestOfBarges_48 : decode cX3_digestOfBarges 48 = .ok (.getfield 12, 3) := by decide +kernel
theorem dX3_digestOfBarges_51 : decode cX3_digestOfBarges 51 = .ok (.aload 6, 2) := by decide +kernel
theorem dX3_digestOfBarges_53 : decode cX3_digestOfBarges 53 = .ok (.iload 7, 2) := by decide +kernel
theorem dX3_digestOfBarges_55 : decode cX3_digestOfBarges 55 = .ok (.invokevirtual 127, 3) := by decide +kernel
theorem dX3_digestOfBarges_58 : decode cX3_digestOfBarges 58 = .ok (.i2l, 1) := by decide +kernel
theorem dX3_digestOfBarges_59 : decode cX3_digestOfBarges 59 = .ok (.ladd, 1) := by decide +kernel
theorem dX3_digestOfBarges_60 : decode cX3_digestOfBarges 60 = .ok (.lstore_n 3, 1) := by decide +kernel
theorem dX3_digestOfBarges_61 : decode cX3_digestOfBarges 61 = .ok (.iinc 7 1, 3) := by decide +kernel
theorem dX3_digestOfBarges_64 : decode cX3_digestOfBarges 64 = .ok (.goto (-33), 3) := by decide +kernel
theorem dX3_digestOfBarges_67 : decode cX3_digestOfBarges 67 = .ok (.iinc 5 1, 3) := by decide +kernel
theorem dX3_digestOfBarges_70 : decode cX3_digestOfBarges 70 = .ok (.goto (-65), 3) := by decide +kernel
theorem dX3_digestOfBarges_73 : decode cX3_digestOfBarges 73 = .ok (.lload_n 3, 1) := by decide +kernel
theorem dX3_digestOfBarges_74 : decode cX3_digestOfBarges 74 = .ok (.lreturn, 1) := by decide +kernel
theorem dX3_eelsWithStakes_0 : decode cX3_eelsWithStakes 0 = .ok (.aload_n 0, 1) := by decide +kernel
theorem dX3_eelsWithStakes_1 : decode cX3_eelsWithStakes 1 = .ok (.getfield 16, 3) := by decide +kernel
theorem dX3_eelsWithStakes_4 : decode cX3_eelsWithStakes 4 = .ok (.aload_n 0, 1) := by decide +kernel
theorem dX3_eelsWithStakes_5 : decode cX3_eelsWithStakes 5 = .ok (.getfield 12, 3) := by decide +kernel
theorem dX3_eelsWithStakes_8 : decode cX3_eelsWithStakes 8 = .ok (.invokevirtual 149, 3) := by decide +kernel
theorem dX3_eelsWithStakes_11 : decode cX3_eelsWithStakes 11 = .ok (.aload_n 0, 1) := by decide +kernel
theorem dX3_eelsWithStakes_12 : decode cX3_eelsWithStakes 12 = .ok (.getfield 16, 3) := by decide +kernel
theorem dX3_eelsWithStakes_15 : decode cX3_eelsWithStakes 15 = .ok (.iload_n 1, 1) := by decide +kernel
theorem dX3_eelsWithStakes_16 : decode cX3_eelsWithStakes 16 = .ok (.invokevirtual 43, 3) := by decide +kernel
theorem dX3_eelsWithStakes_19 : decode cX3_eelsWithStakes 19 = .ok (.astore 4, 2) := by decide +kernel
theorem dX3_eelsWithStakes_21 : decode cX3_eelsWithStakes 21 = .ok (.aload 4, 2) := by decide +kernel
theorem dX3_eelsWithStakes_23 : decode cX3_eelsWithStakes 23 = .ok (.ifnonnull 5, 3) := by decide +kernel
theorem dX3_eelsWithStakes_26 : decode cX3_eelsWithStakes 26 = .ok (.iconst 0, 1) := by decide +kernel
theorem dX3_eelsWithStakes_27 : decode cX3_eelsWithStakes 27 = .ok (.ireturn, 1) := by decide +kernel
theorem dX3_eelsWithStakes_28 : decode cX3_eelsWithStakes 28 = .ok (.aload 4, 2) := by decide +kernel
theorem dX3_eelsWithStakes_30 : decode cX3_eelsWithStakes 30 = .ok (.iload_n 2, 1) := by decide +kernel
theorem dX3_eelsWithStakes_31 : decode cX3_eelsWithStakes 31 = .ok (.putfield 76, 3) := by decide +kernel
theorem dX3_eelsWithStakes_34 : decode cX3_eelsWithStakes 34 = .ok (.aload_n 0, 1) := by decide +kernel
theorem dX3_eelsWithStakes_35 : decode cX3_eelsWithStakes 35 = .ok (.getfield 16, 3) := by decide +kernel
theorem dX3_eelsWithStakes_38 : decode cX3_eelsWithStakes 38 = .ok (.iload_n 3, 1) := by decide +kernel
theorem dX3_eelsWithStakes_39 : decode cX3_eelsWithStakes 39 = .ok (.invokevirtual 145, 3) := by decide +kernel
theorem dX3_eelsWithStakes_42 : decode cX3_eelsWithStakes 42 = .ok (.aload 4, 2) := by decide +kernel
theorem dX3_eelsWithStakes_44 : decode cX3_eelsWithStakes 44 = .ok (.getfield 81, 3) := by decide +kernel
theorem dX3_eelsWithStakes_47 : decode cX3_eelsWithStakes 47 = .ok (.ireturn, 1) := by decide +kernel
theorem dX3_isWithin_0 : decode cX3_isWithin 0 = .ok (.iload_n 1, 1) := by decide +kernel
theorem dX3_isWithin_1 : decode cX3_isWithin 1 = .ok (.iload_n 0, 1) := by decide +kernel
theorem dX3_isWithin_2 : decode cX3_isWithin 2 = .ok (.if_icmp .gt 12, 3) := by decide +kernel
theorem dX3_isWithin_5 : decode cX3_isWithin 5 = .ok (.iload_n 0, 1) := by decide +kernel
theorem dX3_isWithin_6 : decode cX3_isWithin 6 = .ok (.iload_n 2, 1) := by decide +kernel
theorem dX3_isWithin_7 : decode cX3_isWithin 7 = .ok (.if_icmp .gt 7, 3) := by decide +kernel
theorem dX3_isWithin_10 : decode cX3_isWithin 10 = .ok (.iconst 1, 1) := by decide +kernel
theorem dX3_isWithin_11 : decode cX3_isWithin 11 = .ok (.goto 4, 3) := by decide +kernel
theorem dX3_isWithin_14 : decode cX3_isWithin 14 = .ok (.iconst 0, 1) := by decide +kernel
theorem dX3_isWithin_15 : decode cX3_isWithin 15 = .ok (.ireturn, 1) := by decide +kernel
theorem dX3_priceOfEels_0 : decode cX3_priceOfEels 0 = .ok (.iload_n 1, 1) := by decide +kernel
theorem dX3_priceOfEels_1 : decode cX3_priceOfEels 1 = .ok (.ifCond .ne 7, 3) := by decide +kernel
theorem dX3_priceOfEels_4 : decode cX3_priceOfEels 4 = .ok (.iload_n 0, 1) := by decide +kernel
theorem dX3_priceOfEels_5 : decode cX3_priceOfEels 5 = .ok (.iconst 2, 1) := by decide +kernel
theorem dX3_priceOfEels_6 : decode cX3_priceOfEels 6 = .ok (.idiv, 1) := by decide +kernel
theorem dX3_priceOfEels_7 : decode cX3_priceOfEels 7 = .ok (.ireturn, 1) := by decide +kernel
theorem dX3_priceOfEels_8 : decode cX3_priceOfEels 8 = .ok (.iload_n 1, 1) := by decide +kernel
theorem dX3_priceOfEels_9 : decode cX3_priceOfEels 9 = .ok (.iconst 1, 1) := by decide +kernel
theorem dX3_priceOfEels_10 : decode cX3_priceOfEels 10 = .ok (.if_icmp .ne 7, 3) := by decide +kernel
theorem dX3_priceOfEels_13 : decode cX3_priceOfEels 13 = .ok (.iload_n 0, 1) := by decide +kernel
theorem dX3_priceOfEels_14 : decode cX3_priceOfEels 14 = .ok (.goto 8, 3) := by decide +kernel
theorem dX3_priceOfEels_17 : decode cX3_priceOfEels 17 = .ok (.iload_n 0, 1) := by decide +kernel
theorem dX3_priceOfEels_18 : decode cX3_priceOfEels 18 = .ok (.iload_n 0, 1) := by decide +kernel
theorem dX3_priceOfEels_19 : decode cX3_priceOfEels 19 = .ok (.iconst 2, 1) := by decide +kernel
theorem dX3_priceOfEels_20 : decode cX3_priceOfEels 20 = .ok (.idiv, 1) := by decide +kernel
theorem dX3_priceOfEels_21 : decode cX3_priceOfEels 21 = .ok (.iadd, 1) := by decide +kernel
theorem dX3_priceOfEels_22 : decode cX3_priceOfEels 22 = .ok (.ireturn, 1) := by decide +kernel
