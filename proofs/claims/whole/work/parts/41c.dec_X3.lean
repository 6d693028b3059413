theorem dX3_digest_67 : decode cX3_digest 67 = .ok (.invokevirtual 189, 3) := by decide +kernel
theorem dX3_digest_70 : decode cX3_digest 70 = .ok (.invokevirtual 193, 3) := by decide +kernel
theorem dX3_digest_73 : decode cX3_digest 73 = .ok (.lreturn, 1) := by decide +kernel
theorem dX3_digestOfWeirs_0 : decode cX3_digestOfWeirs 0 = .ok (.lload_n 1, 1) := by decide +kernel
theorem dX3_digestOfWeirs_1 : decode cX3_digestOfWeirs 1 = .ok (.lstore_n 3, 1) := by decide +kernel
theorem dX3_digestOfWeirs_2 : decode cX3_digestOfWeirs 2 = .ok (.iconst 0, 1) := by decide +kernel
theorem dX3_digestOfWeirs_3 : decode cX3_digestOfWeirs 3 = .ok (.istore 5, 2) := by decide +kernel
theorem dX3_digestOfWeirs_5 : decode cX3_digestOfWeirs 5 = .ok (.iload 5, 2) := by decide +kernel
theorem dX3_digestOfWeirs_7 : decode cX3_digestOfWeirs 7 = .ok (.aload_n 0, 1) := by decide +kernel
theorem dX3_digestOfWeirs_8 : decode cX3_digestOfWeirs 8 = .ok (.getfield 12, 3) := by decide +kernel
theorem dX3_digestOfWeirs_11 : decode cX3_digestOfWeirs 11 = .ok (.getfield 30, 3) := by decide +kernel
theorem dX3_digestOfWeirs_14 : decode cX3_digestOfWeirs 14 = .ok (.if_icmp .ge 56, 3) := by decide +kernel
theorem dX3_digestOfWeirs_17 : decode cX3_digestOfWeirs 17 = .ok (.aload_n 0, 1) := by decide +kernel
theorem dX3_digestOfWeirs_18 : decode cX3_digestOfWeirs 18 = .ok (.getfield 12, 3) := by decide +kernel
theorem dX3_digestOfWeirs_21 : decode cX3_digestOfWeirs 21 = .ok (.iload 5, 2) := by decide +kernel
theorem dX3_digestOfWeirs_23 : decode cX3_digestOfWeirs 23 = .ok (.invokevirtual 43, 3) := by decide +kernel
theorem dX3_digestOfWeirs_26 : decode cX3_digestOfWeirs 26 = .ok (.astore 6, 2) := by decide +kernel
theorem dX3_digestOfWeirs_28 : decode cX3_digestOfWeirs 28 = .ok (.iconst 0, 1) := by decide +kernel
theorem dX3_digestOfWeirs_29 : decode cX3_digestOfWeirs 29 = .ok (.istore 7, 2) := by decide +kernel
theorem dX3_digestOfWeirs_31 : decode cX3_digestOfWeirs 31 = .ok (.iload 7, 2) := by decide +kernel
theorem dX3_digestOfWeirs_33 : decode cX3_digestOfWeirs 33 = .ok (.bipush 7, 2) := by decide +kernel
theorem dX3_digestOfWeirs_35 : decode cX3_digestOfWeirs 35 = .ok (.if_icmp .gt 29, 3) := by decide +kernel
theorem dX3_digestOfWeirs_38 : decode cX3_digestOfWeirs 38 = .ok (.aload 6, 2) := by decide +kernel
theorem dX3_digestOfWeirs_40 : decode cX3_digestOfWeirs 40 = .ok (.ifnull 24, 3) := by decide +kernel
theorem dX3_digestOfWeirs_43 : decode cX3_digestOfWeirs 43 = .ok (.lload_n 3, 1) := by decide +kernel
theorem dX3_digestOfWeirs_44 : decode cX3_digestOfWeirs 44 = .ok (.ldc2_w 187, 3) := by decide +kernel
theorem dX3_digestOfWeirs_47 : decode cX3_digestOfWeirs 47 = .ok (.lmul, 1) := by decide +kernel
theorem dX3_digestOfWeirs_48 : decode cX3_digestOfWeirs 48 = .ok (.aload 6, 2) := by decide +kernel
theorem dX3_digestOfWeirs_50 : decode cX3_digestOfWeirs 50 = .ok (.iload 7, 2) := by decide +kernel
theorem dX3_digestOfWeirs_52 : decode cX3_digestOfWeirs 52 = .ok (.invokevirtual 118, 3) := by decide +kernel
theorem dX3_digestOfWeirs_55 : decode cX3_digestOfWeirs 55 = .ok (.i2l, 1) := by decide +kernel
theorem dX3_digestOfWeirs_56 : decode cX3_digestOfWeirs 56 = .ok (.ladd, 1) := by decide +kernel
theorem dX3_digestOfWeirs_57 : decode cX3_digestOfWeirs 57 = .ok (.lstore_n 3, 1) := by decide +kernel
theorem dX3_digestOfWeirs_58 : decode cX3_digestOfWeirs 58 = .ok (.iinc 7 1, 3) := by decide +kernel
theorem dX3_digestOfWeirs_61 : decode cX3_digestOfWeirs 61 = .ok (.goto (-30), 3) := by decide +kernel
theorem dX3_digestOfWeirs_64 : decode cX3_digestOfWeirs 64 = .ok (.iinc 5 1, 3) := by decide +kernel
theorem dX3_digestOfWeirs_67 : decode cX3_digestOfWeirs 67 = .ok (.goto (-62), 3) := by decide +kernel
theorem dX3_digestOfWeirs_70 : decode cX3_digestOfWeirs 70 = .ok (.lload_n 3, 1) := by decide +kernel
theorem dX3_digestOfWeirs_71 : decode cX3_digestOfWeirs 71 = .ok (.lreturn, 1) := by decide +kernel
theorem dX3_digestOfBarges_0 : decode cX3_digestOfBarges 0 = .ok (.lload_n 1, 1) := by decide +kernel
theorem dX3_digestOfBarges_1 : decode cX3_digestOfBarges 1 = .ok (.lstore_n 3, 1) := by decide +kernel
theorem dX3_digestOfBarges_2 : decode cX3_digestOfBarges 2 = .ok (.iconst 0, 1) := by decide +kernel
theorem dX3_digestOfBarges_3 : decode cX3_digestOfBarges 3 = .ok (.istore 5, 2) := by decide +kernel
theorem dX3_digestOfBarges_5 : decode cX3_digestOfBarges 5 = .ok (.iload 5, 2) := by decide +kernel
theorem dX3_digestOfBarges_7 : decode cX3_digestOfBarges 7 = .ok (.aload_n 0, 1) := by decide +kernel
theorem dX3_digestOfBarges_8 : decode cX3_digestOfBarges 8 = .ok (.getfield 12, 3) := by decide +kernel
theorem dX3_digestOfBarges_11 : decode cX3_digestOfBarges 11 = .ok (.getfield 108, 3) := by decide +kernel
theorem dX3_digestOfBarges_14 : decode cX3_digestOfBarges 14 = .ok (.if_icmp .ge 59, 3) := by decide +kernel
theorem dX3_digestOfBarges_17 : decode cX3_digestOfBarges 17 = .ok (.aload_n 0, 1) := by decide +kernel
theorem dX3_digestOfBarges_18 : decode cX3_digestOfBarges 18 = .ok (.getfield 12, 3) := by decide +kernel
theorem dX3_digestOfBarges_21 : decode cX3_digestOfBarges 21 = .ok (.iload 5, 2) := by decide +kernel
theorem dX3_digestOfBarges_23 : decode cX3_digestOfBarges 23 = .ok (.invokevirtual 121, 3) := by decide +kernel
theorem dX3_digestOfBarges_26 : decode cX3_digestOfBarges 26 = .ok (.astore 6, 2) := by decide +kernel
theorem dX3_digestOfBarges_28 : decode cX3_digestOfBarges 28 = .ok (.iconst 0, 1) := by decide +kernel
theorem dX3_digestOfBarges_29 : decode cX3_digestOfBarges 29 = .ok (.istore 7, 2) := by decide +kernel
theorem dX3_digestOfBarges_31 : decode cX3_digestOfBarges 31 = .ok (.iload 7, 2) := by decide +kernel
theorem dX3_digestOfBarges_33 : decode cX3_digestOfBarges 33 = .ok (.iconst 3, 1) := by decide +kernel
theorem dX3_digestOfBarges_34 : decode cX3_digestOfBarges 34 = .ok (.if_icmp .gt 33, 3) := by decide +kernel
theorem dX3_digestOfBarges_37 : decode cX3_digestOfBarges 37 = .ok (.aload 6, 2) := by decide +kernel
theorem dX3_digestOfBarges_39 : decode cX3_digestOfBarges 39 = .ok (.ifnull 28, 3) := by decide +kernel
theorem dX3_digestOfBarges_42 : decode cX3_digestOfBarges 42 = .ok (.lload_n 3, 1) := by decide +kernel
theorem dX3_digestOfBarges_43 : decode cX3_digestOfBarges 43 = .ok (.ldc2_w 187, 3) := by decide +kernel
theorem dX3_digestOfBarges_46 : decode cX3_digestOfBarges 46 = .ok (.lmul, 1) := by decide +kernel
theorem dX3_digestOfBarges_47 : decode cX3_digestOfBarges 47 = .ok (.aload_n 0, 1) := by decide +kernel
theorem dX3_digestOfBarges_48 : decode cX3_digestOfBarges 48 = .ok (.getfield 12, 3) := by decide +kernel
theorem dX3_digestOfBarges_51 : decode cX3_digestOfBarges 51 = .ok (.aload 6, 2) := by decide +kernel
theorem dX3_digestOfBarges_53 : decode cX3_digestOfBarges 53 = .ok (.iload 7, 2) := by decide +kernel
theorem dX3_digestOfBarges_55 : decode cX3_digestOfBarges 55 = .ok (.invokevirtual 127, 3) := by decide +kernel
theorem dX3_digestOfBarges_58 : decode cX3_digestOfBarges 58 = .ok (.i2l, 1) := by decide +kernel
theorem dX3_digestOfBarges_59 : decode cX3_digestOfBarges 59 = .ok (.ladd, 1) := by decide +kernel
theorem dX3_digestOfBarges_60 : decode cX3_digestOfBarges 60 = .ok (.lstore_n 3, 1) := by decide +kernel
theorem dX3_digestOfBarges_61 : decode cX3_digestOfBarges 61 = .ok (.iinc 7 1, 3) := by decide +kernel
theorem dX3_digestOfBarges_64 : decode cX3_digestOfBarges 64 = .ok (.goto (-33), 3) := by decide +kernel
theorem dX3_digestOfBarges_67 : decode cX3_digestOfBarges 67 = .ok (.iinc 5 1, 3) := by decide +kernel
theorem dX3_digestOfBarges_70 : decode cX3_digestOfBarges 70 = .ok (.goto (-65), 3) := by decide +kernel
theorem dX3_digestOfBarges_73 : decode cX3_digestOfBarges 73 = .ok (.lload_n 3, 1) := by decide +kernel
theorem dX3_digestOfBarges_74 : decode cX3_digestOfBarges 74 = .ok (.lreturn, 1) := by decide +kernel
theorem dX3_eelsWithStakes_0 : decode cX3_eelsWithStakes 0 = .ok (.aload_n 0, 1) := by decide +kernel
theorem dX3_eelsWithStakes_1 : decode cX3_eelsWithStakes 1 = .ok (.getfield 16, 3) := by decide +kernel
theorem dX3_eelsWithStakes_4 : decode cX3_eelsWithStakes 4 = .ok (.aload_n 0, 1) := by decide +kernel
theorem dX3_eelsWithStakes_5 : decode cX3_eelsWithStakes 5 = .ok (.getfield 12, 3) := by decide +kernel
theorem dX3_eelsWithStakes_8 : decode cX3_eelsWithStakes 8 = .ok (.invokevirtual 149, 3) := by decide +kernel
theorem dX3_eelsWithStakes_11 : decode cX3_eelsWithStakes 11 = .ok (.aload_n 0, 1) := by decide +kernel
theorem dX3_eelsWithStakes_12 : decode cX3_eelsWithStakes 12 = .ok (.getfield 16, 3) := by decide +kernel
theorem dX3_eelsWithStakes_15 : decode cX3_eelsWithStakes 15 = .ok (.iload_n 1, 1) := by decide +kernel
theorem dX3_eelsWithStakes_16 : decode cX3_eelsWithStakes 16 = .ok (.invokevirtual 43, 3) := by decide +kernel
theorem dX3_eelsWithStakes_19 : decode cX3_eelsWithStakes 19 = .ok (.astore 4, 2) := by decide +kernel
theorem dX3_eelsWithStakes_21 : decode cX3_eelsWithStakes 21 = .ok (.aload 4, 2) := by decide +kernel
theorem dX3_eelsWithStakes_23 : decode cX3_eelsWithStakes 23 = .ok (.ifnonnull 5, 3) := by decide +kernel
theorem dX3_eelsWithStakes_26 : decode cX3_eelsWithStakes 26 = .ok (.iconst 0, 1) := by decide +kernel
theorem dX3_eelsWithStakes_27 : decode cX3_eelsWithStakes 27 = .ok (.ireturn, 1) := by decide +kernel
theorem dX3_eelsWithStakes_28 : decode cX3_eelsWithStakes 28 = .ok (.aload 4, 2) := by decide +kernel
theorem dX3_eelsWithStakes_30 : decode cX3_eelsWithStakes 30 = .ok (.iload_n 2, 1) := by decide +kernel
theorem dX3_eelsWithStakes_31 : decode cX3_eelsWithStakes 31 = .ok (.putfield 76, 3) := by decide +kernel
theorem dX3_eelsWithStakes_34 : decode cX3_eelsWithStakes 34 = .ok (.aload_n 0, 1) := by decide +kernel
theorem dX3_eelsWithStakes_35 : decode cX3_eelsWithStakes 35 = .ok (.getfield 16, 3) := by decide +kernel
theorem dX3_eelsWithStakes_38 : decode cX3_eelsWithStakes 38 = .ok (.iload_n 3, 1) := by decide +kernel
theorem dX3_eelsWithStakes_39 : decode cX3_eelsWithStakes 39 = .ok (.invokevirtual 145, 3) := by decide +kernel
theorem dX3_eelsWithStakes_42 : decode cX3_eelsWithStakes 42 = .ok (.aload 4, 2) := by decide +kernel
theorem dX3_eelsWithStakes_44 : decode cX3_eelsWithStakes 44 = .ok (.getfield 81, 3) := by decide +kernel
theorem dX3_eelsWithStakes_47 : decode cX3_eelsWithStakes 47 = .ok (.ireturn, 1) := by decide +kernel
theorem dX3_isWithin_0 : decode cX3_isWithin 0 = .ok (.iload_n 1, 1) := by decide +kernel
theorem dX3_isWithin_1 : decode cX3_isWithin 1 = .ok (.iload_n 0, 1) := by decide +kernel
theorem dX3_isWithin_2 : decode cX3_isWithin 2 = .ok (.if_icmp .gt 12, 3) := by decide +kernel
theorem dX3_isWithin_5 : decode cX3_isWithin 5 = .ok (.iload_n 0, 1) := by decide +kernel
theorem dX3_isWithin_6 : decode cX3_isWithin 6 = .ok (.iload_n 2, 1) := by decide +kernel
theorem dX3_isWithin_7 : decode cX3_isWithin 7 = .ok (.if_icmp .gt 7, 3) := by decide +kernel
theorem dX3_isWithin_10 : decode cX3_isWithin 10 = .ok (.iconst 1, 1) := by decide +kernel
theorem dX3_isWithin_11 : decode cX3_isWithin 11 = .ok (.goto 4, 3) := by decide +kernel
theorem dX3_isWithin_14 : decode cX3_isWithin 14 = .ok (.iconst 0, 1) := by decide +kernel
theorem dX3_isWithin_15 : decode cX3_isWithin 15 = .ok (.ireturn, 1) := by decide +kernel
theorem dX3_priceOfEels_0 : decode cX3_priceOfEels 0 = .ok (.iload_n 1, 1) := by decide +kernel
theorem dX3_priceOfEels_1 : decode cX3_priceOfEels 1 = .ok (.ifCond .ne 7, 3) := by decide +kernel
theorem dX3_priceOfEels_4 : decode cX3_priceOfEels 4 = .ok (.iload_n 0, 1) := by decide +kernel
theorem dX3_priceOfEels_5 : decode cX3_priceOfEels 5 = .ok (.iconst 2, 1) := by decide +kernel
theorem dX3_priceOfEels_6 : decode cX3_priceOfEels 6 = .ok (.idiv, 1) := by decide +kernel
theorem dX3_priceOfEels_7 : decode cX3_priceOfEels 7 = .ok (.ireturn, 1) := by decide +kernel
theorem dX3_priceOfEels_8 : decode cX3_priceOfEels 8 = .ok (.iload_n 1, 1) := by decide +kernel
theorem dX3_priceOfEels_9 : decode cX3_priceOfEels 9 = .ok (.iconst 1, 1) := by decide +kernel
theorem dX3_priceOfEels_10 : decode cX3_priceOfEels 10 = .ok (.if_icmp .ne 7, 3) := by decide +kernel
theorem dX3_priceOfEels_13 : decode cX3_priceOfEels 13 = .ok (.iload_n 0, 1) := by decide +kernel
theorem dX3_priceOfEels_14 : decode cX3_priceOfEels 14 = .ok (.goto 8, 3) := by decide +kernel
theorem dX3_priceOfEels_17 : decode cX3_priceOfEels 17 = .ok (.iload_n 0, 1) := by decide +kernel
theorem dX3_priceOfEels_18 : decode cX3_priceOfEels 18 = .ok (.iload_n 0, 1) := by decide +kernel
theorem dX3_priceOfEels_19 : decode cX3_priceOfEels 19 = .ok (.iconst 2, 1) := by decide +kernel
theorem dX3_priceOfEels_20 : decode cX3_priceOfEels 20 = .ok (.idiv, 1) := by decide +kernel
theorem dX3_priceOfEels_21 : decode cX3_priceOfEels 21 = .ok (.iadd, 1) := by decide +kernel
theorem dX3_priceOfEels_22 : decode cX3_priceOfEels 22 = .ok (.ireturn, 1) := by decide +kernel
