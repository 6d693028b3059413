theorem dX1_isSeawardsOf_5 : decode cX1_isSeawardsOf 5 = .ok (.astore_n 3, 1) := by decide +kernel
theorem dX1_isSeawardsOf_6 : decode cX1_isSeawardsOf 6 = .ok (.aload_n 3, 1) := by decide +kernel
theorem dX1_isSeawardsOf_7 : decode cX1_isSeawardsOf 7 = .ok (.ifnull 15, 3) := by decide +kernel
theorem dX1_isSeawardsOf_10 : decode cX1_isSeawardsOf 10 = .ok (.aload_n 3, 1) := by decide +kernel
theorem dX1_isSeawardsOf_11 : decode cX1_isSeawardsOf 11 = .ok (.getfield 93, 3) := by decide +kernel
theorem dX1_isSeawardsOf_14 : decode cX1_isSeawardsOf 14 = .ok (.iload_n 2, 1) := by decide +kernel
theorem dX1_isSeawardsOf_15 : decode cX1_isSeawardsOf 15 = .ok (.if_icmp .ge 7, 3) := by decide +kernel
theorem dX1_isSeawardsOf_18 : decode cX1_isSeawardsOf 18 = .ok (.iconst 1, 1) := by decide +kernel
theorem dX1_isSeawardsOf_19 : decode cX1_isSeawardsOf 19 = .ok (.goto 4, 3) := by decide +kernel
theorem dX1_isSeawardsOf_22 : decode cX1_isSeawardsOf 22 = .ok (.iconst 0, 1) := by decide +kernel
theorem dX1_isSeawardsOf_23 : decode cX1_isSeawardsOf 23 = .ok (.ireturn, 1) := by decide +kernel
theorem dX1_addBarge_0 : decode cX1_addBarge 0 = .ok (.aload_n 0, 1) := by decide +kernel
theorem dX1_addBarge_1 : decode cX1_addBarge 1 = .ok (.getfield 51, 3) := by decide +kernel
theorem dX1_addBarge_4 : decode cX1_addBarge 4 = .ok (.istore_n 2, 1) := by decide +kernel
theorem dX1_addBarge_5 : decode cX1_addBarge 5 = .ok (.aload_n 0, 1) := by decide +kernel
theorem dX1_addBarge_6 : decode cX1_addBarge 6 = .ok (.dup, 1) := by decide +kernel
theorem dX1_addBarge_7 : decode cX1_addBarge 7 = .ok (.getfield 51, 3) := by decide +kernel
theorem dX1_addBarge_10 : decode cX1_addBarge 10 = .ok (.iconst 1, 1) := by decide +kernel
theorem dX1_addBarge_11 : decode cX1_addBarge 11 = .ok (.iadd, 1) := by decide +kernel
theorem dX1_addBarge_12 : decode cX1_addBarge 12 = .ok (.putfield 51, 3) := by decide +kernel
theorem dX1_addBarge_15 : decode cX1_addBarge 15 = .ok (.aload_n 0, 1) := by decide +kernel
theorem dX1_addBarge_16 : decode cX1_addBarge 16 = .ok (.iload_n 2, 1) := by decide +kernel
theorem dX1_addBarge_17 : decode cX1_addBarge 17 = .ok (.invokevirtual 54, 3) := by decide +kernel
theorem dX1_addBarge_20 : decode cX1_addBarge 20 = .ok (.astore_n 3, 1) := by decide +kernel
theorem dX1_addBarge_21 : decode cX1_addBarge 21 = .ok (.aload_n 3, 1) := by decide +kernel
theorem dX1_addBarge_22 : decode cX1_addBarge 22 = .ok (.ifnull 14, 3) := by decide +kernel
theorem dX1_addBarge_25 : decode cX1_addBarge 25 = .ok (.aload_n 3, 1) := by decide +kernel
theorem dX1_addBarge_26 : decode cX1_addBarge 26 = .ok (.aload_n 0, 1) := by decide +kernel
theorem dX1_addBarge_27 : decode cX1_addBarge 27 = .ok (.getfield 65, 3) := by decide +kernel
theorem dX1_addBarge_30 : decode cX1_addBarge 30 = .ok (.iload_n 2, 1) := by decide +kernel
theorem dX1_addBarge_31 : decode cX1_addBarge 31 = .ok (.iadd, 1) := by decide +kernel
theorem dX1_addBarge_32 : decode cX1_addBarge 32 = .ok (.iload_n 1, 1) := by decide +kernel
theorem dX1_addBarge_33 : decode cX1_addBarge 33 = .ok (.invokevirtual 96, 3) := by decide +kernel
theorem dX1_addBarge_36 : decode cX1_addBarge 36 = .ok (.iload_n 2, 1) := by decide +kernel
theorem dX1_addBarge_37 : decode cX1_addBarge 37 = .ok (.ireturn, 1) := by decide +kernel
theorem dX1_isUnderWay_0 : decode cX1_isUnderWay 0 = .ok (.iconst 0, 1) := by decide +kernel
theorem dX1_isUnderWay_1 : decode cX1_isUnderWay 1 = .ok (.istore_n 2, 1) := by decide +kernel
theorem dX1_isUnderWay_2 : decode cX1_isUnderWay 2 = .ok (.iload_n 2, 1) := by decide +kernel
theorem dX1_isUnderWay_3 : decode cX1_isUnderWay 3 = .ok (.aload_n 0, 1) := by decide +kernel
theorem dX1_isUnderWay_4 : decode cX1_isUnderWay 4 = .ok (.getfield 51, 3) := by decide +kernel
theorem dX1_isUnderWay_7 : decode cX1_isUnderWay 7 = .ok (.if_icmp .ge 29, 3) := by decide +kernel
theorem dX1_isUnderWay_10 : decode cX1_isUnderWay 10 = .ok (.aload_n 0, 1) := by decide +kernel
theorem dX1_isUnderWay_11 : decode cX1_isUnderWay 11 = .ok (.iload_n 2, 1) := by decide +kernel
theorem dX1_isUnderWay_12 : decode cX1_isUnderWay 12 = .ok (.invokevirtual 54, 3) := by decide +kernel
theorem dX1_isUnderWay_15 : decode cX1_isUnderWay 15 = .ok (.astore_n 3, 1) := by decide +kernel
theorem dX1_isUnderWay_16 : decode cX1_isUnderWay 16 = .ok (.aload_n 3, 1) := by decide +kernel
theorem dX1_isUnderWay_17 : decode cX1_isUnderWay 17 = .ok (.ifnull 13, 3) := by decide +kernel
theorem dX1_isUnderWay_20 : decode cX1_isUnderWay 20 = .ok (.aload_n 3, 1) := by decide +kernel
theorem dX1_isUnderWay_21 : decode cX1_isUnderWay 21 = .ok (.getfield 98, 3) := by decide +kernel
theorem dX1_isUnderWay_24 : decode cX1_isUnderWay 24 = .ok (.iload_n 1, 1) := by decide +kernel
theorem dX1_isUnderWay_25 : decode cX1_isUnderWay 25 = .ok (.if_icmp .ne 5, 3) := by decide +kernel
theorem dX1_isUnderWay_28 : decode cX1_isUnderWay 28 = .ok (.iconst 1, 1) := by decide +kernel
theorem dX1_isUnderWay_29 : decode cX1_isUnderWay 29 = .ok (.ireturn, 1) := by decide +kernel
theorem dX1_isUnderWay_30 : decode cX1_isUnderWay 30 = .ok (.iinc 2 1, 3) := by decide +kernel
theorem dX1_isUnderWay_33 : decode cX1_isUnderWay 33 = .ok (.goto (-31), 3) := by decide +kernel
theorem dX1_isUnderWay_36 : decode cX1_isUnderWay 36 = .ok (.iconst 0, 1) := by decide +kernel
theorem dX1_isUnderWay_37 : decode cX1_isUnderWay 37 = .ok (.ireturn, 1) := by decide +kernel
theorem dX1_moon_0 : decode cX1_moon 0 = .ok (.aload_n 0, 1) := by decide +kernel
theorem dX1_moon_1 : decode cX1_moon 1 = .ok (.getfield 62, 3) := by decide +kernel
theorem dX1_moon_4 : decode cX1_moon 4 = .ok (.bipush 28, 2) := by decide +kernel
theorem dX1_moon_6 : decode cX1_moon 6 = .ok (.invokestatic 101, 3) := by decide +kernel
theorem dX1_moon_9 : decode cX1_moon 9 = .ok (.istore_n 1, 1) := by decide +kernel
theorem dX1_moon_10 : decode cX1_moon 10 = .ok (.iload_n 1, 1) := by decide +kernel
theorem dX1_moon_11 : decode cX1_moon 11 = .ok (.iconst 3, 1) := by decide +kernel
theorem dX1_moon_12 : decode cX1_moon 12 = .ok (.if_icmp .le 9, 3) := by decide +kernel
theorem dX1_moon_15 : decode cX1_moon 15 = .ok (.iload_n 1, 1) := by decide +kernel
theorem dX1_moon_16 : decode cX1_moon 16 = .ok (.bipush 25, 2) := by decide +kernel
theorem dX1_moon_18 : decode cX1_moon 18 = .ok (.if_icmp .lt 5, 3) := by decide +kernel
theorem dX1_moon_21 : decode cX1_moon 21 = .ok (.iconst 0, 1) := by decide +kernel
theorem dX1_moon_22 : decode cX1_moon 22 = .ok (.ireturn, 1) := by decide +kernel
theorem dX1_moon_23 : decode cX1_moon 23 = .ok (.iload_n 1, 1) := by decide +kernel
theorem dX1_moon_24 : decode cX1_moon 24 = .ok (.bipush 9, 2) := by decide +kernel
theorem dX1_moon_26 : decode cX1_moon 26 = .ok (.if_icmp .le 9, 3) := by decide +kernel
theorem dX1_moon_29 : decode cX1_moon 29 = .ok (.iload_n 1, 1) := by decide +kernel
theorem dX1_moon_30 : decode cX1_moon 30 = .ok (.bipush 19, 2) := by decide +kernel
theorem dX1_moon_32 : decode cX1_moon 32 = .ok (.if_icmp .lt 7, 3) := by decide +kernel
theorem dX1_moon_35 : decode cX1_moon 35 = .ok (.iconst 1, 1) := by decide +kernel
theorem dX1_moon_36 : decode cX1_moon 36 = .ok (.goto 4, 3) := by decide +kernel
theorem dX1_moon_39 : decode cX1_moon 39 = .ok (.iconst 2, 1) := by decide +kernel
theorem dX1_moon_40 : decode cX1_moon 40 = .ok (.ireturn, 1) := by decide +kernel
theorem dX1_run_0 : decode cX1_run 0 = .ok (.aload_n 0, 1) := by decide +kernel
theorem dX1_run_1 : decode cX1_run 1 = .ok (.aload_n 0, 1) := by decide +kernel
theorem dX1_run_2 : decode cX1_run 2 = .ok (.getfield 62, 3) := by decide +kernel
theorem dX1_run_5 : decode cX1_run 5 = .ok (.bipush 7, 2) := by decide +kernel
theorem dX1_run_7 : decode cX1_run 7 = .ok (.invokestatic 101, 3) := by decide +kernel
theorem dX1_run_10 : decode cX1_run 10 = .ok (.invokevirtual 32, 3) := by decide +kernel
theorem dX1_run_13 : decode cX1_run 13 = .ok (.istore_n 1, 1) := by decide +kernel
theorem dX1_run_14 : decode cX1_run 14 = .ok (.aload_n 0, 1) := by decide +kernel
theorem dX1_run_15 : decode cX1_run 15 = .ok (.invokevirtual 107, 3) := by decide +kernel
theorem dX1_run_18 : decode cX1_run 18 = .ok (.istore_n 2, 1) := by decide +kernel
theorem dX1_run_19 : decode cX1_run 19 = .ok (.iload_n 2, 1) := by decide +kernel
theorem dX1_run_20 : decode cX1_run 20 = .ok (.ifCond .ne 7, 3) := by decide +kernel
theorem dX1_run_23 : decode cX1_run 23 = .ok (.iconst 3, 1) := by decide +kernel
theorem dX1_run_24 : decode cX1_run 24 = .ok (.iload_n 1, 1) := by decide +kernel
theorem dX1_run_25 : decode cX1_run 25 = .ok (.imul, 1) := by decide +kernel
theorem dX1_run_26 : decode cX1_run 26 = .ok (.ireturn, 1) := by decide +kernel
theorem dX1_run_27 : decode cX1_run 27 = .ok (.iload_n 2, 1) := by decide +kernel
theorem dX1_run_28 : decode cX1_run 28 = .ok (.iconst 1, 1) := by decide +kernel
theorem dX1_run_29 : decode cX1_run 29 = .ok (.if_icmp .ne 9, 3) := by decide +kernel
theorem dX1_run_32 : decode cX1_run 32 = .ok (.iconst 2, 1) := by decide +kernel
theorem dX1_run_33 : decode cX1_run 33 = .ok (.iload_n 1, 1) := by decide +kernel
theorem dX1_run_34 : decode cX1_run 34 = .ok (.imul, 1) := by decide +kernel
theorem dX1_run_35 : decode cX1_run 35 = .ok (.goto 4, 3) := by decide +kernel
theorem dX1_run_38 : decode cX1_run 38 = .ok (.iload_n 1, 1) := by decide +kernel
theorem dX1_run_39 : decode cX1_run 39 = .ok (.ireturn, 1) := by decide +kernel
theorem dX1_fact_0 : decode cX1_fact 0 = .ok (.iload_n 1, 1) := by decide +kernel
theorem dX1_fact_1 : decode cX1_fact 1 = .ok (.tableswitch 96 0 8 #[51, 56, 61, 66, 71, 76, 81, 86, 91], 51) := by decide +kernel
theorem dX1_fact_52 : decode cX1_fact 52 = .ok (.aload_n 0, 1) := by decide +kernel
theorem dX1_fact_53 : decode cX1_fact 53 = .ok (.getfield 62, 3) := by decide +kernel
theorem dX1_fact_56 : decode cX1_fact 56 = .ok (.ireturn, 1) := by decide +kernel
theorem dX1_fact_57 : decode cX1_fact 57 = .ok (.aload_n 0, 1) := by decide +kernel
theorem dX1_fact_58 : decode cX1_fact 58 = .ok (.invokevirtual 107, 3) := by decide +kernel
theorem dX1_fact_61 : decode cX1_fact 61 = .ok (.ireturn, 1) := by decide +kernel
theorem dX1_fact_62 : decode cX1_fact 62 = .ok (.aload_n 0, 1) := by decide +kernel
theorem dX1_fact_63 : decode cX1_fact 63 = .ok (.invokevirtual 111, 3) := by decide +kernel
theorem dX1_fact_66 : decode cX1_fact 66 = .ok (.ireturn, 1) := by decide +kernel
theorem dX1_fact_67 : decode cX1_fact 67 = .ok (.aload_n 0, 1) := by decide +kernel
theorem dX1_fact_68 : decode cX1_fact 68 = .ok (.getfield 39, 3) := by decide +kernel
theorem dX1_fact_71 : decode cX1_fact 71 = .ok (.ireturn, 1) := by decide +kernel
theorem dX1_fact_72 : decode cX1_fact 72 = .ok (.aload_n 0, 1) := by decide +kernel
theorem dX1_fact_73 : decode cX1_fact 73 = .ok (.invokevirtual 114, 3) := by decide +kernel
theorem dX1_fact_76 : decode cX1_fact 76 = .ok (.ireturn, 1) := by decide +kernel
theorem dX1_fact_77 : decode cX1_fact 77 = .ok (.aload_n 0, 1) := by decide +kernel
theorem dX1_fact_78 : decode cX1_fact 78 = .ok (.getfield 51, 3) := by decide +kernel
theorem dX1_fact_81 : decode cX1_fact 81 = .ok (.ireturn, 1) := by decide +kernel
theorem dX1_fact_82 : decode cX1_fact 82 = .ok (.aload_n 0, 1) := by decide +kernel
theorem dX1_fact_83 : decode cX1_fact 83 = .ok (.getfield 65, 3) := by decide +kernel
theorem dX1_fact_86 : decode cX1_fact 86 = .ok (.ireturn, 1) := by decide +kernel
theorem dX1_fact_87 : decode cX1_fact 87 = .ok (.aload_n 0, 1) := by decide +kernel
theorem dX1_fact_88 : decode cX1_fact 88 = .ok (.getfield 68, 3) := by decide +kernel
theorem dX1_fact_91 : decode cX1_fact 91 = .ok (.ireturn, 1) := by decide +kernel
theorem dX1_fact_92 : decode cX1_fact 92 = .ok (.aload_n 0, 1) := by decide +kernel
theorem dX1_fact_93 : decode cX1_fact 93 = .ok (.getfield 71, 3) := by decide +kernel
theorem dX1_fact_96 : decode cX1_fact 96 = .ok (.ireturn, 1) := by decide +kernel
theorem dX1_fact_97 : decode cX1_fact 97 = .ok (.aload_n 0, 1) := by decide +kernel
theorem dX1_fact_98 : decode cX1_fact 98 = .ok (.invokevirtual 117, 3) := by decide +kernel
theorem dX1_fact_101 : decode cX1_fact 101 = .ok (.ireturn, 1) := by decide +kernel
theorem dX1_bargeFact_0 : decode cX1_bargeFact 0 = .ok (.iload_n 2, 1) := by decide +kernel
theorem dX1_bargeFact_1 : decode cX1_bargeFact 1 = .ok (.tableswitch 42 0 2 #[27, 32, 37], 27) := by decide +kernel
theorem dX1_bargeFact_28 : decode cX1_bargeFact 28 = .ok (.aload_n 1, 1) := by decide +kernel
theorem dX1_bargeFact_29 : decode cX1_bargeFact 29 = .ok (.getfield 120, 3) := by decide +kernel
theorem dX1_bargeFact_32 : decode cX1_bargeFact 32 = .ok (.ireturn, 1) := by decide +kernel
theorem dX1_bargeFact_33 : decode cX1_bargeFact 33 = .ok (.aload_n 1, 1) := by decide +kernel
theorem dX1_bargeFact_34 : decode cX1_bargeFact 34 = .ok (.getfield 123, 3) := by decide +kernel
theorem dX1_bargeFact_37 : decode cX1_bargeFact 37 = .ok (.ireturn, 1) := by decide +kernel
theorem dX1_bargeFact_38 : decode cX1_bargeFact 38 = .ok (.aload_n 1, 1) := by decide +kernel
theorem dX1_bargeFact_39 : decode cX1_bargeFact 39 = .ok (.getfield 124, 3) := by decide +kernel
theorem dX1_bargeFact_42 : decode cX1_bargeFact 42 = .ok (.ireturn, 1) := by decide +kernel
theorem dX1_bargeFact_43 : decode cX1_bargeFact 43 = .ok (.aload_n 0, 1) := by decide +kernel
theorem dX1_bargeFact_44 : decode cX1_bargeFact 44 = .ok (.aload_n 1, 1) := by decide +kernel
theorem dX1_bargeFact_45 : decode cX1_bargeFact 45 = .ok (.invokevirtual 127, 3) := by decide +kernel
theorem dX1_bargeFact_48 : decode cX1_bargeFact 48 = .ok (.ireturn, 1) := by decide +kernel
theorem dX1_heldWeirs_0 : decode cX1_heldWeirs 0 = .ok (.iconst 0, 1) := by decide +kernel
theorem dX1_heldWeirs_1 : decode cX1_heldWeirs 1 = .ok (.istore_n 1, 1) := by decide +kernel
theorem dX1_heldWeirs_2 : decode cX1_heldWeirs 2 = .ok (.iconst 0, 1) := by decide +kernel
theorem dX1_heldWeirs_3 : decode cX1_heldWeirs 3 = .ok (.istore_n 2, 1) := by decide +kernel
theorem dX1_heldWeirs_4 : decode cX1_heldWeirs 4 = .ok (.iload_n 2, 1) := by decide +kernel
theorem dX1_heldWeirs_5 : decode cX1_heldWeirs 5 = .ok (.aload_n 0, 1) := by decide +kernel
theorem dX1_heldWeirs_6 : decode cX1_heldWeirs 6 = .ok (.getfield 39, 3) := by decide +kernel
theorem dX1_heldWeirs_9 : decode cX1_heldWeirs 9 = .ok (.if_icmp .ge 29, 3) := by decide +kernel
theorem dX1_heldWeirs_12 : decode cX1_heldWeirs 12 = .ok (.aload_n 0, 1) := by decide +kernel
theorem dX1_heldWeirs_13 : decode cX1_heldWeirs 13 = .ok (.iload_n 2, 1) := by decide +kernel
theorem dX1_heldWeirs_14 : decode cX1_heldWeirs 14 = .ok (.invokevirtual 43, 3) := by decide +kernel
theorem dX1_heldWeirs_17 : decode cX1_heldWeirs 17 = .ok (.astore_n 3, 1) := by decide +kernel
theorem dX1_heldWeirs_18 : decode cX1_heldWeirs 18 = .ok (.aload_n 3, 1) := by decide +kernel
theorem dX1_heldWeirs_19 : decode cX1_heldWeirs 19 = .ok (.ifnull 13, 3) := by decide +kernel
theorem dX1_heldWeirs_22 : decode cX1_heldWeirs 22 = .ok (.aload_n 3, 1) := by decide +kernel
theorem dX1_heldWeirs_23 : decode cX1_heldWeirs 23 = .ok (.invokevirtual 131, 3) := by decide +kernel
theorem dX1_heldWeirs_26 : decode cX1_heldWeirs 26 = .ok (.ifCond .eq 6, 3) := by decide +kernel
theorem dX1_heldWeirs_29 : decode cX1_heldWeirs 29 = .ok (.iinc 1 1, 3) := by decide +kernel
theorem dX1_heldWeirs_32 : decode cX1_heldWeirs 32 = .ok (.iinc 2 1, 3) := by decide +kernel
theorem dX1_heldWeirs_35 : decode cX1_heldWeirs 35 = .ok (.goto (-31), 3) := by decide +kernel
theorem dX1_heldWeirs_38 : decode cX1_heldWeirs 38 = .ok (.iload_n 1, 1) := by decide +kernel
theorem dX1_heldWeirs_39 : decode cX1_heldWeirs 39 = .ok (.ireturn, 1) := by decide +kernel
theorem dX1_heldWattle_0 : decode cX1_heldWattle 0 = .ok (.iconst 0, 1) := by decide +kernel
theorem dX1_heldWattle_1 : decode cX1_heldWattle 1 = .ok (.istore_n 1, 1) := by decide +kernel
theorem dX1_heldWattle_2 : decode cX1_heldWattle 2 = .ok (.iconst 0, 1) := by decide +kernel
theorem dX1_heldWattle_3 : decode cX1_heldWattle 3 = .ok (.istore_n 2, 1) := by decide +kernel
theorem dX1_heldWattle_4 : decode cX1_heldWattle 4 = .ok (.iload_n 2, 1) := by decide +kernel
theorem dX1_heldWattle_5 : decode cX1_heldWattle 5 = .ok (.aload_n 0, 1) := by decide +kernel
theorem dX1_heldWattle_6 : decode cX1_heldWattle 6 = .ok (.getfield 39, 3) := by decide +kernel
theorem dX1_heldWattle_9 : decode cX1_heldWattle 9 = .ok (.if_icmp .ge 33, 3) := by decide +kernel
theorem dX1_heldWattle_12 : decode cX1_heldWattle 12 = .ok (.aload_n 0, 1) := by decide +kernel
theorem dX1_heldWattle_13 : decode cX1_heldWattle 13 = .ok (.iload_n 2, 1) := by decide +kernel
theorem dX1_heldWattle_14 : decode cX1_heldWattle 14 = .ok (.invokevirtual 43, 3) := by decide +kernel
theorem dX1_heldWattle_17 : decode cX1_heldWattle 17 = .ok (.astore_n 3, 1) := by decide +kernel
theorem dX1_heldWattle_18 : decode cX1_heldWattle 18 = .ok (.aload_n 3, 1) := by decide +kernel
theorem dX1_heldWattle_19 : decode cX1_heldWattle 19 = .ok (.ifnull 17, 3) := by decide +kernel
theorem dX1_heldWattle_22 : decode cX1_heldWattle 22 = .ok (.aload_n 3, 1) := by decide +kernel
theorem dX1_heldWattle_23 : decode cX1_heldWattle 23 = .ok (.invokevirtual 131, 3) := by decide +kernel
theorem dX1_heldWattle_26 : decode cX1_heldWattle 26 = .ok (.ifCond .eq 10, 3) := by decide +kernel
theorem dX1_heldWattle_29 : decode cX1_heldWattle 29 = .ok (.iload_n 1, 1) := by decide +kernel
theorem dX1_heldWattle_30 : decode cX1_heldWattle 30 = .ok (.aload_n 3, 1) := by decide +kernel
theorem dX1_heldWattle_31 : decode cX1_heldWattle 31 = .ok (.getfield 135, 3) := by decide +kernel
theorem dX1_heldWattle_34 : decode cX1_heldWattle 34 = .ok (.iadd, 1) := by decide +kernel
theorem dX1_heldWattle_35 : decode cX1_heldWattle 35 = .ok (.istore_n 1, 1) := by decide +kernel
theorem dX1_heldWattle_36 : decode cX1_heldWattle 36 = .ok (.iinc 2 1, 3) := by decide +kernel
theorem dX1_heldWattle_39 : decode cX1_heldWattle 39 = .ok (.goto (-35), 3) := by decide +kernel
theorem dX1_heldWattle_42 : decode cX1_heldWattle 42 = .ok (.iload_n 1, 1) := by decide +kernel
theorem dX1_heldWattle_43 : decode cX1_heldWattle 43 = .ok (.ireturn, 1) := by decide +kernel
theorem dX1_allEels_0 : decode cX1_allEels 0 = .ok (.iconst 0, 1) := by decide +kernel
theorem dX1_allEels_1 : decode cX1_allEels 1 = .ok (.istore_n 1, 1) := by decide +kernel
theorem dX1_allEels_2 : decode cX1_allEels 2 = .ok (.iconst 0, 1) := by decide +kernel
theorem dX1_allEels_3 : decode cX1_allEels 3 = .ok (.istore_n 2, 1) := by decide +kernel
theorem dX1_allEels_4 : decode cX1_allEels 4 = .ok (.iload_n 2, 1) := by decide +kernel
theorem dX1_allEels_5 : decode cX1_allEels 5 = .ok (.aload_n 0, 1) := by decide +kernel
theorem dX1_allEels_6 : decode cX1_allEels 6 = .ok (.getfield 39, 3) := by decide +kernel
theorem dX1_allEels_9 : decode cX1_allEels 9 = .ok (.if_icmp .ge 26, 3) := by decide +kernel
theorem dX1_allEels_12 : decode cX1_allEels 12 = .ok (.aload_n 0, 1) := by decide +kernel
theorem dX1_allEels_13 : decode cX1_allEels 13 = .ok (.iload_n 2, 1) := by decide +kernel
theorem dX1_allEels_14 : decode cX1_allEels 14 = .ok (.invokevirtual 43, 3) := by decide +kernel
theorem dX1_allEels_17 : decode cX1_allEels 17 = .ok (.astore_n 3, 1) := by decide +kernel
theorem dX1_allEels_18 : decode cX1_allEels 18 = .ok (.aload_n 3, 1) := by decide +kernel
theorem dX1_allEels_19 : decode cX1_allEels 19 = .ok (.ifnull 10, 3) := by decide +kernel
theorem dX1_allEels_22 : decode cX1_allEels 22 = .ok (.iload_n 1, 1) := by decide +kernel
theorem dX1_allEels_23 : decode cX1_allEels 23 = .ok (.aload_n 3, 1) := by decide +kernel
theorem dX1_allEels_24 : decode cX1_allEels 24 = .ok (.getfield 138, 3) := by decide +kernel
theorem dX1_allEels_27 : decode cX1_allEels 27 = .ok (.iadd, 1) := by decide +kernel
theorem dX1_allEels_28 : decode cX1_allEels 28 = .ok (.istore_n 1, 1) := by decide +kernel
theorem dX1_allEels_29 : decode cX1_allEels 29 = .ok (.iinc 2 1, 3) := by decide +kernel
theorem dX1_allEels_32 : decode cX1_allEels 32 = .ok (.goto (-28), 3) := by decide +kernel
theorem dX1_allEels_35 : decode cX1_allEels 35 = .ok (.iload_n 1, 1) := by decide +kernel
theorem dX1_allEels_36 : decode cX1_allEels 36 = .ok (.ireturn, 1) := by decide +kernel
theorem dX1_weirsInWay_0 : decode cX1_weirsInWay 0 = .ok (.iconst 0, 1) := by decide +kernel
theorem dX1_weirsInWay_1 : decode cX1_weirsInWay 1 = .ok (.istore_n 2, 1) := by decide +kernel
theorem dX1_weirsInWay_2 : decode cX1_weirsInWay 2 = .ok (.iconst 0, 1) := by decide +kernel
theorem dX1_weirsInWay_3 : decode cX1_weirsInWay 3 = .ok (.istore_n 3, 1) := by decide +kernel
theorem dX1_weirsInWay_4 : decode cX1_weirsInWay 4 = .ok (.iload_n 3, 1) := by decide +kernel
theorem dX1_weirsInWay_5 : decode cX1_weirsInWay 5 = .ok (.aload_n 0, 1) := by decide +kernel
theorem dX1_weirsInWay_6 : decode cX1_weirsInWay 6 = .ok (.getfield 39, 3) := by decide +kernel
theorem dX1_weirsInWay_9 : decode cX1_weirsInWay 9 = .ok (.if_icmp .ge 33, 3) := by decide +kernel
theorem dX1_weirsInWay_12 : decode cX1_weirsInWay 12 = .ok (.aload_n 0, 1) := by decide +kernel
theorem dX1_weirsInWay_13 : decode cX1_weirsInWay 13 = .ok (.iload_n 3, 1) := by decide +kernel
theorem dX1_weirsInWay_14 : decode cX1_weirsInWay 14 = .ok (.invokevirtual 43, 3) := by decide +kernel
theorem dX1_weirsInWay_17 : decode cX1_weirsInWay 17 = .ok (.astore 4, 2) := by decide +kernel
theorem dX1_weirsInWay_19 : decode cX1_weirsInWay 19 = .ok (.aload 4, 2) := by decide +kernel
theorem dX1_weirsInWay_21 : decode cX1_weirsInWay 21 = .ok (.ifnull 15, 3) := by decide +kernel
theorem dX1_weirsInWay_24 : decode cX1_weirsInWay 24 = .ok (.aload 4, 2) := by decide +kernel
theorem dX1_weirsInWay_26 : decode cX1_weirsInWay 26 = .ok (.iload_n 1, 1) := by decide +kernel
theorem dX1_weirsInWay_27 : decode cX1_weirsInWay 27 = .ok (.invokevirtual 141, 3) := by decide +kernel
theorem dX1_weirsInWay_30 : decode cX1_weirsInWay 30 = .ok (.ifCond .eq 6, 3) := by decide +kernel
theorem dX1_weirsInWay_33 : decode cX1_weirsInWay 33 = .ok (.iinc 2 1, 3) := by decide +kernel
theorem dX1_weirsInWay_36 : decode cX1_weirsInWay 36 = .ok (.iinc 3 1, 3) := by decide +kernel
theorem dX1_weirsInWay_39 : decode cX1_weirsInWay 39 = .ok (.goto (-35), 3) := by decide +kernel
theorem dX1_weirsInWay_42 : decode cX1_weirsInWay 42 = .ok (.iload_n 2, 1) := by decide +kernel
theorem dX1_weirsInWay_43 : decode cX1_weirsInWay 43 = .ok (.ireturn, 1) := by decide +kernel
theorem dX1_richestHeld_0 : decode cX1_richestHeld 0 = .ok (.iconst (-1), 1) := by decide +kernel
theorem dX1_richestHeld_1 : decode cX1_richestHeld 1 = .ok (.istore_n 1, 1) := by decide +kernel
theorem dX1_richestHeld_2 : decode cX1_richestHeld 2 = .ok (.iconst 0, 1) := by decide +kernel
theorem dX1_richestHeld_3 : decode cX1_richestHeld 3 = .ok (.istore_n 2, 1) := by decide +kernel
theorem dX1_richestHeld_4 : decode cX1_richestHeld 4 = .ok (.iconst 0, 1) := by decide +kernel
theorem dX1_richestHeld_5 : decode cX1_richestHeld 5 = .ok (.istore_n 3, 1) := by decide +kernel
theorem dX1_richestHeld_6 : decode cX1_richestHeld 6 = .ok (.iload_n 3, 1) := by decide +kernel
theorem dX1_richestHeld_7 : decode cX1_richestHeld 7 = .ok (.aload_n 0, 1) := by decide +kernel
theorem dX1_richestHeld_8 : decode cX1_richestHeld 8 = .ok (.getfield 39, 3) := by decide +kernel
theorem dX1_richestHeld_11 : decode cX1_richestHeld 11 = .ok (.if_icmp .ge 51, 3) := by decide +kernel
theorem dX1_richestHeld_14 : decode cX1_richestHeld 14 = .ok (.aload_n 0, 1) := by decide +kernel
theorem dX1_richestHeld_15 : decode cX1_richestHeld 15 = .ok (.iload_n 3, 1) := by decide +kernel
theorem dX1_richestHeld_16 : decode cX1_richestHeld 16 = .ok (.invokevirtual 43, 3) := by decide +kernel
theorem dX1_richestHeld_19 : decode cX1_richestHeld 19 = .ok (.astore 4, 2) := by decide +kernel
theorem dX1_richestHeld_21 : decode cX1_richestHeld 21 = .ok (.aload 4, 2) := by decide +kernel
theorem dX1_richestHeld_23 : decode cX1_richestHeld 23 = .ok (.ifnull 33, 3) := by decide +kernel
theorem dX1_richestHeld_26 : decode cX1_richestHeld 26 = .ok (.aload 4, 2) := by decide +kernel
theorem dX1_richestHeld_28 : decode cX1_richestHeld 28 = .ok (.invokevirtual 131, 3) := by decide +kernel
theorem dX1_richestHeld_31 : decode cX1_richestHeld 31 = .ok (.ifCond .eq 25, 3) := by decide +kernel
theorem dX1_richestHeld_34 : decode cX1_richestHeld 34 = .ok (.iload_n 1, 1) := by decide +kernel
theorem dX1_richestHeld_35 : decode cX1_richestHeld 35 = .ok (.iconst (-1), 1) := by decide +kernel
theorem dX1_richestHeld_36 : decode cX1_richestHeld 36 = .ok (.if_icmp .eq 12, 3) := by decide +kernel
theorem dX1_richestHeld_39 : decode cX1_richestHeld 39 = .ok (.aload 4, 2) := by decide +kernel
theorem dX1_richestHeld_41 : decode cX1_richestHeld 41 = .ok (.getfield 145, 3) := by decide +kernel
theorem dX1_richestHeld_44 : decode cX1_richestHeld 44 = .ok (.iload_n 2, 1) := by decide +kernel
theorem dX1_richestHeld_45 : decode cX1_richestHeld 45 = .ok (.if_icmp .le 11, 3) := by decide +kernel
theorem dX1_richestHeld_48 : decode cX1_richestHeld 48 = .ok (.iload_n 3, 1) := by decide +kernel
theorem dX1_richestHeld_49 : decode cX1_richestHeld 49 = .ok (.istore_n 1, 1) := by decide +kernel
theorem dX1_richestHeld_50 : decode cX1_richestHeld 50 = .ok (.aload 4, 2) := by decide +kernel
theorem dX1_richestHeld_52 : decode cX1_richestHeld 52 = .ok (.getfield 145, 3) := by decide +kernel
theorem dX1_richestHeld_55 : decode cX1_richestHeld 55 = .ok (.istore_n 2, 1) := by decide +kernel
theorem dX1_richestHeld_56 : decode cX1_richestHeld 56 = .ok (.iinc 3 1, 3) := by decide +kernel
theorem dX1_richestHeld_59 : decode cX1_richestHeld 59 = .ok (.goto (-53), 3) := by decide +kernel
theorem dX1_richestHeld_62 : decode cX1_richestHeld 62 = .ok (.iload_n 1, 1) := by decide +kernel
theorem dX1_richestHeld_63 : decode cX1_richestHeld 63 = .ok (.ireturn, 1) := by decide +kernel
theorem dX1_nextInWay_0 : decode cX1_nextInWay 0 = .ok (.iconst (-1), 1) := by decide +kernel
theorem dX1_nextInWay_1 : decode cX1_nextInWay 1 = .ok (.istore_n 2, 1) := by decide +kernel
theorem dX1_nextInWay_2 : decode cX1_nextInWay 2 = .ok (.bipush 40, 2) := by decide +kernel
theorem dX1_nextInWay_4 : decode cX1_nextInWay 4 = .ok (.istore_n 3, 1) := by decide +kernel
theorem dX1_nextInWay_5 : decode cX1_nextInWay 5 = .ok (.iconst 0, 1) := by decide +kernel
theorem dX1_nextInWay_6 : decode cX1_nextInWay 6 = .ok (.istore 4, 2) := by decide +kernel
theorem dX1_nextInWay_8 : decode cX1_nextInWay 8 = .ok (.iload 4, 2) := by decide +kernel
theorem dX1_nextInWay_10 : decode cX1_nextInWay 10 = .ok (.aload_n 0, 1) := by decide +kernel
theorem dX1_nextInWay_11 : decode cX1_nextInWay 11 = .ok (.getfield 39, 3) := by decide +kernel
theorem dX1_nextInWay_14 : decode cX1_nextInWay 14 = .ok (.if_icmp .ge 64, 3) := by decide +kernel
theorem dX1_nextInWay_17 : decode cX1_nextInWay 17 = .ok (.aload_n 0, 1) := by decide +kernel
theorem dX1_nextInWay_18 : decode cX1_nextInWay 18 = .ok (.iload 4, 2) := by decide +kernel
theorem dX1_nextInWay_20 : decode cX1_nextInWay 20 = .ok (.invokevirtual 43, 3) := by decide +kernel
theorem dX1_nextInWay_23 : decode cX1_nextInWay 23 = .ok (.astore 5, 2) := by decide +kernel
theorem dX1_nextInWay_25 : decode cX1_nextInWay 25 = .ok (.aload 5, 2) := by decide +kernel
theorem dX1_nextInWay_27 : decode cX1_nextInWay 27 = .ok (.ifnull 45, 3) := by decide +kernel
theorem dX1_nextInWay_30 : decode cX1_nextInWay 30 = .ok (.aload 5, 2) := by decide +kernel
theorem dX1_nextInWay_32 : decode cX1_nextInWay 32 = .ok (.getfield 93, 3) := by decide +kernel
theorem dX1_nextInWay_35 : decode cX1_nextInWay 35 = .ok (.aload_n 1, 1) := by decide +kernel
theorem dX1_nextInWay_36 : decode cX1_nextInWay 36 = .ok (.getfield 123, 3) := by decide +kernel
theorem dX1_nextInWay_39 : decode cX1_nextInWay 39 = .ok (.if_icmp .le 33, 3) := by decide +kernel
theorem dX1_nextInWay_42 : decode cX1_nextInWay 42 = .ok (.aload 5, 2) := by decide +kernel
theorem dX1_nextInWay_44 : decode cX1_nextInWay 44 = .ok (.getfield 93, 3) := by decide +kernel
theorem dX1_nextInWay_47 : decode cX1_nextInWay 47 = .ok (.iload_n 3, 1) := by decide +kernel
theorem dX1_nextInWay_48 : decode cX1_nextInWay 48 = .ok (.if_icmp .ge 24, 3) := by decide +kernel
theorem dX1_nextInWay_51 : decode cX1_nextInWay 51 = .ok (.aload 5, 2) := by decide +kernel
theorem dX1_nextInWay_53 : decode cX1_nextInWay 53 = .ok (.aload_n 1, 1) := by decide +kernel
theorem dX1_nextInWay_54 : decode cX1_nextInWay 54 = .ok (.getfield 120, 3) := by decide +kernel
theorem dX1_nextInWay_57 : decode cX1_nextInWay 57 = .ok (.invokevirtual 141, 3) := by decide +kernel
theorem dX1_nextInWay_60 : decode cX1_nextInWay 60 = .ok (.ifCond .eq 12, 3) := by decide +kernel
theorem dX1_nextInWay_63 : decode cX1_nextInWay 63 = .ok (.iload 4, 2) := by decide +kernel
theorem dX1_nextInWay_65 : decode cX1_nextInWay 65 = .ok (.istore_n 2, 1) := by decide +kernel
theorem dX1_nextInWay_66 : decode cX1_nextInWay 66 = .ok (.aload 5, 2) := by decide +kernel
theorem dX1_nextInWay_68 : decode cX1_nextInWay 68 = .ok (.getfield 93, 3) := by decide +kernel
theorem dX1_nextInWay_71 : decode cX1_nextInWay 71 = .ok (.istore_n 3, 1) := by decide +kernel
theorem dX1_nextInWay_72 : decode cX1_nextInWay 72 = .ok (.iinc 4 1, 3) := by decide +kernel
theorem dX1_nextInWay_75 : decode cX1_nextInWay 75 = .ok (.goto (-67), 3) := by decide +kernel
theorem dX1_nextInWay_78 : decode cX1_nextInWay 78 = .ok (.iload_n 2, 1) := by decide +kernel
theorem dX1_nextInWay_79 : decode cX1_nextInWay 79 = .ok (.ireturn, 1) := by decide +kernel
theorem dX1_goThroughNights_0 : decode cX1_goThroughNights 0 = .ok (.iconst 0, 1) := by decide +kernel
theorem dX1_goThroughNights_1 : decode cX1_goThroughNights 1 = .ok (.istore_n 2, 1) := by decide +kernel
theorem dX1_goThroughNights_2 : decode cX1_goThroughNights 2 = .ok (.iload_n 2, 1) := by decide +kernel
theorem dX1_goThroughNights_3 : decode cX1_goThroughNights 3 = .ok (.iload_n 1, 1) := by decide +kernel
theorem dX1_goThroughNights_4 : decode cX1_goThroughNights 4 = .ok (.if_icmp .ge 53, 3) := by decide +kernel
theorem dX1_goThroughNights_7 : decode cX1_goThroughNights 7 = .ok (.aload_n 0, 1) := by decide +kernel
theorem dX1_goThroughNights_8 : decode cX1_goThroughNights 8 = .ok (.invokevirtual 148, 3) := by decide +kernel
theorem dX1_goThroughNights_11 : decode cX1_goThroughNights 11 = .ok (.aload_n 0, 1) := by decide +kernel
theorem dX1_goThroughNights_12 : decode cX1_goThroughNights 12 = .ok (.invokevirtual 151, 3) := by decide +kernel
theorem dX1_goThroughNights_15 : decode cX1_goThroughNights 15 = .ok (.aload_n 0, 1) := by decide +kernel
