theorem dX2_init_0 : decode cX2_init 0 = .ok (.aload_n 0, 1) := by decide +kernel
theorem dX2_init_1 : decode cX2_init 1 = .ok (.invokespecial 3, 3) := by decide +kernel
theorem dX2_init_4 : decode cX2_init 4 = .ok (.return_, 1) := by decide +kernel
theorem dX2_makeNew_0 : decode cX2_makeNew 0 = .ok (.aload_n 0, 1) := by decide +kernel
theorem dX2_makeNew_1 : decode cX2_makeNew 1 = .ok (.iload_n 1, 1) := by decide +kernel
theorem dX2_makeNew_2 : decode cX2_makeNew 2 = .ok (.putfield 9, 3) := by decide +kernel
theorem dX2_makeNew_5 : decode cX2_makeNew 5 = .ok (.aload_n 0, 1) := by decide +kernel
theorem dX2_makeNew_6 : decode cX2_makeNew 6 = .ok (.iload_n 2, 1) := by decide +kernel
theorem dX2_makeNew_7 : decode cX2_makeNew 7 = .ok (.putfield 15, 3) := by decide +kernel
theorem dX2_makeNew_10 : decode cX2_makeNew 10 = .ok (.aload_n 0, 1) := by decide +kernel
theorem dX2_makeNew_11 : decode cX2_makeNew 11 = .ok (.bipush 100, 2) := by decide +kernel
theorem dX2_makeNew_13 : decode cX2_makeNew 13 = .ok (.putfield 18, 3) := by decide +kernel
theorem dX2_makeNew_16 : decode cX2_makeNew 16 = .ok (.aload_n 0, 1) := by decide +kernel
theorem dX2_makeNew_17 : decode cX2_makeNew 17 = .ok (.iload_n 3, 1) := by decide +kernel
theorem dX2_makeNew_18 : decode cX2_makeNew 18 = .ok (.putfield 21, 3) := by decide +kernel
theorem dX2_makeNew_21 : decode cX2_makeNew 21 = .ok (.aload_n 0, 1) := by decide +kernel
theorem dX2_makeNew_22 : decode cX2_makeNew 22 = .ok (.bipush 20, 2) := by decide +kernel
theorem dX2_makeNew_24 : decode cX2_makeNew 24 = .ok (.putfield 24, 3) := by decide +kernel
theorem dX2_makeNew_27 : decode cX2_makeNew 27 = .ok (.aload_n 0, 1) := by decide +kernel
theorem dX2_makeNew_28 : decode cX2_makeNew 28 = .ok (.iconst 0, 1) := by decide +kernel
theorem dX2_makeNew_29 : decode cX2_makeNew 29 = .ok (.putfield 27, 3) := by decide +kernel
theorem dX2_makeNew_32 : decode cX2_makeNew 32 = .ok (.aload_n 0, 1) := by decide +kernel
theorem dX2_makeNew_33 : decode cX2_makeNew 33 = .ok (.iconst 0, 1) := by decide +kernel
theorem dX2_makeNew_34 : decode cX2_makeNew 34 = .ok (.putfield 30, 3) := by decide +kernel
theorem dX2_makeNew_37 : decode cX2_makeNew 37 = .ok (.aload_n 0, 1) := by decide +kernel
theorem dX2_makeNew_38 : decode cX2_makeNew 38 = .ok (.iconst 0, 1) := by decide +kernel
theorem dX2_makeNew_39 : decode cX2_makeNew 39 = .ok (.putfield 34, 3) := by decide +kernel
theorem dX2_makeNew_42 : decode cX2_makeNew 42 = .ok (.return_, 1) := by decide +kernel
theorem dX2_copyFrom_0 : decode cX2_copyFrom 0 = .ok (.aload_n 0, 1) := by decide +kernel
theorem dX2_copyFrom_1 : decode cX2_copyFrom 1 = .ok (.aload_n 1, 1) := by decide +kernel
theorem dX2_copyFrom_2 : decode cX2_copyFrom 2 = .ok (.getfield 9, 3) := by decide +kernel
theorem dX2_copyFrom_5 : decode cX2_copyFrom 5 = .ok (.putfield 9, 3) := by decide +kernel
theorem dX2_copyFrom_8 : decode cX2_copyFrom 8 = .ok (.aload_n 0, 1) := by decide +kernel
theorem dX2_copyFrom_9 : decode cX2_copyFrom 9 = .ok (.aload_n 1, 1) := by decide +kernel
theorem dX2_copyFrom_10 : decode cX2_copyFrom 10 = .ok (.getfield 15, 3) := by decide +kernel
theorem dX2_copyFrom_13 : decode cX2_copyFrom 13 = .ok (.putfield 15, 3) := by decide +kernel
theorem dX2_copyFrom_16 : decode cX2_copyFrom 16 = .ok (.aload_n 0, 1) := by decide +kernel
theorem dX2_copyFrom_17 : decode cX2_copyFrom 17 = .ok (.aload_n 1, 1) := by decide +kernel
theorem dX2_copyFrom_18 : decode cX2_copyFrom 18 = .ok (.getfield 18, 3) := by decide +kernel
theorem dX2_copyFrom_21 : decode cX2_copyFrom 21 = .ok (.putfield 18, 3) := by decide +kernel
theorem dX2_copyFrom_24 : decode cX2_copyFrom 24 = .ok (.aload_n 0, 1) := by decide +kernel
theorem dX2_copyFrom_25 : decode cX2_copyFrom 25 = .ok (.aload_n 1, 1) := by decide +kernel
theorem dX2_copyFrom_26 : decode cX2_copyFrom 26 = .ok (.getfield 21, 3) := by decide +kernel
theorem dX2_copyFrom_29 : decode cX2_copyFrom 29 = .ok (.putfield 21, 3) := by decide +kernel
theorem dX2_copyFrom_32 : decode cX2_copyFrom 32 = .ok (.aload_n 0, 1) := by decide +kernel
theorem dX2_copyFrom_33 : decode cX2_copyFrom 33 = .ok (.aload_n 1, 1) := by decide +kernel
theorem dX2_copyFrom_34 : decode cX2_copyFrom 34 = .ok (.getfield 24, 3) := by decide +kernel
theorem dX2_copyFrom_37 : decode cX2_copyFrom 37 = .ok (.putfield 24, 3) := by decide +kernel
theorem dX2_copyFrom_40 : decode cX2_copyFrom 40 = .ok (.aload_n 0, 1) := by decide +kernel
theorem dX2_copyFrom_41 : decode cX2_copyFrom 41 = .ok (.aload_n 1, 1) := by decide +kernel
theorem dX2_copyFrom_42 : decode cX2_copyFrom 42 = .ok (.getfield 27, 3) := by decide +kernel
theorem dX2_copyFrom_45 : decode cX2_copyFrom 45 = .ok (.putfield 27, 3) := by decide +kernel
theorem dX2_copyFrom_48 : decode cX2_copyFrom 48 = .ok (.aload_n 0, 1) := by decide +kernel
theorem dX2_copyFrom_49 : decode cX2_copyFrom 49 = .ok (.aload_n 1, 1) := by decide +kernel
theorem dX2_copyFrom_50 : decode cX2_copyFrom 50 = .ok (.getfield 30, 3) := by decide +kernel
theorem dX2_copyFrom_53 : decode cX2_copyFrom 53 = .ok (.putfield 30, 3) := by decide +kernel
theorem dX2_copyFrom_56 : decode cX2_copyFrom 56 = .ok (.aload_n 0, 1) := by decide +kernel
theorem dX2_copyFrom_57 : decode cX2_copyFrom 57 = .ok (.aload_n 1, 1) := by decide +kernel
theorem dX2_copyFrom_58 : decode cX2_copyFrom 58 = .ok (.getfield 34, 3) := by decide +kernel
theorem dX2_copyFrom_61 : decode cX2_copyFrom 61 = .ok (.putfield 34, 3) := by decide +kernel
theorem dX2_copyFrom_64 : decode cX2_copyFrom 64 = .ok (.return_, 1) := by decide +kernel
theorem dX2_isHeld_0 : decode cX2_isHeld 0 = .ok (.aload_n 0, 1) := by decide +kernel
theorem dX2_isHeld_1 : decode cX2_isHeld 1 = .ok (.getfield 34, 3) := by decide +kernel
theorem dX2_isHeld_4 : decode cX2_isHeld 4 = .ok (.iconst 3, 1) := by decide +kernel
theorem dX2_isHeld_5 : decode cX2_isHeld 5 = .ok (.if_icmp .ge 7, 3) := by decide +kernel
theorem dX2_isHeld_8 : decode cX2_isHeld 8 = .ok (.iconst 1, 1) := by decide +kernel
theorem dX2_isHeld_9 : decode cX2_isHeld 9 = .ok (.goto 4, 3) := by decide +kernel
theorem dX2_isHeld_12 : decode cX2_isHeld 12 = .ok (.iconst 0, 1) := by decide +kernel
theorem dX2_isHeld_13 : decode cX2_isHeld 13 = .ok (.ireturn, 1) := by decide +kernel
theorem dX2_isFishing_0 : decode cX2_isFishing 0 = .ok (.aload_n 0, 1) := by decide +kernel
theorem dX2_isFishing_1 : decode cX2_isFishing 1 = .ok (.getfield 34, 3) := by decide +kernel
theorem dX2_isFishing_4 : decode cX2_isFishing 4 = .ok (.iconst 3, 1) := by decide +kernel
theorem dX2_isFishing_5 : decode cX2_isFishing 5 = .ok (.if_icmp .ge 14, 3) := by decide +kernel
theorem dX2_isFishing_8 : decode cX2_isFishing 8 = .ok (.aload_n 0, 1) := by decide +kernel
theorem dX2_isFishing_9 : decode cX2_isFishing 9 = .ok (.getfield 30, 3) := by decide +kernel
theorem dX2_isFishing_12 : decode cX2_isFishing 12 = .ok (.ifCond .ne 7, 3) := by decide +kernel
theorem dX2_isFishing_15 : decode cX2_isFishing 15 = .ok (.iconst 1, 1) := by decide +kernel
theorem dX2_isFishing_16 : decode cX2_isFishing 16 = .ok (.goto 4, 3) := by decide +kernel
theorem dX2_isFishing_19 : decode cX2_isFishing 19 = .ok (.iconst 0, 1) := by decide +kernel
theorem dX2_isFishing_20 : decode cX2_isFishing 20 = .ok (.ireturn, 1) := by decide +kernel
theorem dX2_isInWay_0 : decode cX2_isInWay 0 = .ok (.aload_n 0, 1) := by decide +kernel
theorem dX2_isInWay_1 : decode cX2_isInWay 1 = .ok (.invokevirtual 37, 3) := by decide +kernel
theorem dX2_isInWay_4 : decode cX2_isInWay 4 = .ok (.ifCond .eq 18, 3) := by decide +kernel
theorem dX2_isInWay_7 : decode cX2_isInWay 7 = .ok (.aload_n 0, 1) := by decide +kernel
theorem dX2_isInWay_8 : decode cX2_isInWay 8 = .ok (.getfield 15, 3) := by decide +kernel
theorem dX2_isInWay_11 : decode cX2_isInWay 11 = .ok (.bipush 30, 2) := by decide +kernel
theorem dX2_isInWay_13 : decode cX2_isInWay 13 = .ok (.iload_n 1, 1) := by decide +kernel
theorem dX2_isInWay_14 : decode cX2_isInWay 14 = .ok (.isub, 1) := by decide +kernel
theorem dX2_isInWay_15 : decode cX2_isInWay 15 = .ok (.if_icmp .le 7, 3) := by decide +kernel
theorem dX2_isInWay_18 : decode cX2_isInWay 18 = .ok (.iconst 1, 1) := by decide +kernel
theorem dX2_isInWay_19 : decode cX2_isInWay 19 = .ok (.goto 4, 3) := by decide +kernel
theorem dX2_isInWay_22 : decode cX2_isInWay 22 = .ok (.iconst 0, 1) := by decide +kernel
theorem dX2_isInWay_23 : decode cX2_isInWay 23 = .ok (.ireturn, 1) := by decide +kernel
theorem dX2_fact_0 : decode cX2_fact 0 = .ok (.iload_n 1, 1) := by decide +kernel
theorem dX2_fact_1 : decode cX2_fact 1 = .ok (.tableswitch 86 0 6 #[43, 48, 53, 58, 63, 68, 73], 43) := by decide +kernel
theorem dX2_fact_44 : decode cX2_fact 44 = .ok (.aload_n 0, 1) := by decide +kernel
theorem dX2_fact_45 : decode cX2_fact 45 = .ok (.getfield 9, 3) := by decide +kernel
theorem dX2_fact_48 : decode cX2_fact 48 = .ok (.ireturn, 1) := by decide +kernel
theorem dX2_fact_49 : decode cX2_fact 49 = .ok (.aload_n 0, 1) := by decide +kernel
theorem dX2_fact_50 : decode cX2_fact 50 = .ok (.getfield 15, 3) := by decide +kernel
theorem dX2_fact_53 : decode cX2_fact 53 = .ok (.ireturn, 1) := by decide +kernel
theorem dX2_fact_54 : decode cX2_fact 54 = .ok (.aload_n 0, 1) := by decide +kernel
theorem dX2_fact_55 : decode cX2_fact 55 = .ok (.getfield 18, 3) := by decide +kernel
theorem dX2_fact_58 : decode cX2_fact 58 = .ok (.ireturn, 1) := by decide +kernel
theorem dX2_fact_59 : decode cX2_fact 59 = .ok (.aload_n 0, 1) := by decide +kernel
theorem dX2_fact_60 : decode cX2_fact 60 = .ok (.getfield 21, 3) := by decide +kernel
theorem dX2_fact_63 : decode cX2_fact 63 = .ok (.ireturn, 1) := by decide +kernel
theorem dX2_fact_64 : decode cX2_fact 64 = .ok (.aload_n 0, 1) := by decide +kernel
theorem dX2_fact_65 : decode cX2_fact 65 = .ok (.getfield 24, 3) := by decide +kernel
theorem dX2_fact_68 : decode cX2_fact 68 = .ok (.ireturn, 1) := by decide +kernel
theorem dX2_fact_69 : decode cX2_fact 69 = .ok (.aload_n 0, 1) := by decide +kernel
theorem dX2_fact_70 : decode cX2_fact 70 = .ok (.getfield 27, 3) := by decide +kernel
theorem dX2_fact_73 : decode cX2_fact 73 = .ok (.ireturn, 1) := by decide +kernel
theorem dX2_fact_74 : decode cX2_fact 74 = .ok (.aload_n 0, 1) := by decide +kernel
theorem dX2_fact_75 : decode cX2_fact 75 = .ok (.getfield 30, 3) := by decide +kernel
theorem dX2_fact_78 : decode cX2_fact 78 = .ok (.ifCond .eq 7, 3) := by decide +kernel
theorem dX2_fact_81 : decode cX2_fact 81 = .ok (.iconst 1, 1) := by decide +kernel
theorem dX2_fact_82 : decode cX2_fact 82 = .ok (.goto 4, 3) := by decide +kernel
theorem dX2_fact_85 : decode cX2_fact 85 = .ok (.iconst 0, 1) := by decide +kernel
theorem dX2_fact_86 : decode cX2_fact 86 = .ok (.ireturn, 1) := by decide +kernel
theorem dX2_fact_87 : decode cX2_fact 87 = .ok (.aload_n 0, 1) := by decide +kernel
theorem dX2_fact_88 : decode cX2_fact 88 = .ok (.getfield 34, 3) := by decide +kernel
theorem dX2_fact_91 : decode cX2_fact 91 = .ok (.ireturn, 1) := by decide +kernel
theorem dX2_catchOf_0 : decode cX2_catchOf 0 = .ok (.iload_n 1, 1) := by decide +kernel
theorem dX2_catchOf_1 : decode cX2_catchOf 1 = .ok (.aload_n 0, 1) := by decide +kernel
theorem dX2_catchOf_2 : decode cX2_catchOf 2 = .ok (.getfield 15, 3) := by decide +kernel
theorem dX2_catchOf_5 : decode cX2_catchOf 5 = .ok (.imul, 1) := by decide +kernel
theorem dX2_catchOf_6 : decode cX2_catchOf 6 = .ok (.aload_n 0, 1) := by decide +kernel
theorem dX2_catchOf_7 : decode cX2_catchOf 7 = .ok (.getfield 18, 3) := by decide +kernel
theorem dX2_catchOf_10 : decode cX2_catchOf 10 = .ok (.imul, 1) := by decide +kernel
theorem dX2_catchOf_11 : decode cX2_catchOf 11 = .ok (.sipush 3000, 3) := by decide +kernel
theorem dX2_catchOf_14 : decode cX2_catchOf 14 = .ok (.idiv, 1) := by decide +kernel
theorem dX2_catchOf_15 : decode cX2_catchOf 15 = .ok (.sipush 200, 3) := by decide +kernel
theorem dX2_catchOf_18 : decode cX2_catchOf 18 = .ok (.aload_n 0, 1) := by decide +kernel
theorem dX2_catchOf_19 : decode cX2_catchOf 19 = .ok (.getfield 27, 3) := by decide +kernel
theorem dX2_catchOf_22 : decode cX2_catchOf 22 = .ok (.isub, 1) := by decide +kernel
theorem dX2_catchOf_23 : decode cX2_catchOf 23 = .ok (.invokestatic 41, 3) := by decide +kernel
theorem dX2_catchOf_26 : decode cX2_catchOf 26 = .ok (.istore_n 2, 1) := by decide +kernel
theorem dX2_catchOf_27 : decode cX2_catchOf 27 = .ok (.aload_n 0, 1) := by decide +kernel
theorem dX2_catchOf_28 : decode cX2_catchOf 28 = .ok (.dup, 1) := by decide +kernel
theorem dX2_catchOf_29 : decode cX2_catchOf 29 = .ok (.getfield 27, 3) := by decide +kernel
theorem dX2_catchOf_32 : decode cX2_catchOf 32 = .ok (.iload_n 2, 1) := by decide +kernel
theorem dX2_catchOf_33 : decode cX2_catchOf 33 = .ok (.iadd, 1) := by decide +kernel
theorem dX2_catchOf_34 : decode cX2_catchOf 34 = .ok (.putfield 27, 3) := by decide +kernel
theorem dX2_catchOf_37 : decode cX2_catchOf 37 = .ok (.iload_n 2, 1) := by decide +kernel
theorem dX2_catchOf_38 : decode cX2_catchOf 38 = .ok (.ireturn, 1) := by decide +kernel
theorem dX2_breakFor_0 : decode cX2_breakFor 0 = .ok (.aload_n 0, 1) := by decide +kernel
theorem dX2_breakFor_1 : decode cX2_breakFor 1 = .ok (.bipush 30, 2) := by decide +kernel
theorem dX2_breakFor_3 : decode cX2_breakFor 3 = .ok (.iload_n 1, 1) := by decide +kernel
theorem dX2_breakFor_4 : decode cX2_breakFor 4 = .ok (.isub, 1) := by decide +kernel
theorem dX2_breakFor_5 : decode cX2_breakFor 5 = .ok (.putfield 15, 3) := by decide +kernel
theorem dX2_breakFor_8 : decode cX2_breakFor 8 = .ok (.aload_n 0, 1) := by decide +kernel
theorem dX2_breakFor_9 : decode cX2_breakFor 9 = .ok (.bipush 20, 2) := by decide +kernel
theorem dX2_breakFor_11 : decode cX2_breakFor 11 = .ok (.invokevirtual 47, 3) := by decide +kernel
theorem dX2_breakFor_14 : decode cX2_breakFor 14 = .ok (.iconst 3, 1) := by decide +kernel
theorem dX2_breakFor_15 : decode cX2_breakFor 15 = .ok (.aload_n 0, 1) := by decide +kernel
theorem dX2_breakFor_16 : decode cX2_breakFor 16 = .ok (.getfield 24, 3) := by decide +kernel
theorem dX2_breakFor_19 : decode cX2_breakFor 19 = .ok (.invokestatic 41, 3) := by decide +kernel
theorem dX2_breakFor_22 : decode cX2_breakFor 22 = .ok (.istore_n 2, 1) := by decide +kernel
theorem dX2_breakFor_23 : decode cX2_breakFor 23 = .ok (.aload_n 0, 1) := by decide +kernel
theorem dX2_breakFor_24 : decode cX2_breakFor 24 = .ok (.dup, 1) := by decide +kernel
theorem dX2_breakFor_25 : decode cX2_breakFor 25 = .ok (.getfield 24, 3) := by decide +kernel
theorem dX2_breakFor_28 : decode cX2_breakFor 28 = .ok (.iload_n 2, 1) := by decide +kernel
theorem dX2_breakFor_29 : decode cX2_breakFor 29 = .ok (.isub, 1) := by decide +kernel
theorem dX2_breakFor_30 : decode cX2_breakFor 30 = .ok (.putfield 24, 3) := by decide +kernel
theorem dX2_breakFor_33 : decode cX2_breakFor 33 = .ok (.iload_n 2, 1) := by decide +kernel
theorem dX2_breakFor_34 : decode cX2_breakFor 34 = .ok (.ireturn, 1) := by decide +kernel
theorem dX2_loseWattle_0 : decode cX2_loseWattle 0 = .ok (.aload_n 0, 1) := by decide +kernel
theorem dX2_loseWattle_1 : decode cX2_loseWattle 1 = .ok (.aload_n 0, 1) := by decide +kernel
theorem dX2_loseWattle_2 : decode cX2_loseWattle 2 = .ok (.getfield 18, 3) := by decide +kernel
theorem dX2_loseWattle_5 : decode cX2_loseWattle 5 = .ok (.iload_n 1, 1) := by decide +kernel
theorem dX2_loseWattle_6 : decode cX2_loseWattle 6 = .ok (.if_icmp .le 12, 3) := by decide +kernel
theorem dX2_loseWattle_9 : decode cX2_loseWattle 9 = .ok (.aload_n 0, 1) := by decide +kernel
theorem dX2_loseWattle_10 : decode cX2_loseWattle 10 = .ok (.getfield 18, 3) := by decide +kernel
theorem dX2_loseWattle_13 : decode cX2_loseWattle 13 = .ok (.iload_n 1, 1) := by decide +kernel
theorem dX2_loseWattle_14 : decode cX2_loseWattle 14 = .ok (.isub, 1) := by decide +kernel
theorem dX2_loseWattle_15 : decode cX2_loseWattle 15 = .ok (.goto 4, 3) := by decide +kernel
theorem dX2_loseWattle_18 : decode cX2_loseWattle 18 = .ok (.iconst 0, 1) := by decide +kernel
theorem dX2_loseWattle_19 : decode cX2_loseWattle 19 = .ok (.putfield 18, 3) := by decide +kernel
theorem dX2_loseWattle_22 : decode cX2_loseWattle 22 = .ok (.return_, 1) := by decide +kernel
theorem dX2_payRent_0 : decode cX2_payRent 0 = .ok (.aload_n 0, 1) := by decide +kernel
theorem dX2_payRent_1 : decode cX2_payRent 1 = .ok (.getfield 24, 3) := by decide +kernel
theorem dX2_payRent_4 : decode cX2_payRent 4 = .ok (.aload_n 0, 1) := by decide +kernel
theorem dX2_payRent_5 : decode cX2_payRent 5 = .ok (.getfield 21, 3) := by decide +kernel
theorem dX2_payRent_8 : decode cX2_payRent 8 = .ok (.if_icmp .lt 26, 3) := by decide +kernel
theorem dX2_payRent_11 : decode cX2_payRent 11 = .ok (.aload_n 0, 1) := by decide +kernel
theorem dX2_payRent_12 : decode cX2_payRent 12 = .ok (.dup, 1) := by decide +kernel
theorem dX2_payRent_13 : decode cX2_payRent 13 = .ok (.getfield 24, 3) := by decide +kernel
theorem dX2_payRent_16 : decode cX2_payRent 16 = .ok (.aload_n 0, 1) := by decide +kernel
theorem dX2_payRent_17 : decode cX2_payRent 17 = .ok (.getfield 21, 3) := by decide +kernel
theorem dX2_payRent_20 : decode cX2_payRent 20 = .ok (.isub, 1) := by decide +kernel
theorem dX2_payRent_21 : decode cX2_payRent 21 = .ok (.putfield 24, 3) := by decide +kernel
theorem dX2_payRent_24 : decode cX2_payRent 24 = .ok (.aload_n 0, 1) := by decide +kernel
theorem dX2_payRent_25 : decode cX2_payRent 25 = .ok (.iconst 0, 1) := by decide +kernel
theorem dX2_payRent_26 : decode cX2_payRent 26 = .ok (.putfield 34, 3) := by decide +kernel
theorem dX2_payRent_29 : decode cX2_payRent 29 = .ok (.aload_n 0, 1) := by decide +kernel
theorem dX2_payRent_30 : decode cX2_payRent 30 = .ok (.getfield 21, 3) := by decide +kernel
theorem dX2_payRent_33 : decode cX2_payRent 33 = .ok (.ireturn, 1) := by decide +kernel
theorem dX2_payRent_34 : decode cX2_payRent 34 = .ok (.aload_n 0, 1) := by decide +kernel
theorem dX2_payRent_35 : decode cX2_payRent 35 = .ok (.dup, 1) := by decide +kernel
theorem dX2_payRent_36 : decode cX2_payRent 36 = .ok (.getfield 34, 3) := by decide +kernel
theorem dX2_payRent_39 : decode cX2_payRent 39 = .ok (.iconst 1, 1) := by decide +kernel
theorem dX2_payRent_40 : decode cX2_payRent 40 = .ok (.iadd, 1) := by decide +kernel
theorem dX2_payRent_41 : decode cX2_payRent 41 = .ok (.putfield 34, 3) := by decide +kernel
theorem dX2_payRent_44 : decode cX2_payRent 44 = .ok (.aload_n 0, 1) := by decide +kernel
theorem dX2_payRent_45 : decode cX2_payRent 45 = .ok (.getfield 34, 3) := by decide +kernel
theorem dX2_payRent_48 : decode cX2_payRent 48 = .ok (.iconst 3, 1) := by decide +kernel
theorem dX2_payRent_49 : decode cX2_payRent 49 = .ok (.if_icmp .lt 8, 3) := by decide +kernel
theorem dX2_payRent_52 : decode cX2_payRent 52 = .ok (.aload_n 0, 1) := by decide +kernel
theorem dX2_payRent_53 : decode cX2_payRent 53 = .ok (.iconst 0, 1) := by decide +kernel
theorem dX2_payRent_54 : decode cX2_payRent 54 = .ok (.putfield 27, 3) := by decide +kernel
theorem dX2_payRent_57 : decode cX2_payRent 57 = .ok (.iconst 0, 1) := by decide +kernel
theorem dX2_payRent_58 : decode cX2_payRent 58 = .ok (.ireturn, 1) := by decide +kernel
