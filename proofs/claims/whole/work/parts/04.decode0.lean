theorem dX0_init_0 : decode cX0_init 0 = .ok (.aload_n 0, 1) := by decide +kernel
theorem dX0_init_1 : decode cX0_init 1 = .ok (.invokespecial 3, 3) := by decide +kernel
theorem dX0_init_4 : decode cX0_init 4 = .ok (.aload_n 0, 1) := by decide +kernel
theorem dX0_init_5 : decode cX0_init 5 = .ok (.iconst 0, 1) := by decide +kernel
theorem dX0_init_6 : decode cX0_init 6 = .ok (.putfield 9, 3) := by decide +kernel
theorem dX0_init_9 : decode cX0_init 9 = .ok (.aload_n 0, 1) := by decide +kernel
theorem dX0_init_10 : decode cX0_init 10 = .ok (.iconst 0, 1) := by decide +kernel
theorem dX0_init_11 : decode cX0_init 11 = .ok (.putfield 15, 3) := by decide +kernel
theorem dX0_init_14 : decode cX0_init 14 = .ok (.aload_n 0, 1) := by decide +kernel
theorem dX0_init_15 : decode cX0_init 15 = .ok (.bipush 6, 2) := by decide +kernel
theorem dX0_init_17 : decode cX0_init 17 = .ok (.newarray .int, 2) := by decide +kernel
theorem dX0_init_19 : decode cX0_init 19 = .ok (.putfield 18, 3) := by decide +kernel
theorem dX0_init_22 : decode cX0_init 22 = .ok (.aload_n 0, 1) := by decide +kernel
theorem dX0_init_23 : decode cX0_init 23 = .ok (.bipush 6, 2) := by decide +kernel
theorem dX0_init_25 : decode cX0_init 25 = .ok (.newarray .int, 2) := by decide +kernel
theorem dX0_init_27 : decode cX0_init 27 = .ok (.putfield 22, 3) := by decide +kernel
theorem dX0_init_30 : decode cX0_init 30 = .ok (.aload_n 0, 1) := by decide +kernel
theorem dX0_init_31 : decode cX0_init 31 = .ok (.bipush 6, 2) := by decide +kernel
theorem dX0_init_33 : decode cX0_init 33 = .ok (.newarray .int, 2) := by decide +kernel
theorem dX0_init_35 : decode cX0_init 35 = .ok (.putfield 25, 3) := by decide +kernel
theorem dX0_init_38 : decode cX0_init 38 = .ok (.aload_n 0, 1) := by decide +kernel
theorem dX0_init_39 : decode cX0_init 39 = .ok (.bipush 6, 2) := by decide +kernel
theorem dX0_init_41 : decode cX0_init 41 = .ok (.newarray .int, 2) := by decide +kernel
theorem dX0_init_43 : decode cX0_init 43 = .ok (.putfield 28, 3) := by decide +kernel
theorem dX0_init_46 : decode cX0_init 46 = .ok (.return_, 1) := by decide +kernel
theorem dX0_drop_0 : decode cX0_drop 0 = .ok (.aload_n 0, 1) := by decide +kernel
theorem dX0_drop_1 : decode cX0_drop 1 = .ok (.iconst 0, 1) := by decide +kernel
theorem dX0_drop_2 : decode cX0_drop 2 = .ok (.putfield 9, 3) := by decide +kernel
theorem dX0_drop_5 : decode cX0_drop 5 = .ok (.aload_n 0, 1) := by decide +kernel
theorem dX0_drop_6 : decode cX0_drop 6 = .ok (.iconst 0, 1) := by decide +kernel
theorem dX0_drop_7 : decode cX0_drop 7 = .ok (.putfield 15, 3) := by decide +kernel
theorem dX0_drop_10 : decode cX0_drop 10 = .ok (.return_, 1) := by decide +kernel
theorem dX0_addFelt_0 : decode cX0_addFelt 0 = .ok (.aload_n 0, 1) := by decide +kernel
theorem dX0_addFelt_1 : decode cX0_addFelt 1 = .ok (.getfield 9, 3) := by decide +kernel
theorem dX0_addFelt_4 : decode cX0_addFelt 4 = .ok (.bipush 6, 2) := by decide +kernel
theorem dX0_addFelt_6 : decode cX0_addFelt 6 = .ok (.if_icmp .lt 5, 3) := by decide +kernel
theorem dX0_addFelt_9 : decode cX0_addFelt 9 = .ok (.iconst 0, 1) := by decide +kernel
theorem dX0_addFelt_10 : decode cX0_addFelt 10 = .ok (.ireturn, 1) := by decide +kernel
theorem dX0_addFelt_11 : decode cX0_addFelt 11 = .ok (.aload_n 0, 1) := by decide +kernel
theorem dX0_addFelt_12 : decode cX0_addFelt 12 = .ok (.getfield 18, 3) := by decide +kernel
theorem dX0_addFelt_15 : decode cX0_addFelt 15 = .ok (.aload_n 0, 1) := by decide +kernel
theorem dX0_addFelt_16 : decode cX0_addFelt 16 = .ok (.getfield 9, 3) := by decide +kernel
theorem dX0_addFelt_19 : decode cX0_addFelt 19 = .ok (.iload_n 1, 1) := by decide +kernel
theorem dX0_addFelt_20 : decode cX0_addFelt 20 = .ok (.iastore, 1) := by decide +kernel
theorem dX0_addFelt_21 : decode cX0_addFelt 21 = .ok (.aload_n 0, 1) := by decide +kernel
theorem dX0_addFelt_22 : decode cX0_addFelt 22 = .ok (.dup, 1) := by decide +kernel
theorem dX0_addFelt_23 : decode cX0_addFelt 23 = .ok (.getfield 9, 3) := by decide +kernel
theorem dX0_addFelt_26 : decode cX0_addFelt 26 = .ok (.iconst 1, 1) := by decide +kernel
theorem dX0_addFelt_27 : decode cX0_addFelt 27 = .ok (.iadd, 1) := by decide +kernel
theorem dX0_addFelt_28 : decode cX0_addFelt 28 = .ok (.putfield 9, 3) := by decide +kernel
theorem dX0_addFelt_31 : decode cX0_addFelt 31 = .ok (.iconst 1, 1) := by decide +kernel
theorem dX0_addFelt_32 : decode cX0_addFelt 32 = .ok (.ireturn, 1) := by decide +kernel
theorem dX0_addTold_0 : decode cX0_addTold 0 = .ok (.aload_n 0, 1) := by decide +kernel
theorem dX0_addTold_1 : decode cX0_addTold 1 = .ok (.getfield 15, 3) := by decide +kernel
theorem dX0_addTold_4 : decode cX0_addTold 4 = .ok (.bipush 6, 2) := by decide +kernel
theorem dX0_addTold_6 : decode cX0_addTold 6 = .ok (.if_icmp .lt 5, 3) := by decide +kernel
theorem dX0_addTold_9 : decode cX0_addTold 9 = .ok (.iconst 0, 1) := by decide +kernel
theorem dX0_addTold_10 : decode cX0_addTold 10 = .ok (.ireturn, 1) := by decide +kernel
theorem dX0_addTold_11 : decode cX0_addTold 11 = .ok (.aload_n 0, 1) := by decide +kernel
theorem dX0_addTold_12 : decode cX0_addTold 12 = .ok (.getfield 22, 3) := by decide +kernel
theorem dX0_addTold_15 : decode cX0_addTold 15 = .ok (.aload_n 0, 1) := by decide +kernel
theorem dX0_addTold_16 : decode cX0_addTold 16 = .ok (.getfield 15, 3) := by decide +kernel
theorem dX0_addTold_19 : decode cX0_addTold 19 = .ok (.iload_n 1, 1) := by decide +kernel
theorem dX0_addTold_20 : decode cX0_addTold 20 = .ok (.iastore, 1) := by decide +kernel
theorem dX0_addTold_21 : decode cX0_addTold 21 = .ok (.aload_n 0, 1) := by decide +kernel
theorem dX0_addTold_22 : decode cX0_addTold 22 = .ok (.getfield 25, 3) := by decide +kernel
theorem dX0_addTold_25 : decode cX0_addTold 25 = .ok (.aload_n 0, 1) := by decide +kernel
theorem dX0_addTold_26 : decode cX0_addTold 26 = .ok (.getfield 15, 3) := by decide +kernel
theorem dX0_addTold_29 : decode cX0_addTold 29 = .ok (.iload_n 2, 1) := by decide +kernel
theorem dX0_addTold_30 : decode cX0_addTold 30 = .ok (.iastore, 1) := by decide +kernel
theorem dX0_addTold_31 : decode cX0_addTold 31 = .ok (.aload_n 0, 1) := by decide +kernel
theorem dX0_addTold_32 : decode cX0_addTold 32 = .ok (.getfield 28, 3) := by decide +kernel
theorem dX0_addTold_35 : decode cX0_addTold 35 = .ok (.aload_n 0, 1) := by decide +kernel
theorem dX0_addTold_36 : decode cX0_addTold 36 = .ok (.getfield 15, 3) := by decide +kernel
theorem dX0_addTold_39 : decode cX0_addTold 39 = .ok (.iload_n 3, 1) := by decide +kernel
theorem dX0_addTold_40 : decode cX0_addTold 40 = .ok (.iastore, 1) := by decide +kernel
theorem dX0_addTold_41 : decode cX0_addTold 41 = .ok (.aload_n 0, 1) := by decide +kernel
theorem dX0_addTold_42 : decode cX0_addTold 42 = .ok (.dup, 1) := by decide +kernel
theorem dX0_addTold_43 : decode cX0_addTold 43 = .ok (.getfield 15, 3) := by decide +kernel
theorem dX0_addTold_46 : decode cX0_addTold 46 = .ok (.iconst 1, 1) := by decide +kernel
theorem dX0_addTold_47 : decode cX0_addTold 47 = .ok (.iadd, 1) := by decide +kernel
theorem dX0_addTold_48 : decode cX0_addTold 48 = .ok (.putfield 15, 3) := by decide +kernel
theorem dX0_addTold_51 : decode cX0_addTold 51 = .ok (.iconst 1, 1) := by decide +kernel
theorem dX0_addTold_52 : decode cX0_addTold 52 = .ok (.ireturn, 1) := by decide +kernel
theorem dX0_countWays_0 : decode cX0_countWays 0 = .ok (.iconst 0, 1) := by decide +kernel
theorem dX0_countWays_1 : decode cX0_countWays 1 = .ok (.istore_n 2, 1) := by decide +kernel
theorem dX0_countWays_2 : decode cX0_countWays 2 = .ok (.iconst 0, 1) := by decide +kernel
theorem dX0_countWays_3 : decode cX0_countWays 3 = .ok (.istore_n 3, 1) := by decide +kernel
theorem dX0_countWays_4 : decode cX0_countWays 4 = .ok (.iload_n 3, 1) := by decide +kernel
theorem dX0_countWays_5 : decode cX0_countWays 5 = .ok (.aload_n 0, 1) := by decide +kernel
theorem dX0_countWays_6 : decode cX0_countWays 6 = .ok (.aload_n 1, 1) := by decide +kernel
theorem dX0_countWays_7 : decode cX0_countWays 7 = .ok (.invokevirtual 31, 3) := by decide +kernel
theorem dX0_countWays_10 : decode cX0_countWays 10 = .ok (.if_icmp .ge 21, 3) := by decide +kernel
theorem dX0_countWays_13 : decode cX0_countWays 13 = .ok (.aload_n 0, 1) := by decide +kernel
theorem dX0_countWays_14 : decode cX0_countWays 14 = .ok (.aload_n 1, 1) := by decide +kernel
theorem dX0_countWays_15 : decode cX0_countWays 15 = .ok (.iload_n 3, 1) := by decide +kernel
theorem dX0_countWays_16 : decode cX0_countWays 16 = .ok (.invokevirtual 35, 3) := by decide +kernel
theorem dX0_countWays_19 : decode cX0_countWays 19 = .ok (.ifCond .eq 6, 3) := by decide +kernel
theorem dX0_countWays_22 : decode cX0_countWays 22 = .ok (.iinc 2 1, 3) := by decide +kernel
theorem dX0_countWays_25 : decode cX0_countWays 25 = .ok (.iinc 3 1, 3) := by decide +kernel
theorem dX0_countWays_28 : decode cX0_countWays 28 = .ok (.goto (-24), 3) := by decide +kernel
theorem dX0_countWays_31 : decode cX0_countWays 31 = .ok (.iload_n 2, 1) := by decide +kernel
theorem dX0_countWays_32 : decode cX0_countWays 32 = .ok (.ireturn, 1) := by decide +kernel
theorem dX0_candidates_0 : decode cX0_candidates 0 = .ok (.iconst 0, 1) := by decide +kernel
theorem dX0_candidates_1 : decode cX0_candidates 1 = .ok (.istore_n 3, 1) := by decide +kernel
theorem dX0_candidates_2 : decode cX0_candidates 2 = .ok (.iconst 0, 1) := by decide +kernel
theorem dX0_candidates_3 : decode cX0_candidates 3 = .ok (.istore 4, 2) := by decide +kernel
theorem dX0_candidates_5 : decode cX0_candidates 5 = .ok (.iload 4, 2) := by decide +kernel
theorem dX0_candidates_7 : decode cX0_candidates 7 = .ok (.aload_n 0, 1) := by decide +kernel
theorem dX0_candidates_8 : decode cX0_candidates 8 = .ok (.aload_n 1, 1) := by decide +kernel
theorem dX0_candidates_9 : decode cX0_candidates 9 = .ok (.invokevirtual 31, 3) := by decide +kernel
theorem dX0_candidates_12 : decode cX0_candidates 12 = .ok (.if_icmp .ge 30, 3) := by decide +kernel
theorem dX0_candidates_15 : decode cX0_candidates 15 = .ok (.aload_n 0, 1) := by decide +kernel
theorem dX0_candidates_16 : decode cX0_candidates 16 = .ok (.aload_n 1, 1) := by decide +kernel
theorem dX0_candidates_17 : decode cX0_candidates 17 = .ok (.iload 4, 2) := by decide +kernel
theorem dX0_candidates_19 : decode cX0_candidates 19 = .ok (.invokevirtual 35, 3) := by decide +kernel
theorem dX0_candidates_22 : decode cX0_candidates 22 = .ok (.ifCond .eq 14, 3) := by decide +kernel
theorem dX0_candidates_25 : decode cX0_candidates 25 = .ok (.iload_n 3, 1) := by decide +kernel
theorem dX0_candidates_26 : decode cX0_candidates 26 = .ok (.iconst 1, 1) := by decide +kernel
theorem dX0_candidates_27 : decode cX0_candidates 27 = .ok (.iload 4, 2) := by decide +kernel
theorem dX0_candidates_29 : decode cX0_candidates 29 = .ok (.iload_n 2, 1) := by decide +kernel
theorem dX0_candidates_30 : decode cX0_candidates 30 = .ok (.invokestatic 39, 3) := by decide +kernel
theorem dX0_candidates_33 : decode cX0_candidates 33 = .ok (.ishl, 1) := by decide +kernel
theorem dX0_candidates_34 : decode cX0_candidates 34 = .ok (.ior, 1) := by decide +kernel
theorem dX0_candidates_35 : decode cX0_candidates 35 = .ok (.istore_n 3, 1) := by decide +kernel
theorem dX0_candidates_36 : decode cX0_candidates 36 = .ok (.iinc 4 1, 3) := by decide +kernel
theorem dX0_candidates_39 : decode cX0_candidates 39 = .ok (.goto (-34), 3) := by decide +kernel
theorem dX0_candidates_42 : decode cX0_candidates 42 = .ok (.iload_n 3, 1) := by decide +kernel
theorem dX0_candidates_43 : decode cX0_candidates 43 = .ok (.ireturn, 1) := by decide +kernel
theorem dX0_waysToTry_0 : decode cX0_waysToTry 0 = .ok (.aload_n 0, 1) := by decide +kernel
theorem dX0_waysToTry_1 : decode cX0_waysToTry 1 = .ok (.getfield 9, 3) := by decide +kernel
theorem dX0_waysToTry_4 : decode cX0_waysToTry 4 = .ok (.aload_n 1, 1) := by decide +kernel
theorem dX0_waysToTry_5 : decode cX0_waysToTry 5 = .ok (.getfield 43, 3) := by decide +kernel
theorem dX0_waysToTry_8 : decode cX0_waysToTry 8 = .ok (.if_icmp .le 7, 3) := by decide +kernel
theorem dX0_waysToTry_11 : decode cX0_waysToTry 11 = .ok (.iconst 0, 1) := by decide +kernel
theorem dX0_waysToTry_12 : decode cX0_waysToTry 12 = .ok (.goto 11, 3) := by decide +kernel
theorem dX0_waysToTry_15 : decode cX0_waysToTry 15 = .ok (.iconst 1, 1) := by decide +kernel
theorem dX0_waysToTry_16 : decode cX0_waysToTry 16 = .ok (.iconst 2, 1) := by decide +kernel
theorem dX0_waysToTry_17 : decode cX0_waysToTry 17 = .ok (.aload_n 0, 1) := by decide +kernel
theorem dX0_waysToTry_18 : decode cX0_waysToTry 18 = .ok (.getfield 9, 3) := by decide +kernel
theorem dX0_waysToTry_21 : decode cX0_waysToTry 21 = .ok (.imul, 1) := by decide +kernel
theorem dX0_waysToTry_22 : decode cX0_waysToTry 22 = .ok (.ishl, 1) := by decide +kernel
theorem dX0_waysToTry_23 : decode cX0_waysToTry 23 = .ok (.ireturn, 1) := by decide +kernel
theorem dX0_thingIn_0 : decode cX0_thingIn 0 = .ok (.iload_n 0, 1) := by decide +kernel
theorem dX0_thingIn_1 : decode cX0_thingIn 1 = .ok (.iconst 2, 1) := by decide +kernel
theorem dX0_thingIn_2 : decode cX0_thingIn 2 = .ok (.iload_n 1, 1) := by decide +kernel
theorem dX0_thingIn_3 : decode cX0_thingIn 3 = .ok (.imul, 1) := by decide +kernel
theorem dX0_thingIn_4 : decode cX0_thingIn 4 = .ok (.ishr, 1) := by decide +kernel
theorem dX0_thingIn_5 : decode cX0_thingIn 5 = .ok (.iconst 3, 1) := by decide +kernel
theorem dX0_thingIn_6 : decode cX0_thingIn 6 = .ok (.iand, 1) := by decide +kernel
theorem dX0_thingIn_7 : decode cX0_thingIn 7 = .ok (.ireturn, 1) := by decide +kernel
theorem dX0_isWay_0 : decode cX0_isWay 0 = .ok (.iconst 0, 1) := by decide +kernel
theorem dX0_isWay_1 : decode cX0_isWay 1 = .ok (.istore_n 3, 1) := by decide +kernel
theorem dX0_isWay_2 : decode cX0_isWay 2 = .ok (.iconst 0, 1) := by decide +kernel
theorem dX0_isWay_3 : decode cX0_isWay 3 = .ok (.istore 4, 2) := by decide +kernel
theorem dX0_isWay_5 : decode cX0_isWay 5 = .ok (.iload 4, 2) := by decide +kernel
theorem dX0_isWay_7 : decode cX0_isWay 7 = .ok (.aload_n 0, 1) := by decide +kernel
theorem dX0_isWay_8 : decode cX0_isWay 8 = .ok (.getfield 9, 3) := by decide +kernel
theorem dX0_isWay_11 : decode cX0_isWay 11 = .ok (.if_icmp .ge 67, 3) := by decide +kernel
theorem dX0_isWay_14 : decode cX0_isWay 14 = .ok (.iload_n 2, 1) := by decide +kernel
theorem dX0_isWay_15 : decode cX0_isWay 15 = .ok (.iload 4, 2) := by decide +kernel
theorem dX0_isWay_17 : decode cX0_isWay 17 = .ok (.invokestatic 39, 3) := by decide +kernel
theorem dX0_isWay_20 : decode cX0_isWay 20 = .ok (.istore 5, 2) := by decide +kernel
theorem dX0_isWay_22 : decode cX0_isWay 22 = .ok (.aload_n 1, 1) := by decide +kernel
theorem dX0_isWay_23 : decode cX0_isWay 23 = .ok (.iload 5, 2) := by decide +kernel
theorem dX0_isWay_25 : decode cX0_isWay 25 = .ok (.invokevirtual 48, 3) := by decide +kernel
theorem dX0_isWay_28 : decode cX0_isWay 28 = .ok (.ifCond .eq 35, 3) := by decide +kernel
theorem dX0_isWay_31 : decode cX0_isWay 31 = .ok (.iload_n 3, 1) := by decide +kernel
theorem dX0_isWay_32 : decode cX0_isWay 32 = .ok (.iload 5, 2) := by decide +kernel
theorem dX0_isWay_34 : decode cX0_isWay 34 = .ok (.ishr, 1) := by decide +kernel
theorem dX0_isWay_35 : decode cX0_isWay 35 = .ok (.iconst 1, 1) := by decide +kernel
theorem dX0_isWay_36 : decode cX0_isWay 36 = .ok (.iand, 1) := by decide +kernel
theorem dX0_isWay_37 : decode cX0_isWay 37 = .ok (.iconst 1, 1) := by decide +kernel
theorem dX0_isWay_38 : decode cX0_isWay 38 = .ok (.if_icmp .eq 25, 3) := by decide +kernel
theorem dX0_isWay_41 : decode cX0_isWay 41 = .ok (.aload_n 1, 1) := by decide +kernel
theorem dX0_isWay_42 : decode cX0_isWay 42 = .ok (.getfield 52, 3) := by decide +kernel
theorem dX0_isWay_45 : decode cX0_isWay 45 = .ok (.iload 5, 2) := by decide +kernel
theorem dX0_isWay_47 : decode cX0_isWay 47 = .ok (.iaload, 1) := by decide +kernel
theorem dX0_isWay_48 : decode cX0_isWay 48 = .ok (.aload_n 0, 1) := by decide +kernel
theorem dX0_isWay_49 : decode cX0_isWay 49 = .ok (.getfield 18, 3) := by decide +kernel
theorem dX0_isWay_52 : decode cX0_isWay 52 = .ok (.iload 4, 2) := by decide +kernel
theorem dX0_isWay_54 : decode cX0_isWay 54 = .ok (.iaload, 1) := by decide +kernel
theorem dX0_isWay_55 : decode cX0_isWay 55 = .ok (.ixor, 1) := by decide +kernel
theorem dX0_isWay_56 : decode cX0_isWay 56 = .ok (.invokestatic 55, 3) := by decide +kernel
theorem dX0_isWay_59 : decode cX0_isWay 59 = .ok (.iconst 1, 1) := by decide +kernel
theorem dX0_isWay_60 : decode cX0_isWay 60 = .ok (.if_icmp .le 5, 3) := by decide +kernel
theorem dX0_isWay_63 : decode cX0_isWay 63 = .ok (.iconst 0, 1) := by decide +kernel
theorem dX0_isWay_64 : decode cX0_isWay 64 = .ok (.ireturn, 1) := by decide +kernel
theorem dX0_isWay_65 : decode cX0_isWay 65 = .ok (.iload_n 3, 1) := by decide +kernel
theorem dX0_isWay_66 : decode cX0_isWay 66 = .ok (.iconst 1, 1) := by decide +kernel
theorem dX0_isWay_67 : decode cX0_isWay 67 = .ok (.iload 5, 2) := by decide +kernel
theorem dX0_isWay_69 : decode cX0_isWay 69 = .ok (.ishl, 1) := by decide +kernel
theorem dX0_isWay_70 : decode cX0_isWay 70 = .ok (.ior, 1) := by decide +kernel
theorem dX0_isWay_71 : decode cX0_isWay 71 = .ok (.istore_n 3, 1) := by decide +kernel
theorem dX0_isWay_72 : decode cX0_isWay 72 = .ok (.iinc 4 1, 3) := by decide +kernel
theorem dX0_isWay_75 : decode cX0_isWay 75 = .ok (.goto (-70), 3) := by decide +kernel
theorem dX0_isWay_78 : decode cX0_isWay 78 = .ok (.iconst 1, 1) := by decide +kernel
theorem dX0_isWay_79 : decode cX0_isWay 79 = .ok (.ireturn, 1) := by decide +kernel
theorem dX0_lawsThatFit_0 : decode cX0_lawsThatFit 0 = .ok (.iconst 0, 1) := by decide +kernel
theorem dX0_lawsThatFit_1 : decode cX0_lawsThatFit 1 = .ok (.istore_n 2, 1) := by decide +kernel
theorem dX0_lawsThatFit_2 : decode cX0_lawsThatFit 2 = .ok (.iconst 0, 1) := by decide +kernel
theorem dX0_lawsThatFit_3 : decode cX0_lawsThatFit 3 = .ok (.istore_n 3, 1) := by decide +kernel
theorem dX0_lawsThatFit_4 : decode cX0_lawsThatFit 4 = .ok (.iload_n 3, 1) := by decide +kernel
theorem dX0_lawsThatFit_5 : decode cX0_lawsThatFit 5 = .ok (.iconst 3, 1) := by decide +kernel
theorem dX0_lawsThatFit_6 : decode cX0_lawsThatFit 6 = .ok (.if_icmp .ge 24, 3) := by decide +kernel
theorem dX0_lawsThatFit_9 : decode cX0_lawsThatFit 9 = .ok (.aload_n 0, 1) := by decide +kernel
theorem dX0_lawsThatFit_10 : decode cX0_lawsThatFit 10 = .ok (.aload_n 1, 1) := by decide +kernel
theorem dX0_lawsThatFit_11 : decode cX0_lawsThatFit 11 = .ok (.iload_n 3, 1) := by decide +kernel
theorem dX0_lawsThatFit_12 : decode cX0_lawsThatFit 12 = .ok (.invokevirtual 61, 3) := by decide +kernel
theorem dX0_lawsThatFit_15 : decode cX0_lawsThatFit 15 = .ok (.ifCond .eq 9, 3) := by decide +kernel
theorem dX0_lawsThatFit_18 : decode cX0_lawsThatFit 18 = .ok (.iload_n 2, 1) := by decide +kernel
theorem dX0_lawsThatFit_19 : decode cX0_lawsThatFit 19 = .ok (.iconst 1, 1) := by decide +kernel
theorem dX0_lawsThatFit_20 : decode cX0_lawsThatFit 20 = .ok (.iload_n 3, 1) := by decide +kernel
theorem dX0_lawsThatFit_21 : decode cX0_lawsThatFit 21 = .ok (.ishl, 1) := by decide +kernel
theorem dX0_lawsThatFit_22 : decode cX0_lawsThatFit 22 = .ok (.ior, 1) := by decide +kernel
theorem dX0_lawsThatFit_23 : decode cX0_lawsThatFit 23 = .ok (.istore_n 2, 1) := by decide +kernel
theorem dX0_lawsThatFit_24 : decode cX0_lawsThatFit 24 = .ok (.iinc 3 1, 3) := by decide +kernel
theorem dX0_lawsThatFit_27 : decode cX0_lawsThatFit 27 = .ok (.goto (-23), 3) := by decide +kernel
theorem dX0_lawsThatFit_30 : decode cX0_lawsThatFit 30 = .ok (.iload_n 2, 1) := by decide +kernel
theorem dX0_lawsThatFit_31 : decode cX0_lawsThatFit 31 = .ok (.ireturn, 1) := by decide +kernel
theorem dX0_fitsAll_0 : decode cX0_fitsAll 0 = .ok (.iconst 0, 1) := by decide +kernel
theorem dX0_fitsAll_1 : decode cX0_fitsAll 1 = .ok (.istore_n 3, 1) := by decide +kernel
theorem dX0_fitsAll_2 : decode cX0_fitsAll 2 = .ok (.iload_n 3, 1) := by decide +kernel
theorem dX0_fitsAll_3 : decode cX0_fitsAll 3 = .ok (.aload_n 0, 1) := by decide +kernel
theorem dX0_fitsAll_4 : decode cX0_fitsAll 4 = .ok (.getfield 15, 3) := by decide +kernel
theorem dX0_fitsAll_7 : decode cX0_fitsAll 7 = .ok (.if_icmp .ge 37, 3) := by decide +kernel
theorem dX0_fitsAll_10 : decode cX0_fitsAll 10 = .ok (.aload_n 0, 1) := by decide +kernel
theorem dX0_fitsAll_11 : decode cX0_fitsAll 11 = .ok (.getfield 28, 3) := by decide +kernel
theorem dX0_fitsAll_14 : decode cX0_fitsAll 14 = .ok (.iload_n 3, 1) := by decide +kernel
theorem dX0_fitsAll_15 : decode cX0_fitsAll 15 = .ok (.iaload, 1) := by decide +kernel
theorem dX0_fitsAll_16 : decode cX0_fitsAll 16 = .ok (.aload_n 1, 1) := by decide +kernel
theorem dX0_fitsAll_17 : decode cX0_fitsAll 17 = .ok (.iload_n 2, 1) := by decide +kernel
theorem dX0_fitsAll_18 : decode cX0_fitsAll 18 = .ok (.aload_n 0, 1) := by decide +kernel
theorem dX0_fitsAll_19 : decode cX0_fitsAll 19 = .ok (.getfield 22, 3) := by decide +kernel
theorem dX0_fitsAll_22 : decode cX0_fitsAll 22 = .ok (.iload_n 3, 1) := by decide +kernel
theorem dX0_fitsAll_23 : decode cX0_fitsAll 23 = .ok (.iaload, 1) := by decide +kernel
theorem dX0_fitsAll_24 : decode cX0_fitsAll 24 = .ok (.aload_n 0, 1) := by decide +kernel
theorem dX0_fitsAll_25 : decode cX0_fitsAll 25 = .ok (.getfield 25, 3) := by decide +kernel
theorem dX0_fitsAll_28 : decode cX0_fitsAll 28 = .ok (.iload_n 3, 1) := by decide +kernel
theorem dX0_fitsAll_29 : decode cX0_fitsAll 29 = .ok (.iaload, 1) := by decide +kernel
theorem dX0_fitsAll_30 : decode cX0_fitsAll 30 = .ok (.invokestatic 64, 3) := by decide +kernel
theorem dX0_fitsAll_33 : decode cX0_fitsAll 33 = .ok (.if_icmp .eq 5, 3) := by decide +kernel
theorem dX0_fitsAll_36 : decode cX0_fitsAll 36 = .ok (.iconst 0, 1) := by decide +kernel
theorem dX0_fitsAll_37 : decode cX0_fitsAll 37 = .ok (.ireturn, 1) := by decide +kernel
theorem dX0_fitsAll_38 : decode cX0_fitsAll 38 = .ok (.iinc 3 1, 3) := by decide +kernel
theorem dX0_fitsAll_41 : decode cX0_fitsAll 41 = .ok (.goto (-39), 3) := by decide +kernel
theorem dX0_fitsAll_44 : decode cX0_fitsAll 44 = .ok (.iconst 1, 1) := by decide +kernel
theorem dX0_fitsAll_45 : decode cX0_fitsAll 45 = .ok (.ireturn, 1) := by decide +kernel
theorem dX0_seatByLaw_0 : decode cX0_seatByLaw 0 = .ok (.iload_n 1, 1) := by decide +kernel
theorem dX0_seatByLaw_1 : decode cX0_seatByLaw 1 = .ok (.lookupswitch 40 #[(0, 27), (1, 34)], 27) := by decide +kernel
theorem dX0_seatByLaw_28 : decode cX0_seatByLaw 28 = .ok (.aload_n 0, 1) := by decide +kernel
theorem dX0_seatByLaw_29 : decode cX0_seatByLaw 29 = .ok (.getfield 68, 3) := by decide +kernel
theorem dX0_seatByLaw_32 : decode cX0_seatByLaw 32 = .ok (.iload_n 2, 1) := by decide +kernel
theorem dX0_seatByLaw_33 : decode cX0_seatByLaw 33 = .ok (.iaload, 1) := by decide +kernel
theorem dX0_seatByLaw_34 : decode cX0_seatByLaw 34 = .ok (.ireturn, 1) := by decide +kernel
theorem dX0_seatByLaw_35 : decode cX0_seatByLaw 35 = .ok (.aload_n 0, 1) := by decide +kernel
theorem dX0_seatByLaw_36 : decode cX0_seatByLaw 36 = .ok (.iload_n 3, 1) := by decide +kernel
theorem dX0_seatByLaw_37 : decode cX0_seatByLaw 37 = .ok (.invokevirtual 71, 3) := by decide +kernel
theorem dX0_seatByLaw_40 : decode cX0_seatByLaw 40 = .ok (.ireturn, 1) := by decide +kernel
theorem dX0_seatByLaw_41 : decode cX0_seatByLaw 41 = .ok (.iload_n 3, 1) := by decide +kernel
theorem dX0_seatByLaw_42 : decode cX0_seatByLaw 42 = .ok (.iconst 1, 1) := by decide +kernel
theorem dX0_seatByLaw_43 : decode cX0_seatByLaw 43 = .ok (.iadd, 1) := by decide +kernel
theorem dX0_seatByLaw_44 : decode cX0_seatByLaw 44 = .ok (.aload_n 0, 1) := by decide +kernel
theorem dX0_seatByLaw_45 : decode cX0_seatByLaw 45 = .ok (.getfield 74, 3) := by decide +kernel
theorem dX0_seatByLaw_48 : decode cX0_seatByLaw 48 = .ok (.if_icmp .ge 9, 3) := by decide +kernel
theorem dX0_seatByLaw_51 : decode cX0_seatByLaw 51 = .ok (.iload_n 3, 1) := by decide +kernel
theorem dX0_seatByLaw_52 : decode cX0_seatByLaw 52 = .ok (.iconst 1, 1) := by decide +kernel
theorem dX0_seatByLaw_53 : decode cX0_seatByLaw 53 = .ok (.iadd, 1) := by decide +kernel
theorem dX0_seatByLaw_54 : decode cX0_seatByLaw 54 = .ok (.goto 4, 3) := by decide +kernel
theorem dX0_seatByLaw_57 : decode cX0_seatByLaw 57 = .ok (.iconst 0, 1) := by decide +kernel
theorem dX0_seatByLaw_58 : decode cX0_seatByLaw 58 = .ok (.ireturn, 1) := by decide +kernel
theorem dX1_init_0 : decode cX1_init 0 = .ok (.aload_n 0, 1) := by decide +kernel
theorem dX1_init_1 : decode cX1_init 1 = .ok (.invokespecial 3, 3) := by decide +kernel
theorem dX1_init_4 : decode cX1_init 4 = .ok (.aload_n 0, 1) := by decide +kernel
theorem dX1_init_5 : decode cX1_init 5 = .ok (.iconst 5, 1) := by decide +kernel
theorem dX1_init_6 : decode cX1_init 6 = .ok (.newarray .int, 2) := by decide +kernel
theorem dX1_init_8 : decode cX1_init 8 = .ok (.putfield 9, 3) := by decide +kernel
theorem dX1_init_11 : decode cX1_init 11 = .ok (.aload_n 0, 1) := by decide +kernel
theorem dX1_init_12 : decode cX1_init 12 = .ok (.iconst 5, 1) := by decide +kernel
theorem dX1_init_13 : decode cX1_init 13 = .ok (.newarray .int, 2) := by decide +kernel
theorem dX1_init_15 : decode cX1_init 15 = .ok (.putfield 15, 3) := by decide +kernel
theorem dX1_init_18 : decode cX1_init 18 = .ok (.aload_n 0, 1) := by decide +kernel
theorem dX1_init_19 : decode cX1_init 19 = .ok (.iconst 4, 1) := by decide +kernel
theorem dX1_init_20 : decode cX1_init 20 = .ok (.newarray .int, 2) := by decide +kernel
theorem dX1_init_22 : decode cX1_init 22 = .ok (.putfield 18, 3) := by decide +kernel
theorem dX1_init_25 : decode cX1_init 25 = .ok (.aload_n 0, 1) := by decide +kernel
theorem dX1_init_26 : decode cX1_init 26 = .ok (.iconst 4, 1) := by decide +kernel
theorem dX1_init_27 : decode cX1_init 27 = .ok (.newarray .int, 2) := by decide +kernel
theorem dX1_init_29 : decode cX1_init 29 = .ok (.putfield 21, 3) := by decide +kernel
theorem dX1_init_32 : decode cX1_init 32 = .ok (.aload_n 0, 1) := by decide +kernel
theorem dX1_init_33 : decode cX1_init 33 = .ok (.iconst 4, 1) := by decide +kernel
theorem dX1_init_34 : decode cX1_init 34 = .ok (.newarray .int, 2) := by decide +kernel
theorem dX1_init_36 : decode cX1_init 36 = .ok (.putfield 24, 3) := by decide +kernel
theorem dX1_init_39 : decode cX1_init 39 = .ok (.aload_n 0, 1) := by decide +kernel
theorem dX1_init_40 : decode cX1_init 40 = .ok (.iconst 4, 1) := by decide +kernel
theorem dX1_init_41 : decode cX1_init 41 = .ok (.newarray .int, 2) := by decide +kernel
theorem dX1_init_43 : decode cX1_init 43 = .ok (.putfield 27, 3) := by decide +kernel
theorem dX1_init_46 : decode cX1_init 46 = .ok (.aload_n 0, 1) := by decide +kernel
theorem dX1_init_47 : decode cX1_init 47 = .ok (.invokevirtual 30, 3) := by decide +kernel
theorem dX1_init_50 : decode cX1_init 50 = .ok (.return_, 1) := by decide +kernel
theorem dX1_empty_0 : decode cX1_empty 0 = .ok (.aload_n 0, 1) := by decide +kernel
theorem dX1_empty_1 : decode cX1_empty 1 = .ok (.iconst 0, 1) := by decide +kernel
theorem dX1_empty_2 : decode cX1_empty 2 = .ok (.putfield 33, 3) := by decide +kernel
theorem dX1_empty_5 : decode cX1_empty 5 = .ok (.aload_n 0, 1) := by decide +kernel
theorem dX1_empty_6 : decode cX1_empty 6 = .ok (.iconst 0, 1) := by decide +kernel
theorem dX1_empty_7 : decode cX1_empty 7 = .ok (.putfield 37, 3) := by decide +kernel
theorem dX1_empty_10 : decode cX1_empty 10 = .ok (.aload_n 0, 1) := by decide +kernel
theorem dX1_empty_11 : decode cX1_empty 11 = .ok (.iconst 2, 1) := by decide +kernel
theorem dX1_empty_12 : decode cX1_empty 12 = .ok (.putfield 40, 3) := by decide +kernel
theorem dX1_empty_15 : decode cX1_empty 15 = .ok (.aload_n 0, 1) := by decide +kernel
theorem dX1_empty_16 : decode cX1_empty 16 = .ok (.bipush 60, 2) := by decide +kernel
theorem dX1_empty_18 : decode cX1_empty 18 = .ok (.putfield 43, 3) := by decide +kernel
theorem dX1_empty_21 : decode cX1_empty 21 = .ok (.aload_n 0, 1) := by decide +kernel
theorem dX1_empty_22 : decode cX1_empty 22 = .ok (.iconst 0, 1) := by decide +kernel
theorem dX1_empty_23 : decode cX1_empty 23 = .ok (.putfield 46, 3) := by decide +kernel
theorem dX1_empty_26 : decode cX1_empty 26 = .ok (.aload_n 0, 1) := by decide +kernel
theorem dX1_empty_27 : decode cX1_empty 27 = .ok (.iconst 0, 1) := by decide +kernel
theorem dX1_empty_28 : decode cX1_empty 28 = .ok (.putfield 50, 3) := by decide +kernel
theorem dX1_empty_31 : decode cX1_empty 31 = .ok (.return_, 1) := by decide +kernel
theorem dX1_hasSeat_0 : decode cX1_hasSeat 0 = .ok (.iload_n 1, 1) := by decide +kernel
theorem dX1_hasSeat_1 : decode cX1_hasSeat 1 = .ok (.ifCond .lt 15, 3) := by decide +kernel
theorem dX1_hasSeat_4 : decode cX1_hasSeat 4 = .ok (.iload_n 1, 1) := by decide +kernel
theorem dX1_hasSeat_5 : decode cX1_hasSeat 5 = .ok (.aload_n 0, 1) := by decide +kernel
theorem dX1_hasSeat_6 : decode cX1_hasSeat 6 = .ok (.getfield 33, 3) := by decide +kernel
theorem dX1_hasSeat_9 : decode cX1_hasSeat 9 = .ok (.if_icmp .ge 7, 3) := by decide +kernel
theorem dX1_hasSeat_12 : decode cX1_hasSeat 12 = .ok (.iconst 1, 1) := by decide +kernel
theorem dX1_hasSeat_13 : decode cX1_hasSeat 13 = .ok (.goto 4, 3) := by decide +kernel
theorem dX1_hasSeat_16 : decode cX1_hasSeat 16 = .ok (.iconst 0, 1) := by decide +kernel
theorem dX1_hasSeat_17 : decode cX1_hasSeat 17 = .ok (.ireturn, 1) := by decide +kernel
theorem dX1_hasThing_0 : decode cX1_hasThing 0 = .ok (.iload_n 1, 1) := by decide +kernel
theorem dX1_hasThing_1 : decode cX1_hasThing 1 = .ok (.ifCond .lt 15, 3) := by decide +kernel
theorem dX1_hasThing_4 : decode cX1_hasThing 4 = .ok (.iload_n 1, 1) := by decide +kernel
theorem dX1_hasThing_5 : decode cX1_hasThing 5 = .ok (.aload_n 0, 1) := by decide +kernel
theorem dX1_hasThing_6 : decode cX1_hasThing 6 = .ok (.getfield 37, 3) := by decide +kernel
theorem dX1_hasThing_9 : decode cX1_hasThing 9 = .ok (.if_icmp .ge 7, 3) := by decide +kernel
theorem dX1_hasThing_12 : decode cX1_hasThing 12 = .ok (.iconst 1, 1) := by decide +kernel
theorem dX1_hasThing_13 : decode cX1_hasThing 13 = .ok (.goto 4, 3) := by decide +kernel
theorem dX1_hasThing_16 : decode cX1_hasThing 16 = .ok (.iconst 0, 1) := by decide +kernel
theorem dX1_hasThing_17 : decode cX1_hasThing 17 = .ok (.ireturn, 1) := by decide +kernel
theorem dX1_way_0 : decode cX1_way 0 = .ok (.iload_n 1, 1) := by decide +kernel
theorem dX1_way_1 : decode cX1_way 1 = .ok (.ifCond .lt 17, 3) := by decide +kernel
theorem dX1_way_4 : decode cX1_way 4 = .ok (.iload_n 1, 1) := by decide +kernel
theorem dX1_way_5 : decode cX1_way 5 = .ok (.iconst 4, 1) := by decide +kernel
theorem dX1_way_6 : decode cX1_way 6 = .ok (.if_icmp .gt 12, 3) := by decide +kernel
theorem dX1_way_9 : decode cX1_way 9 = .ok (.iload_n 2, 1) := by decide +kernel
theorem dX1_way_10 : decode cX1_way 10 = .ok (.ifCond .lt 8, 3) := by decide +kernel
theorem dX1_way_13 : decode cX1_way 13 = .ok (.iload_n 2, 1) := by decide +kernel
theorem dX1_way_14 : decode cX1_way 14 = .ok (.iconst 4, 1) := by decide +kernel
theorem dX1_way_15 : decode cX1_way 15 = .ok (.if_icmp .le 5, 3) := by decide +kernel
theorem dX1_way_18 : decode cX1_way 18 = .ok (.iconst 0, 1) := by decide +kernel
theorem dX1_way_19 : decode cX1_way 19 = .ok (.ireturn, 1) := by decide +kernel
theorem dX1_way_20 : decode cX1_way 20 = .ok (.aload_n 0, 1) := by decide +kernel
theorem dX1_way_21 : decode cX1_way 21 = .ok (.getfield 9, 3) := by decide +kernel
theorem dX1_way_24 : decode cX1_way 24 = .ok (.iload_n 1, 1) := by decide +kernel
theorem dX1_way_25 : decode cX1_way 25 = .ok (.iaload, 1) := by decide +kernel
theorem dX1_way_26 : decode cX1_way 26 = .ok (.aload_n 0, 1) := by decide +kernel
theorem dX1_way_27 : decode cX1_way 27 = .ok (.getfield 9, 3) := by decide +kernel
theorem dX1_way_30 : decode cX1_way 30 = .ok (.iload_n 2, 1) := by decide +kernel
theorem dX1_way_31 : decode cX1_way 31 = .ok (.iaload, 1) := by decide +kernel
theorem dX1_way_32 : decode cX1_way 32 = .ok (.isub, 1) := by decide +kernel
theorem dX1_way_33 : decode cX1_way 33 = .ok (.invokestatic 53, 3) := by decide +kernel
theorem dX1_way_36 : decode cX1_way 36 = .ok (.aload_n 0, 1) := by decide +kernel
theorem dX1_way_37 : decode cX1_way 37 = .ok (.getfield 15, 3) := by decide +kernel
theorem dX1_way_40 : decode cX1_way 40 = .ok (.iload_n 1, 1) := by decide +kernel
theorem dX1_way_41 : decode cX1_way 41 = .ok (.iaload, 1) := by decide +kernel
theorem dX1_way_42 : decode cX1_way 42 = .ok (.aload_n 0, 1) := by decide +kernel
theorem dX1_way_43 : decode cX1_way 43 = .ok (.getfield 15, 3) := by decide +kernel
theorem dX1_way_46 : decode cX1_way 46 = .ok (.iload_n 2, 1) := by decide +kernel
theorem dX1_way_47 : decode cX1_way 47 = .ok (.iaload, 1) := by decide +kernel
theorem dX1_way_48 : decode cX1_way 48 = .ok (.isub, 1) := by decide +kernel
theorem dX1_way_49 : decode cX1_way 49 = .ok (.invokestatic 53, 3) := by decide +kernel
theorem dX1_way_52 : decode cX1_way 52 = .ok (.iadd, 1) := by decide +kernel
theorem dX1_way_53 : decode cX1_way 53 = .ok (.ireturn, 1) := by decide +kernel
theorem dX1_nearestTo_0 : decode cX1_nearestTo 0 = .ok (.bipush (-9), 2) := by decide +kernel
theorem dX1_nearestTo_2 : decode cX1_nearestTo 2 = .ok (.istore_n 2, 1) := by decide +kernel
theorem dX1_nearestTo_3 : decode cX1_nearestTo 3 = .ok (.iconst 0, 1) := by decide +kernel
theorem dX1_nearestTo_4 : decode cX1_nearestTo 4 = .ok (.istore_n 3, 1) := by decide +kernel
theorem dX1_nearestTo_5 : decode cX1_nearestTo 5 = .ok (.iload_n 3, 1) := by decide +kernel
theorem dX1_nearestTo_6 : decode cX1_nearestTo 6 = .ok (.aload_n 0, 1) := by decide +kernel
theorem dX1_nearestTo_7 : decode cX1_nearestTo 7 = .ok (.getfield 33, 3) := by decide +kernel
theorem dX1_nearestTo_10 : decode cX1_nearestTo 10 = .ok (.if_icmp .ge 37, 3) := by decide +kernel
theorem dX1_nearestTo_13 : decode cX1_nearestTo 13 = .ok (.iload_n 3, 1) := by decide +kernel
theorem dX1_nearestTo_14 : decode cX1_nearestTo 14 = .ok (.iload_n 1, 1) := by decide +kernel
theorem dX1_nearestTo_15 : decode cX1_nearestTo 15 = .ok (.if_icmp .eq 26, 3) := by decide +kernel
theorem dX1_nearestTo_18 : decode cX1_nearestTo 18 = .ok (.iload_n 2, 1) := by decide +kernel
theorem dX1_nearestTo_19 : decode cX1_nearestTo 19 = .ok (.bipush (-9), 2) := by decide +kernel
theorem dX1_nearestTo_21 : decode cX1_nearestTo 21 = .ok (.if_icmp .eq 18, 3) := by decide +kernel
theorem dX1_nearestTo_24 : decode cX1_nearestTo 24 = .ok (.aload_n 0, 1) := by decide +kernel
theorem dX1_nearestTo_25 : decode cX1_nearestTo 25 = .ok (.iload_n 1, 1) := by decide +kernel
theorem dX1_nearestTo_26 : decode cX1_nearestTo 26 = .ok (.iload_n 3, 1) := by decide +kernel
theorem dX1_nearestTo_27 : decode cX1_nearestTo 27 = .ok (.invokevirtual 59, 3) := by decide +kernel
theorem dX1_nearestTo_30 : decode cX1_nearestTo 30 = .ok (.aload_n 0, 1) := by decide +kernel
theorem dX1_nearestTo_31 : decode cX1_nearestTo 31 = .ok (.iload_n 1, 1) := by decide +kernel
theorem dX1_nearestTo_32 : decode cX1_nearestTo 32 = .ok (.iload_n 2, 1) := by decide +kernel
theorem dX1_nearestTo_33 : decode cX1_nearestTo 33 = .ok (.invokevirtual 59, 3) := by decide +kernel
theorem dX1_nearestTo_36 : decode cX1_nearestTo 36 = .ok (.if_icmp .ge 5, 3) := by decide +kernel
theorem dX1_nearestTo_39 : decode cX1_nearestTo 39 = .ok (.iload_n 3, 1) := by decide +kernel
theorem dX1_nearestTo_40 : decode cX1_nearestTo 40 = .ok (.istore_n 2, 1) := by decide +kernel
theorem dX1_nearestTo_41 : decode cX1_nearestTo 41 = .ok (.iinc 3 1, 3) := by decide +kernel
theorem dX1_nearestTo_44 : decode cX1_nearestTo 44 = .ok (.goto (-39), 3) := by decide +kernel
theorem dX1_nearestTo_47 : decode cX1_nearestTo 47 = .ok (.iload_n 2, 1) := by decide +kernel
theorem dX1_nearestTo_48 : decode cX1_nearestTo 48 = .ok (.ireturn, 1) := by decide +kernel
theorem dX2_init_0 : decode cX2_init 0 = .ok (.aload_n 0, 1) := by decide +kernel
theorem dX2_init_1 : decode cX2_init 1 = .ok (.invokespecial 3, 3) := by decide +kernel
theorem dX2_init_4 : decode cX2_init 4 = .ok (.aload_n 0, 1) := by decide +kernel
theorem dX2_init_5 : decode cX2_init 5 = .ok (.bipush 10, 2) := by decide +kernel
theorem dX2_init_7 : decode cX2_init 7 = .ok (.anewarray 9, 3) := by decide +kernel
theorem dX2_init_10 : decode cX2_init 10 = .ok (.putfield 11, 3) := by decide +kernel
theorem dX2_init_13 : decode cX2_init 13 = .ok (.aload_n 0, 1) := by decide +kernel
theorem dX2_init_14 : decode cX2_init 14 = .ok (.iconst 0, 1) := by decide +kernel
theorem dX2_init_15 : decode cX2_init 15 = .ok (.putfield 17, 3) := by decide +kernel
theorem dX2_init_18 : decode cX2_init 18 = .ok (.aload_n 0, 1) := by decide +kernel
theorem dX2_init_19 : decode cX2_init 19 = .ok (.iconst 0, 1) := by decide +kernel
theorem dX2_init_20 : decode cX2_init 20 = .ok (.putfield 21, 3) := by decide +kernel
theorem dX2_init_23 : decode cX2_init 23 = .ok (.iconst 0, 1) := by decide +kernel
theorem dX2_init_24 : decode cX2_init 24 = .ok (.istore_n 1, 1) := by decide +kernel
theorem dX2_init_25 : decode cX2_init 25 = .ok (.iload_n 1, 1) := by decide +kernel
theorem dX2_init_26 : decode cX2_init 26 = .ok (.bipush 10, 2) := by decide +kernel
theorem dX2_init_28 : decode cX2_init 28 = .ok (.if_icmp .ge 22, 3) := by decide +kernel
theorem dX2_init_31 : decode cX2_init 31 = .ok (.aload_n 0, 1) := by decide +kernel
theorem dX2_init_32 : decode cX2_init 32 = .ok (.getfield 11, 3) := by decide +kernel
theorem dX2_init_35 : decode cX2_init 35 = .ok (.iload_n 1, 1) := by decide +kernel
theorem dX2_init_36 : decode cX2_init 36 = .ok (.new 9, 3) := by decide +kernel
theorem dX2_init_39 : decode cX2_init 39 = .ok (.dup, 1) := by decide +kernel
theorem dX2_init_40 : decode cX2_init 40 = .ok (.invokespecial 24, 3) := by decide +kernel
theorem dX2_init_43 : decode cX2_init 43 = .ok (.aastore, 1) := by decide +kernel
theorem dX2_init_44 : decode cX2_init 44 = .ok (.iinc 1 1, 3) := by decide +kernel
theorem dX2_init_47 : decode cX2_init 47 = .ok (.goto (-22), 3) := by decide +kernel
theorem dX2_init_50 : decode cX2_init 50 = .ok (.return_, 1) := by decide +kernel
theorem dX2_push_0 : decode cX2_push 0 = .ok (.aload_n 0, 1) := by decide +kernel
theorem dX2_push_1 : decode cX2_push 1 = .ok (.getfield 11, 3) := by decide +kernel
theorem dX2_push_4 : decode cX2_push 4 = .ok (.aload_n 0, 1) := by decide +kernel
theorem dX2_push_5 : decode cX2_push 5 = .ok (.getfield 21, 3) := by decide +kernel
theorem dX2_push_8 : decode cX2_push 8 = .ok (.aaload, 1) := by decide +kernel
theorem dX2_push_9 : decode cX2_push 9 = .ok (.aload_n 1, 1) := by decide +kernel
theorem dX2_push_10 : decode cX2_push 10 = .ok (.invokevirtual 25, 3) := by decide +kernel
theorem dX2_push_13 : decode cX2_push 13 = .ok (.aload_n 0, 1) := by decide +kernel
theorem dX2_push_14 : decode cX2_push 14 = .ok (.aload_n 0, 1) := by decide +kernel
theorem dX2_push_15 : decode cX2_push 15 = .ok (.getfield 21, 3) := by decide +kernel
theorem dX2_push_18 : decode cX2_push 18 = .ok (.iconst 1, 1) := by decide +kernel
theorem dX2_push_19 : decode cX2_push 19 = .ok (.iadd, 1) := by decide +kernel
theorem dX2_push_20 : decode cX2_push 20 = .ok (.bipush 10, 2) := by decide +kernel
theorem dX2_push_22 : decode cX2_push 22 = .ok (.irem, 1) := by decide +kernel
theorem dX2_push_23 : decode cX2_push 23 = .ok (.putfield 21, 3) := by decide +kernel
theorem dX2_push_26 : decode cX2_push 26 = .ok (.aload_n 0, 1) := by decide +kernel
theorem dX2_push_27 : decode cX2_push 27 = .ok (.aload_n 0, 1) := by decide +kernel
theorem dX2_push_28 : decode cX2_push 28 = .ok (.getfield 17, 3) := by decide +kernel
theorem dX2_push_31 : decode cX2_push 31 = .ok (.iconst 1, 1) := by decide +kernel
theorem dX2_push_32 : decode cX2_push 32 = .ok (.iadd, 1) := by decide +kernel
theorem dX2_push_33 : decode cX2_push 33 = .ok (.bipush 10, 2) := by decide +kernel
theorem dX2_push_35 : decode cX2_push 35 = .ok (.invokestatic 29, 3) := by decide +kernel
theorem dX2_push_38 : decode cX2_push 38 = .ok (.putfield 17, 3) := by decide +kernel
theorem dX2_push_41 : decode cX2_push 41 = .ok (.return_, 1) := by decide +kernel
theorem dX2_popInto_0 : decode cX2_popInto 0 = .ok (.aload_n 0, 1) := by decide +kernel
theorem dX2_popInto_1 : decode cX2_popInto 1 = .ok (.getfield 17, 3) := by decide +kernel
theorem dX2_popInto_4 : decode cX2_popInto 4 = .ok (.ifCond .ne 5, 3) := by decide +kernel
theorem dX2_popInto_7 : decode cX2_popInto 7 = .ok (.iconst 0, 1) := by decide +kernel
theorem dX2_popInto_8 : decode cX2_popInto 8 = .ok (.ireturn, 1) := by decide +kernel
theorem dX2_popInto_9 : decode cX2_popInto 9 = .ok (.aload_n 0, 1) := by decide +kernel
theorem dX2_popInto_10 : decode cX2_popInto 10 = .ok (.dup, 1) := by decide +kernel
theorem dX2_popInto_11 : decode cX2_popInto 11 = .ok (.getfield 17, 3) := by decide +kernel
theorem dX2_popInto_14 : decode cX2_popInto 14 = .ok (.iconst 1, 1) := by decide +kernel
theorem dX2_popInto_15 : decode cX2_popInto 15 = .ok (.isub, 1) := by decide +kernel
theorem dX2_popInto_16 : decode cX2_popInto 16 = .ok (.putfield 17, 3) := by decide +kernel
theorem dX2_popInto_19 : decode cX2_popInto 19 = .ok (.aload_n 0, 1) := by decide +kernel
theorem dX2_popInto_20 : decode cX2_popInto 20 = .ok (.aload_n 0, 1) := by decide +kernel
theorem dX2_popInto_21 : decode cX2_popInto 21 = .ok (.getfield 21, 3) := by decide +kernel
theorem dX2_popInto_24 : decode cX2_popInto 24 = .ok (.bipush 10, 2) := by decide +kernel
theorem dX2_popInto_26 : decode cX2_popInto 26 = .ok (.iadd, 1) := by decide +kernel
theorem dX2_popInto_27 : decode cX2_popInto 27 = .ok (.iconst 1, 1) := by decide +kernel
theorem dX2_popInto_28 : decode cX2_popInto 28 = .ok (.isub, 1) := by decide +kernel
theorem dX2_popInto_29 : decode cX2_popInto 29 = .ok (.bipush 10, 2) := by decide +kernel
theorem dX2_popInto_31 : decode cX2_popInto 31 = .ok (.irem, 1) := by decide +kernel
theorem dX2_popInto_32 : decode cX2_popInto 32 = .ok (.putfield 21, 3) := by decide +kernel
theorem dX2_popInto_35 : decode cX2_popInto 35 = .ok (.aload_n 1, 1) := by decide +kernel
theorem dX2_popInto_36 : decode cX2_popInto 36 = .ok (.aload_n 0, 1) := by decide +kernel
theorem dX2_popInto_37 : decode cX2_popInto 37 = .ok (.getfield 11, 3) := by decide +kernel
theorem dX2_popInto_40 : decode cX2_popInto 40 = .ok (.aload_n 0, 1) := by decide +kernel
theorem dX2_popInto_41 : decode cX2_popInto 41 = .ok (.getfield 21, 3) := by decide +kernel
theorem dX2_popInto_44 : decode cX2_popInto 44 = .ok (.aaload, 1) := by decide +kernel
theorem dX2_popInto_45 : decode cX2_popInto 45 = .ok (.invokevirtual 25, 3) := by decide +kernel
theorem dX2_popInto_48 : decode cX2_popInto 48 = .ok (.iconst 1, 1) := by decide +kernel
theorem dX2_popInto_49 : decode cX2_popInto 49 = .ok (.ireturn, 1) := by decide +kernel
theorem dX3_init_0 : decode cX3_init 0 = .ok (.aload_n 0, 1) := by decide +kernel
theorem dX3_init_1 : decode cX3_init 1 = .ok (.invokespecial 3, 3) := by decide +kernel
theorem dX3_init_4 : decode cX3_init 4 = .ok (.aload_n 0, 1) := by decide +kernel
theorem dX3_init_5 : decode cX3_init 5 = .ok (.iconst 0, 1) := by decide +kernel
theorem dX3_init_6 : decode cX3_init 6 = .ok (.putfield 9, 3) := by decide +kernel
theorem dX3_init_9 : decode cX3_init 9 = .ok (.aload_n 0, 1) := by decide +kernel
theorem dX3_init_10 : decode cX3_init 10 = .ok (.iconst 4, 1) := by decide +kernel
theorem dX3_init_11 : decode cX3_init 11 = .ok (.putfield 15, 3) := by decide +kernel
theorem dX3_init_14 : decode cX3_init 14 = .ok (.aload_n 0, 1) := by decide +kernel
theorem dX3_init_15 : decode cX3_init 15 = .ok (.iconst 0, 1) := by decide +kernel
theorem dX3_init_16 : decode cX3_init 16 = .ok (.putfield 18, 3) := by decide +kernel
theorem dX3_init_19 : decode cX3_init 19 = .ok (.aload_n 0, 1) := by decide +kernel
theorem dX3_init_20 : decode cX3_init 20 = .ok (.iconst 4, 1) := by decide +kernel
theorem dX3_init_21 : decode cX3_init 21 = .ok (.newarray .int, 2) := by decide +kernel
theorem dX3_init_23 : decode cX3_init 23 = .ok (.putfield 21, 3) := by decide +kernel
theorem dX3_init_26 : decode cX3_init 26 = .ok (.return_, 1) := by decide +kernel
theorem dX3_begin_0 : decode cX3_begin 0 = .ok (.aload_n 0, 1) := by decide +kernel
theorem dX3_begin_1 : decode cX3_begin 1 = .ok (.iconst 0, 1) := by decide +kernel
theorem dX3_begin_2 : decode cX3_begin 2 = .ok (.putfield 9, 3) := by decide +kernel
theorem dX3_begin_5 : decode cX3_begin 5 = .ok (.aload_n 0, 1) := by decide +kernel
theorem dX3_begin_6 : decode cX3_begin 6 = .ok (.iconst 4, 1) := by decide +kernel
theorem dX3_begin_7 : decode cX3_begin 7 = .ok (.putfield 15, 3) := by decide +kernel
theorem dX3_begin_10 : decode cX3_begin 10 = .ok (.aload_n 0, 1) := by decide +kernel
theorem dX3_begin_11 : decode cX3_begin 11 = .ok (.iconst 0, 1) := by decide +kernel
theorem dX3_begin_12 : decode cX3_begin 12 = .ok (.putfield 18, 3) := by decide +kernel
theorem dX3_begin_15 : decode cX3_begin 15 = .ok (.iconst 0, 1) := by decide +kernel
theorem dX3_begin_16 : decode cX3_begin 16 = .ok (.istore_n 2, 1) := by decide +kernel
theorem dX3_begin_17 : decode cX3_begin 17 = .ok (.iload_n 2, 1) := by decide +kernel
theorem dX3_begin_18 : decode cX3_begin 18 = .ok (.iconst 4, 1) := by decide +kernel
theorem dX3_begin_19 : decode cX3_begin 19 = .ok (.if_icmp .ge 21, 3) := by decide +kernel
theorem dX3_begin_22 : decode cX3_begin 22 = .ok (.aload_n 0, 1) := by decide +kernel
theorem dX3_begin_23 : decode cX3_begin 23 = .ok (.getfield 21, 3) := by decide +kernel
theorem dX3_begin_26 : decode cX3_begin 26 = .ok (.iload_n 2, 1) := by decide +kernel
theorem dX3_begin_27 : decode cX3_begin 27 = .ok (.aload_n 1, 1) := by decide +kernel
theorem dX3_begin_28 : decode cX3_begin 28 = .ok (.getfield 25, 3) := by decide +kernel
theorem dX3_begin_31 : decode cX3_begin 31 = .ok (.iload_n 2, 1) := by decide +kernel
theorem dX3_begin_32 : decode cX3_begin 32 = .ok (.iaload, 1) := by decide +kernel
theorem dX3_begin_33 : decode cX3_begin 33 = .ok (.iastore, 1) := by decide +kernel
theorem dX3_begin_34 : decode cX3_begin 34 = .ok (.iinc 2 1, 3) := by decide +kernel
theorem dX3_begin_37 : decode cX3_begin 37 = .ok (.goto (-20), 3) := by decide +kernel
theorem dX3_begin_40 : decode cX3_begin 40 = .ok (.return_, 1) := by decide +kernel
theorem dX3_become_0 : decode cX3_become 0 = .ok (.aload_n 0, 1) := by decide +kernel
theorem dX3_become_1 : decode cX3_become 1 = .ok (.aload_n 1, 1) := by decide +kernel
theorem dX3_become_2 : decode cX3_become 2 = .ok (.getfield 9, 3) := by decide +kernel
theorem dX3_become_5 : decode cX3_become 5 = .ok (.putfield 9, 3) := by decide +kernel
theorem dX3_become_8 : decode cX3_become 8 = .ok (.aload_n 0, 1) := by decide +kernel
theorem dX3_become_9 : decode cX3_become 9 = .ok (.aload_n 1, 1) := by decide +kernel
theorem dX3_become_10 : decode cX3_become 10 = .ok (.getfield 15, 3) := by decide +kernel
theorem dX3_become_13 : decode cX3_become 13 = .ok (.putfield 15, 3) := by decide +kernel
theorem dX3_become_16 : decode cX3_become 16 = .ok (.aload_n 0, 1) := by decide +kernel
theorem dX3_become_17 : decode cX3_become 17 = .ok (.aload_n 1, 1) := by decide +kernel
theorem dX3_become_18 : decode cX3_become 18 = .ok (.getfield 18, 3) := by decide +kernel
theorem dX3_become_21 : decode cX3_become 21 = .ok (.putfield 18, 3) := by decide +kernel
theorem dX3_become_24 : decode cX3_become 24 = .ok (.aload_n 1, 1) := by decide +kernel
theorem dX3_become_25 : decode cX3_become 25 = .ok (.getfield 21, 3) := by decide +kernel
theorem dX3_become_28 : decode cX3_become 28 = .ok (.iconst 0, 1) := by decide +kernel
theorem dX3_become_29 : decode cX3_become 29 = .ok (.aload_n 0, 1) := by decide +kernel
theorem dX3_become_30 : decode cX3_become 30 = .ok (.getfield 21, 3) := by decide +kernel
theorem dX3_become_33 : decode cX3_become 33 = .ok (.iconst 0, 1) := by decide +kernel
theorem dX3_become_34 : decode cX3_become 34 = .ok (.iconst 4, 1) := by decide +kernel
theorem dX3_become_35 : decode cX3_become 35 = .ok (.invokestatic 30, 3) := by decide +kernel
theorem dX3_become_38 : decode cX3_become 38 = .ok (.return_, 1) := by decide +kernel
theorem dX3_hasRead_0 : decode cX3_hasRead 0 = .ok (.aload_n 0, 1) := by decide +kernel
theorem dX3_hasRead_1 : decode cX3_hasRead 1 = .ok (.getfield 18, 3) := by decide +kernel
theorem dX3_hasRead_4 : decode cX3_hasRead 4 = .ok (.iload_n 1, 1) := by decide +kernel
theorem dX3_hasRead_5 : decode cX3_hasRead 5 = .ok (.ishr, 1) := by decide +kernel
theorem dX3_hasRead_6 : decode cX3_hasRead 6 = .ok (.iconst 1, 1) := by decide +kernel
theorem dX3_hasRead_7 : decode cX3_hasRead 7 = .ok (.iand, 1) := by decide +kernel
theorem dX3_hasRead_8 : decode cX3_hasRead 8 = .ok (.iconst 1, 1) := by decide +kernel
theorem dX3_hasRead_9 : decode cX3_hasRead 9 = .ok (.if_icmp .ne 7, 3) := by decide +kernel
theorem dX3_hasRead_12 : decode cX3_hasRead 12 = .ok (.iconst 1, 1) := by decide +kernel
theorem dX3_hasRead_13 : decode cX3_hasRead 13 = .ok (.goto 4, 3) := by decide +kernel
theorem dX3_hasRead_16 : decode cX3_hasRead 16 = .ok (.iconst 0, 1) := by decide +kernel
theorem dX3_hasRead_17 : decode cX3_hasRead 17 = .ok (.ireturn, 1) := by decide +kernel
theorem dX3_thingsAt_0 : decode cX3_thingsAt 0 = .ok (.iconst 0, 1) := by decide +kernel
theorem dX3_thingsAt_1 : decode cX3_thingsAt 1 = .ok (.istore_n 3, 1) := by decide +kernel
theorem dX3_thingsAt_2 : decode cX3_thingsAt 2 = .ok (.iconst 0, 1) := by decide +kernel
theorem dX3_thingsAt_3 : decode cX3_thingsAt 3 = .ok (.istore 4, 2) := by decide +kernel
theorem dX3_thingsAt_5 : decode cX3_thingsAt 5 = .ok (.iload 4, 2) := by decide +kernel
theorem dX3_thingsAt_7 : decode cX3_thingsAt 7 = .ok (.aload_n 2, 1) := by decide +kernel
theorem dX3_thingsAt_8 : decode cX3_thingsAt 8 = .ok (.getfield 36, 3) := by decide +kernel
theorem dX3_thingsAt_11 : decode cX3_thingsAt 11 = .ok (.if_icmp .ge 27, 3) := by decide +kernel
theorem dX3_thingsAt_14 : decode cX3_thingsAt 14 = .ok (.aload_n 0, 1) := by decide +kernel
theorem dX3_thingsAt_15 : decode cX3_thingsAt 15 = .ok (.getfield 21, 3) := by decide +kernel
theorem dX3_thingsAt_18 : decode cX3_thingsAt 18 = .ok (.iload 4, 2) := by decide +kernel
theorem dX3_thingsAt_20 : decode cX3_thingsAt 20 = .ok (.iaload, 1) := by decide +kernel
theorem dX3_thingsAt_21 : decode cX3_thingsAt 21 = .ok (.iload_n 1, 1) := by decide +kernel
theorem dX3_thingsAt_22 : decode cX3_thingsAt 22 = .ok (.if_icmp .ne 10, 3) := by decide +kernel
theorem dX3_thingsAt_25 : decode cX3_thingsAt 25 = .ok (.iload_n 3, 1) := by decide +kernel
theorem dX3_thingsAt_26 : decode cX3_thingsAt 26 = .ok (.iconst 1, 1) := by decide +kernel
theorem dX3_thingsAt_27 : decode cX3_thingsAt 27 = .ok (.iload 4, 2) := by decide +kernel
theorem dX3_thingsAt_29 : decode cX3_thingsAt 29 = .ok (.ishl, 1) := by decide +kernel
theorem dX3_thingsAt_30 : decode cX3_thingsAt 30 = .ok (.ior, 1) := by decide +kernel
theorem dX3_thingsAt_31 : decode cX3_thingsAt 31 = .ok (.istore_n 3, 1) := by decide +kernel
theorem dX3_thingsAt_32 : decode cX3_thingsAt 32 = .ok (.iinc 4 1, 3) := by decide +kernel
theorem dX3_thingsAt_35 : decode cX3_thingsAt 35 = .ok (.goto (-30), 3) := by decide +kernel
theorem dX3_thingsAt_38 : decode cX3_thingsAt 38 = .ok (.iload_n 3, 1) := by decide +kernel
theorem dX3_thingsAt_39 : decode cX3_thingsAt 39 = .ok (.ireturn, 1) := by decide +kernel
theorem dX3_held_0 : decode cX3_held 0 = .ok (.aload_n 0, 1) := by decide +kernel
theorem dX3_held_1 : decode cX3_held 1 = .ok (.iconst 4, 1) := by decide +kernel
theorem dX3_held_2 : decode cX3_held 2 = .ok (.aload_n 1, 1) := by decide +kernel
theorem dX3_held_3 : decode cX3_held 3 = .ok (.invokevirtual 39, 3) := by decide +kernel
theorem dX3_held_6 : decode cX3_held 6 = .ok (.invokestatic 43, 3) := by decide +kernel
theorem dX3_held_9 : decode cX3_held 9 = .ok (.ireturn, 1) := by decide +kernel
theorem dX3_strays_0 : decode cX3_strays 0 = .ok (.iconst 0, 1) := by decide +kernel
theorem dX3_strays_1 : decode cX3_strays 1 = .ok (.istore_n 2, 1) := by decide +kernel
theorem dX3_strays_2 : decode cX3_strays 2 = .ok (.iconst 0, 1) := by decide +kernel
theorem dX3_strays_3 : decode cX3_strays 3 = .ok (.istore_n 3, 1) := by decide +kernel
theorem dX3_strays_4 : decode cX3_strays 4 = .ok (.iload_n 3, 1) := by decide +kernel
theorem dX3_strays_5 : decode cX3_strays 5 = .ok (.aload_n 1, 1) := by decide +kernel
theorem dX3_strays_6 : decode cX3_strays 6 = .ok (.getfield 36, 3) := by decide +kernel
theorem dX3_strays_9 : decode cX3_strays 9 = .ok (.if_icmp .ge 30, 3) := by decide +kernel
theorem dX3_strays_12 : decode cX3_strays 12 = .ok (.aload_n 0, 1) := by decide +kernel
theorem dX3_strays_13 : decode cX3_strays 13 = .ok (.getfield 21, 3) := by decide +kernel
theorem dX3_strays_16 : decode cX3_strays 16 = .ok (.iload_n 3, 1) := by decide +kernel
theorem dX3_strays_17 : decode cX3_strays 17 = .ok (.iaload, 1) := by decide +kernel
theorem dX3_strays_18 : decode cX3_strays 18 = .ok (.aload_n 1, 1) := by decide +kernel
theorem dX3_strays_19 : decode cX3_strays 19 = .ok (.getfield 25, 3) := by decide +kernel
theorem dX3_strays_22 : decode cX3_strays 22 = .ok (.iload_n 3, 1) := by decide +kernel
theorem dX3_strays_23 : decode cX3_strays 23 = .ok (.iaload, 1) := by decide +kernel
theorem dX3_strays_24 : decode cX3_strays 24 = .ok (.if_icmp .eq 9, 3) := by decide +kernel
theorem dX3_strays_27 : decode cX3_strays 27 = .ok (.iload_n 2, 1) := by decide +kernel
theorem dX3_strays_28 : decode cX3_strays 28 = .ok (.iconst 1, 1) := by decide +kernel
theorem dX3_strays_29 : decode cX3_strays 29 = .ok (.iload_n 3, 1) := by decide +kernel
theorem dX3_strays_30 : decode cX3_strays 30 = .ok (.ishl, 1) := by decide +kernel
theorem dX3_strays_31 : decode cX3_strays 31 = .ok (.ior, 1) := by decide +kernel
theorem dX3_strays_32 : decode cX3_strays 32 = .ok (.istore_n 2, 1) := by decide +kernel
theorem dX3_strays_33 : decode cX3_strays 33 = .ok (.iinc 3 1, 3) := by decide +kernel
theorem dX3_strays_36 : decode cX3_strays 36 = .ok (.goto (-32), 3) := by decide +kernel
theorem dX3_strays_39 : decode cX3_strays 39 = .ok (.iload_n 2, 1) := by decide +kernel
theorem dX3_strays_40 : decode cX3_strays 40 = .ok (.ireturn, 1) := by decide +kernel
theorem dX3_mayTake_0 : decode cX3_mayTake 0 = .ok (.aload_n 0, 1) := by decide +kernel
theorem dX3_mayTake_1 : decode cX3_mayTake 1 = .ok (.getfield 15, 3) := by decide +kernel
theorem dX3_mayTake_4 : decode cX3_mayTake 4 = .ok (.iconst 4, 1) := by decide +kernel
theorem dX3_mayTake_5 : decode cX3_mayTake 5 = .ok (.if_icmp .eq 32, 3) := by decide +kernel
theorem dX3_mayTake_8 : decode cX3_mayTake 8 = .ok (.aload_n 0, 1) := by decide +kernel
theorem dX3_mayTake_9 : decode cX3_mayTake 9 = .ok (.getfield 21, 3) := by decide +kernel
theorem dX3_mayTake_12 : decode cX3_mayTake 12 = .ok (.iload_n 1, 1) := by decide +kernel
theorem dX3_mayTake_13 : decode cX3_mayTake 13 = .ok (.iaload, 1) := by decide +kernel
theorem dX3_mayTake_14 : decode cX3_mayTake 14 = .ok (.aload_n 0, 1) := by decide +kernel
theorem dX3_mayTake_15 : decode cX3_mayTake 15 = .ok (.getfield 15, 3) := by decide +kernel
theorem dX3_mayTake_18 : decode cX3_mayTake 18 = .ok (.if_icmp .ne 19, 3) := by decide +kernel
theorem dX3_mayTake_21 : decode cX3_mayTake 21 = .ok (.aload_n 0, 1) := by decide +kernel
theorem dX3_mayTake_22 : decode cX3_mayTake 22 = .ok (.aload_n 2, 1) := by decide +kernel
theorem dX3_mayTake_23 : decode cX3_mayTake 23 = .ok (.invokevirtual 49, 3) := by decide +kernel
theorem dX3_mayTake_26 : decode cX3_mayTake 26 = .ok (.aload_n 2, 1) := by decide +kernel
theorem dX3_mayTake_27 : decode cX3_mayTake 27 = .ok (.getfield 53, 3) := by decide +kernel
theorem dX3_mayTake_30 : decode cX3_mayTake 30 = .ok (.if_icmp .ge 7, 3) := by decide +kernel
theorem dX3_mayTake_33 : decode cX3_mayTake 33 = .ok (.iconst 1, 1) := by decide +kernel
theorem dX3_mayTake_34 : decode cX3_mayTake 34 = .ok (.goto 4, 3) := by decide +kernel
theorem dX3_mayTake_37 : decode cX3_mayTake 37 = .ok (.iconst 0, 1) := by decide +kernel
theorem dX3_mayTake_38 : decode cX3_mayTake 38 = .ok (.ireturn, 1) := by decide +kernel
theorem dX3_mayLeave_0 : decode cX3_mayLeave 0 = .ok (.aload_n 0, 1) := by decide +kernel
theorem dX3_mayLeave_1 : decode cX3_mayLeave 1 = .ok (.getfield 15, 3) := by decide +kernel
theorem dX3_mayLeave_4 : decode cX3_mayLeave 4 = .ok (.iconst 4, 1) := by decide +kernel
theorem dX3_mayLeave_5 : decode cX3_mayLeave 5 = .ok (.if_icmp .eq 17, 3) := by decide +kernel
theorem dX3_mayLeave_8 : decode cX3_mayLeave 8 = .ok (.aload_n 0, 1) := by decide +kernel
theorem dX3_mayLeave_9 : decode cX3_mayLeave 9 = .ok (.getfield 21, 3) := by decide +kernel
theorem dX3_mayLeave_12 : decode cX3_mayLeave 12 = .ok (.iload_n 1, 1) := by decide +kernel
theorem dX3_mayLeave_13 : decode cX3_mayLeave 13 = .ok (.iaload, 1) := by decide +kernel
theorem dX3_mayLeave_14 : decode cX3_mayLeave 14 = .ok (.iconst 4, 1) := by decide +kernel
theorem dX3_mayLeave_15 : decode cX3_mayLeave 15 = .ok (.if_icmp .ne 7, 3) := by decide +kernel
theorem dX3_mayLeave_18 : decode cX3_mayLeave 18 = .ok (.iconst 1, 1) := by decide +kernel
theorem dX3_mayLeave_19 : decode cX3_mayLeave 19 = .ok (.goto 4, 3) := by decide +kernel
theorem dX3_mayLeave_22 : decode cX3_mayLeave 22 = .ok (.iconst 0, 1) := by decide +kernel
theorem dX3_mayLeave_23 : decode cX3_mayLeave 23 = .ok (.ireturn, 1) := by decide +kernel
theorem dX4_init_0 : decode cX4_init 0 = .ok (.aload_n 0, 1) := by decide +kernel
theorem dX4_init_1 : decode cX4_init 1 = .ok (.invokespecial 3, 3) := by decide +kernel
theorem dX4_init_4 : decode cX4_init 4 = .ok (.aload_n 0, 1) := by decide +kernel
theorem dX4_init_5 : decode cX4_init 5 = .ok (.sipush 150, 3) := by decide +kernel
theorem dX4_init_8 : decode cX4_init 8 = .ok (.newarray .char, 2) := by decide +kernel
theorem dX4_init_10 : decode cX4_init 10 = .ok (.putfield 11, 3) := by decide +kernel
theorem dX4_init_13 : decode cX4_init 13 = .ok (.return_, 1) := by decide +kernel
theorem dX4_append_0 : decode cX4_append 0 = .ok (.aload_n 0, 1) := by decide +kernel
theorem dX4_append_1 : decode cX4_append 1 = .ok (.getfield 15, 3) := by decide +kernel
theorem dX4_append_4 : decode cX4_append 4 = .ok (.sipush 150, 3) := by decide +kernel
theorem dX4_append_7 : decode cX4_append 7 = .ok (.if_icmp .lt 5, 3) := by decide +kernel
theorem dX4_append_10 : decode cX4_append 10 = .ok (.iconst 0, 1) := by decide +kernel
theorem dX4_append_11 : decode cX4_append 11 = .ok (.ireturn, 1) := by decide +kernel
theorem dX4_append_12 : decode cX4_append 12 = .ok (.aload_n 0, 1) := by decide +kernel
theorem dX4_append_13 : decode cX4_append 13 = .ok (.getfield 11, 3) := by decide +kernel
theorem dX4_append_16 : decode cX4_append 16 = .ok (.aload_n 0, 1) := by decide +kernel
theorem dX4_append_17 : decode cX4_append 17 = .ok (.getfield 15, 3) := by decide +kernel
theorem dX4_append_20 : decode cX4_append 20 = .ok (.iload_n 1, 1) := by decide +kernel
theorem dX4_append_21 : decode cX4_append 21 = .ok (.castore, 1) := by decide +kernel
theorem dX4_append_22 : decode cX4_append 22 = .ok (.aload_n 0, 1) := by decide +kernel
theorem dX4_append_23 : decode cX4_append 23 = .ok (.dup, 1) := by decide +kernel
theorem dX4_append_24 : decode cX4_append 24 = .ok (.getfield 15, 3) := by decide +kernel
theorem dX4_append_27 : decode cX4_append 27 = .ok (.iconst 1, 1) := by decide +kernel
theorem dX4_append_28 : decode cX4_append 28 = .ok (.iadd, 1) := by decide +kernel
theorem dX4_append_29 : decode cX4_append 29 = .ok (.putfield 15, 3) := by decide +kernel
theorem dX4_append_32 : decode cX4_append 32 = .ok (.iconst 1, 1) := by decide +kernel
theorem dX4_append_33 : decode cX4_append 33 = .ok (.ireturn, 1) := by decide +kernel
theorem dX4_tell_0 : decode cX4_tell 0 = .ok (.aload_n 1, 1) := by decide +kernel
theorem dX4_tell_1 : decode cX4_tell 1 = .ok (.invokevirtual 19, 3) := by decide +kernel
theorem dX4_tell_4 : decode cX4_tell 4 = .ok (.aload_n 0, 1) := by decide +kernel
theorem dX4_tell_5 : decode cX4_tell 5 = .ok (.iconst (-1), 1) := by decide +kernel
theorem dX4_tell_6 : decode cX4_tell 6 = .ok (.putfield 24, 3) := by decide +kernel
theorem dX4_tell_9 : decode cX4_tell 9 = .ok (.aload_n 0, 1) := by decide +kernel
theorem dX4_tell_10 : decode cX4_tell 10 = .ok (.iconst 0, 1) := by decide +kernel
theorem dX4_tell_11 : decode cX4_tell 11 = .ok (.putfield 27, 3) := by decide +kernel
theorem dX4_tell_14 : decode cX4_tell 14 = .ok (.iconst 0, 1) := by decide +kernel
theorem dX4_tell_15 : decode cX4_tell 15 = .ok (.istore_n 2, 1) := by decide +kernel
theorem dX4_tell_16 : decode cX4_tell 16 = .ok (.iconst 0, 1) := by decide +kernel
theorem dX4_tell_17 : decode cX4_tell 17 = .ok (.istore_n 3, 1) := by decide +kernel
theorem dX4_tell_18 : decode cX4_tell 18 = .ok (.iload_n 3, 1) := by decide +kernel
theorem dX4_tell_19 : decode cX4_tell 19 = .ok (.sipush 150, 3) := by decide +kernel
theorem dX4_tell_22 : decode cX4_tell 22 = .ok (.if_icmp .gt 136, 3) := by decide +kernel
theorem dX4_tell_25 : decode cX4_tell 25 = .ok (.aload_n 0, 1) := by decide +kernel
theorem dX4_tell_26 : decode cX4_tell 26 = .ok (.invokevirtual 30, 3) := by decide +kernel
theorem dX4_tell_29 : decode cX4_tell 29 = .ok (.aload_n 0, 1) := by decide +kernel
theorem dX4_tell_30 : decode cX4_tell 30 = .ok (.getfield 24, 3) := by decide +kernel
theorem dX4_tell_33 : decode cX4_tell 33 = .ok (.ifCond .ge 125, 3) := by decide +kernel
theorem dX4_tell_36 : decode cX4_tell 36 = .ok (.aload_n 0, 1) := by decide +kernel
theorem dX4_tell_37 : decode cX4_tell 37 = .ok (.getfield 33, 3) := by decide +kernel
theorem dX4_tell_40 : decode cX4_tell 40 = .ok (.sipush 258, 3) := by decide +kernel
theorem dX4_tell_43 : decode cX4_tell 43 = .ok (.if_icmp .ne 6, 3) := by decide +kernel
theorem dX4_tell_46 : decode cX4_tell 46 = .ok (.goto 112, 3) := by decide +kernel
theorem dX4_tell_49 : decode cX4_tell 49 = .ok (.aload_n 0, 1) := by decide +kernel
theorem dX4_tell_50 : decode cX4_tell 50 = .ok (.getfield 33, 3) := by decide +kernel
theorem dX4_tell_53 : decode cX4_tell 53 = .ok (.lookupswitch 75 #[(101, 67), (104, 59), (115, 43), (116, 51)], 43) := by decide +kernel
theorem dX4_tell_96 : decode cX4_tell 96 = .ok (.aload_n 0, 1) := by decide +kernel
theorem dX4_tell_97 : decode cX4_tell 97 = .ok (.aload_n 1, 1) := by decide +kernel
theorem dX4_tell_98 : decode cX4_tell 98 = .ok (.invokevirtual 36, 3) := by decide +kernel
theorem dX4_tell_101 : decode cX4_tell 101 = .ok (.goto 31, 3) := by decide +kernel
theorem dX4_tell_104 : decode cX4_tell 104 = .ok (.aload_n 0, 1) := by decide +kernel
theorem dX4_tell_105 : decode cX4_tell 105 = .ok (.aload_n 1, 1) := by decide +kernel
theorem dX4_tell_106 : decode cX4_tell 106 = .ok (.invokevirtual 40, 3) := by decide +kernel
theorem dX4_tell_109 : decode cX4_tell 109 = .ok (.goto 23, 3) := by decide +kernel
theorem dX4_tell_112 : decode cX4_tell 112 = .ok (.aload_n 0, 1) := by decide +kernel
theorem dX4_tell_113 : decode cX4_tell 113 = .ok (.aload_n 1, 1) := by decide +kernel
theorem dX4_tell_114 : decode cX4_tell 114 = .ok (.invokevirtual 43, 3) := by decide +kernel
theorem dX4_tell_117 : decode cX4_tell 117 = .ok (.goto 15, 3) := by decide +kernel
theorem dX4_tell_120 : decode cX4_tell 120 = .ok (.aload_n 0, 1) := by decide +kernel
theorem dX4_tell_121 : decode cX4_tell 121 = .ok (.aload_n 1, 1) := by decide +kernel
theorem dX4_tell_122 : decode cX4_tell 122 = .ok (.invokevirtual 46, 3) := by decide +kernel
theorem dX4_tell_125 : decode cX4_tell 125 = .ok (.goto 7, 3) := by decide +kernel
theorem dX4_tell_128 : decode cX4_tell 128 = .ok (.aload_n 0, 1) := by decide +kernel
theorem dX4_tell_129 : decode cX4_tell 129 = .ok (.invokevirtual 49, 3) := by decide +kernel
theorem dX4_tell_132 : decode cX4_tell 132 = .ok (.aload_n 0, 1) := by decide +kernel
theorem dX4_tell_133 : decode cX4_tell 133 = .ok (.invokevirtual 30, 3) := by decide +kernel
theorem dX4_tell_136 : decode cX4_tell 136 = .ok (.aload_n 0, 1) := by decide +kernel
theorem dX4_tell_137 : decode cX4_tell 137 = .ok (.getfield 33, 3) := by decide +kernel
theorem dX4_tell_140 : decode cX4_tell 140 = .ok (.bipush 59, 2) := by decide +kernel
theorem dX4_tell_142 : decode cX4_tell 142 = .ok (.if_icmp .eq 7, 3) := by decide +kernel
theorem dX4_tell_145 : decode cX4_tell 145 = .ok (.aload_n 0, 1) := by decide +kernel
theorem dX4_tell_146 : decode cX4_tell 146 = .ok (.invokevirtual 49, 3) := by decide +kernel
theorem dX4_tell_149 : decode cX4_tell 149 = .ok (.iinc 2 1, 3) := by decide +kernel
theorem dX4_tell_152 : decode cX4_tell 152 = .ok (.iinc 3 1, 3) := by decide +kernel
theorem dX4_tell_155 : decode cX4_tell 155 = .ok (.goto (-137), 3) := by decide +kernel
theorem dX4_tell_158 : decode cX4_tell 158 = .ok (.iload_n 2, 1) := by decide +kernel
theorem dX4_tell_159 : decode cX4_tell 159 = .ok (.ireturn, 1) := by decide +kernel
theorem dX4_tellSeat_0 : decode cX4_tellSeat 0 = .ok (.aload_n 1, 1) := by decide +kernel
theorem dX4_tellSeat_1 : decode cX4_tellSeat 1 = .ok (.getfield 52, 3) := by decide +kernel
theorem dX4_tellSeat_4 : decode cX4_tellSeat 4 = .ok (.istore_n 2, 1) := by decide +kernel
theorem dX4_tellSeat_5 : decode cX4_tellSeat 5 = .ok (.iload_n 2, 1) := by decide +kernel
theorem dX4_tellSeat_6 : decode cX4_tellSeat 6 = .ok (.iconst 4, 1) := by decide +kernel
theorem dX4_tellSeat_7 : decode cX4_tellSeat 7 = .ok (.if_icmp .lt 8, 3) := by decide +kernel
theorem dX4_tellSeat_10 : decode cX4_tellSeat 10 = .ok (.aload_n 0, 1) := by decide +kernel
theorem dX4_tellSeat_11 : decode cX4_tellSeat 11 = .ok (.invokevirtual 49, 3) := by decide +kernel
theorem dX4_tellSeat_14 : decode cX4_tellSeat 14 = .ok (.return_, 1) := by decide +kernel
theorem dX4_tellSeat_15 : decode cX4_tellSeat 15 = .ok (.aload_n 1, 1) := by decide +kernel
theorem dX4_tellSeat_16 : decode cX4_tellSeat 16 = .ok (.getfield 55, 3) := by decide +kernel
theorem dX4_tellSeat_19 : decode cX4_tellSeat 19 = .ok (.iload_n 2, 1) := by decide +kernel
theorem dX4_tellSeat_20 : decode cX4_tellSeat 20 = .ok (.aload_n 0, 1) := by decide +kernel
theorem dX4_tellSeat_21 : decode cX4_tellSeat 21 = .ok (.iconst 0, 1) := by decide +kernel
theorem dX4_tellSeat_22 : decode cX4_tellSeat 22 = .ok (.bipush 9, 2) := by decide +kernel
theorem dX4_tellSeat_24 : decode cX4_tellSeat 24 = .ok (.invokevirtual 59, 3) := by decide +kernel
theorem dX4_tellSeat_27 : decode cX4_tellSeat 27 = .ok (.iastore, 1) := by decide +kernel
theorem dX4_tellSeat_28 : decode cX4_tellSeat 28 = .ok (.aload_n 1, 1) := by decide +kernel
theorem dX4_tellSeat_29 : decode cX4_tellSeat 29 = .ok (.getfield 63, 3) := by decide +kernel
theorem dX4_tellSeat_32 : decode cX4_tellSeat 32 = .ok (.iload_n 2, 1) := by decide +kernel
theorem dX4_tellSeat_33 : decode cX4_tellSeat 33 = .ok (.aload_n 0, 1) := by decide +kernel
theorem dX4_tellSeat_34 : decode cX4_tellSeat 34 = .ok (.iconst 0, 1) := by decide +kernel
theorem dX4_tellSeat_35 : decode cX4_tellSeat 35 = .ok (.bipush 9, 2) := by decide +kernel
theorem dX4_tellSeat_37 : decode cX4_tellSeat 37 = .ok (.invokevirtual 59, 3) := by decide +kernel
theorem dX4_tellSeat_40 : decode cX4_tellSeat 40 = .ok (.iastore, 1) := by decide +kernel
theorem dX4_tellSeat_41 : decode cX4_tellSeat 41 = .ok (.aload_n 1, 1) := by decide +kernel
theorem dX4_tellSeat_42 : decode cX4_tellSeat 42 = .ok (.dup, 1) := by decide +kernel
theorem dX4_tellSeat_43 : decode cX4_tellSeat 43 = .ok (.getfield 52, 3) := by decide +kernel
theorem dX4_tellSeat_46 : decode cX4_tellSeat 46 = .ok (.iconst 1, 1) := by decide +kernel
theorem dX4_tellSeat_47 : decode cX4_tellSeat 47 = .ok (.iadd, 1) := by decide +kernel
theorem dX4_tellSeat_48 : decode cX4_tellSeat 48 = .ok (.putfield 52, 3) := by decide +kernel
theorem dX4_tellSeat_51 : decode cX4_tellSeat 51 = .ok (.return_, 1) := by decide +kernel
theorem dX4_tellThing_0 : decode cX4_tellThing 0 = .ok (.aload_n 1, 1) := by decide +kernel
theorem dX4_tellThing_1 : decode cX4_tellThing 1 = .ok (.getfield 66, 3) := by decide +kernel
theorem dX4_tellThing_4 : decode cX4_tellThing 4 = .ok (.istore_n 2, 1) := by decide +kernel
theorem dX4_tellThing_5 : decode cX4_tellThing 5 = .ok (.iload_n 2, 1) := by decide +kernel
theorem dX4_tellThing_6 : decode cX4_tellThing 6 = .ok (.iconst 4, 1) := by decide +kernel
theorem dX4_tellThing_7 : decode cX4_tellThing 7 = .ok (.if_icmp .lt 8, 3) := by decide +kernel
theorem dX4_tellThing_10 : decode cX4_tellThing 10 = .ok (.aload_n 0, 1) := by decide +kernel
theorem dX4_tellThing_11 : decode cX4_tellThing 11 = .ok (.invokevirtual 49, 3) := by decide +kernel
theorem dX4_tellThing_14 : decode cX4_tellThing 14 = .ok (.return_, 1) := by decide +kernel
theorem dX4_tellThing_15 : decode cX4_tellThing 15 = .ok (.aload_n 1, 1) := by decide +kernel
theorem dX4_tellThing_16 : decode cX4_tellThing 16 = .ok (.getfield 69, 3) := by decide +kernel
theorem dX4_tellThing_19 : decode cX4_tellThing 19 = .ok (.iload_n 2, 1) := by decide +kernel
theorem dX4_tellThing_20 : decode cX4_tellThing 20 = .ok (.aload_n 0, 1) := by decide +kernel
theorem dX4_tellThing_21 : decode cX4_tellThing 21 = .ok (.iconst 0, 1) := by decide +kernel
theorem dX4_tellThing_22 : decode cX4_tellThing 22 = .ok (.aload_n 1, 1) := by decide +kernel
theorem dX4_tellThing_23 : decode cX4_tellThing 23 = .ok (.getfield 52, 3) := by decide +kernel
theorem dX4_tellThing_26 : decode cX4_tellThing 26 = .ok (.iconst 1, 1) := by decide +kernel
theorem dX4_tellThing_27 : decode cX4_tellThing 27 = .ok (.isub, 1) := by decide +kernel
theorem dX4_tellThing_28 : decode cX4_tellThing 28 = .ok (.invokevirtual 59, 3) := by decide +kernel
theorem dX4_tellThing_31 : decode cX4_tellThing 31 = .ok (.iastore, 1) := by decide +kernel
theorem dX4_tellThing_32 : decode cX4_tellThing 32 = .ok (.aload_n 1, 1) := by decide +kernel
theorem dX4_tellThing_33 : decode cX4_tellThing 33 = .ok (.getfield 72, 3) := by decide +kernel
theorem dX4_tellThing_36 : decode cX4_tellThing 36 = .ok (.iload_n 2, 1) := by decide +kernel
theorem dX4_tellThing_37 : decode cX4_tellThing 37 = .ok (.aload_n 0, 1) := by decide +kernel
theorem dX4_tellThing_38 : decode cX4_tellThing 38 = .ok (.iconst 0, 1) := by decide +kernel
theorem dX4_tellThing_39 : decode cX4_tellThing 39 = .ok (.bipush 31, 2) := by decide +kernel
theorem dX4_tellThing_41 : decode cX4_tellThing 41 = .ok (.invokevirtual 59, 3) := by decide +kernel
theorem dX4_tellThing_44 : decode cX4_tellThing 44 = .ok (.iastore, 1) := by decide +kernel
theorem dX4_tellThing_45 : decode cX4_tellThing 45 = .ok (.aload_n 1, 1) := by decide +kernel
theorem dX4_tellThing_46 : decode cX4_tellThing 46 = .ok (.getfield 75, 3) := by decide +kernel
theorem dX4_tellThing_49 : decode cX4_tellThing 49 = .ok (.iload_n 2, 1) := by decide +kernel
theorem dX4_tellThing_50 : decode cX4_tellThing 50 = .ok (.aload_n 0, 1) := by decide +kernel
theorem dX4_tellThing_51 : decode cX4_tellThing 51 = .ok (.iconst 0, 1) := by decide +kernel
theorem dX4_tellThing_52 : decode cX4_tellThing 52 = .ok (.iconst 5, 1) := by decide +kernel
theorem dX4_tellThing_53 : decode cX4_tellThing 53 = .ok (.invokevirtual 59, 3) := by decide +kernel
theorem dX4_tellThing_56 : decode cX4_tellThing 56 = .ok (.iastore, 1) := by decide +kernel
theorem dX4_tellThing_57 : decode cX4_tellThing 57 = .ok (.aload_n 1, 1) := by decide +kernel
theorem dX4_tellThing_58 : decode cX4_tellThing 58 = .ok (.getfield 78, 3) := by decide +kernel
theorem dX4_tellThing_61 : decode cX4_tellThing 61 = .ok (.iload_n 2, 1) := by decide +kernel
theorem dX4_tellThing_62 : decode cX4_tellThing 62 = .ok (.aload_n 0, 1) := by decide +kernel
theorem dX4_tellThing_63 : decode cX4_tellThing 63 = .ok (.iconst 0, 1) := by decide +kernel
theorem dX4_tellThing_64 : decode cX4_tellThing 64 = .ok (.iconst 5, 1) := by decide +kernel
theorem dX4_tellThing_65 : decode cX4_tellThing 65 = .ok (.invokevirtual 59, 3) := by decide +kernel
theorem dX4_tellThing_68 : decode cX4_tellThing 68 = .ok (.iastore, 1) := by decide +kernel
theorem dX4_tellThing_69 : decode cX4_tellThing 69 = .ok (.aload_n 1, 1) := by decide +kernel
theorem dX4_tellThing_70 : decode cX4_tellThing 70 = .ok (.getfield 75, 3) := by decide +kernel
theorem dX4_tellThing_73 : decode cX4_tellThing 73 = .ok (.iload_n 2, 1) := by decide +kernel
theorem dX4_tellThing_74 : decode cX4_tellThing 74 = .ok (.iaload, 1) := by decide +kernel
theorem dX4_tellThing_75 : decode cX4_tellThing 75 = .ok (.aload_n 1, 1) := by decide +kernel
theorem dX4_tellThing_76 : decode cX4_tellThing 76 = .ok (.getfield 78, 3) := by decide +kernel
theorem dX4_tellThing_79 : decode cX4_tellThing 79 = .ok (.iload_n 2, 1) := by decide +kernel
theorem dX4_tellThing_80 : decode cX4_tellThing 80 = .ok (.iaload, 1) := by decide +kernel
theorem dX4_tellThing_81 : decode cX4_tellThing 81 = .ok (.if_icmp .ne 7, 3) := by decide +kernel
theorem dX4_tellThing_84 : decode cX4_tellThing 84 = .ok (.aload_n 0, 1) := by decide +kernel
theorem dX4_tellThing_85 : decode cX4_tellThing 85 = .ok (.invokevirtual 49, 3) := by decide +kernel
theorem dX4_tellThing_88 : decode cX4_tellThing 88 = .ok (.aload_n 1, 1) := by decide +kernel
theorem dX4_tellThing_89 : decode cX4_tellThing 89 = .ok (.dup, 1) := by decide +kernel
theorem dX4_tellThing_90 : decode cX4_tellThing 90 = .ok (.getfield 66, 3) := by decide +kernel
theorem dX4_tellThing_93 : decode cX4_tellThing 93 = .ok (.iconst 1, 1) := by decide +kernel
theorem dX4_tellThing_94 : decode cX4_tellThing 94 = .ok (.iadd, 1) := by decide +kernel
theorem dX4_tellThing_95 : decode cX4_tellThing 95 = .ok (.putfield 66, 3) := by decide +kernel
theorem dX4_tellThing_98 : decode cX4_tellThing 98 = .ok (.return_, 1) := by decide +kernel
theorem dX4_tellHands_0 : decode cX4_tellHands 0 = .ok (.aload_n 1, 1) := by decide +kernel
theorem dX4_tellHands_1 : decode cX4_tellHands 1 = .ok (.getfield 81, 3) := by decide +kernel
theorem dX4_tellHands_4 : decode cX4_tellHands 4 = .ok (.ifCond .eq 7, 3) := by decide +kernel
theorem dX4_tellHands_7 : decode cX4_tellHands 7 = .ok (.aload_n 0, 1) := by decide +kernel
theorem dX4_tellHands_8 : decode cX4_tellHands 8 = .ok (.invokevirtual 49, 3) := by decide +kernel
theorem dX4_tellHands_11 : decode cX4_tellHands 11 = .ok (.aload_n 1, 1) := by decide +kernel
theorem dX4_tellHands_12 : decode cX4_tellHands 12 = .ok (.iconst 1, 1) := by decide +kernel
theorem dX4_tellHands_13 : decode cX4_tellHands 13 = .ok (.putfield 81, 3) := by decide +kernel
theorem dX4_tellHands_16 : decode cX4_tellHands 16 = .ok (.aload_n 1, 1) := by decide +kernel
theorem dX4_tellHands_17 : decode cX4_tellHands 17 = .ok (.aload_n 0, 1) := by decide +kernel
theorem dX4_tellHands_18 : decode cX4_tellHands 18 = .ok (.iconst 1, 1) := by decide +kernel
theorem dX4_tellHands_19 : decode cX4_tellHands 19 = .ok (.iconst 4, 1) := by decide +kernel
theorem dX4_tellHands_20 : decode cX4_tellHands 20 = .ok (.invokevirtual 59, 3) := by decide +kernel
theorem dX4_tellHands_23 : decode cX4_tellHands 23 = .ok (.putfield 85, 3) := by decide +kernel
theorem dX4_tellHands_26 : decode cX4_tellHands 26 = .ok (.return_, 1) := by decide +kernel
theorem dX4_tellTen_0 : decode cX4_tellTen 0 = .ok (.aload_n 1, 1) := by decide +kernel
theorem dX4_tellTen_1 : decode cX4_tellTen 1 = .ok (.getfield 88, 3) := by decide +kernel
theorem dX4_tellTen_4 : decode cX4_tellTen 4 = .ok (.ifCond .eq 7, 3) := by decide +kernel
theorem dX4_tellTen_7 : decode cX4_tellTen 7 = .ok (.aload_n 0, 1) := by decide +kernel
theorem dX4_tellTen_8 : decode cX4_tellTen 8 = .ok (.invokevirtual 49, 3) := by decide +kernel
theorem dX4_tellTen_11 : decode cX4_tellTen 11 = .ok (.aload_n 1, 1) := by decide +kernel
theorem dX4_tellTen_12 : decode cX4_tellTen 12 = .ok (.iconst 1, 1) := by decide +kernel
theorem dX4_tellTen_13 : decode cX4_tellTen 13 = .ok (.putfield 88, 3) := by decide +kernel
theorem dX4_tellTen_16 : decode cX4_tellTen 16 = .ok (.aload_n 1, 1) := by decide +kernel
theorem dX4_tellTen_17 : decode cX4_tellTen 17 = .ok (.aload_n 0, 1) := by decide +kernel
theorem dX4_tellTen_18 : decode cX4_tellTen 18 = .ok (.iconst 1, 1) := by decide +kernel
theorem dX4_tellTen_19 : decode cX4_tellTen 19 = .ok (.sipush 200, 3) := by decide +kernel
theorem dX4_tellTen_22 : decode cX4_tellTen 22 = .ok (.invokevirtual 59, 3) := by decide +kernel
theorem dX4_tellTen_25 : decode cX4_tellTen 25 = .ok (.putfield 91, 3) := by decide +kernel
theorem dX4_tellTen_28 : decode cX4_tellTen 28 = .ok (.return_, 1) := by decide +kernel
theorem dX4_number_0 : decode cX4_number 0 = .ok (.aload_n 0, 1) := by decide +kernel
theorem dX4_number_1 : decode cX4_number 1 = .ok (.invokevirtual 30, 3) := by decide +kernel
theorem dX4_number_4 : decode cX4_number 4 = .ok (.aload_n 0, 1) := by decide +kernel
theorem dX4_number_5 : decode cX4_number 5 = .ok (.getfield 33, 3) := by decide +kernel
theorem dX4_number_8 : decode cX4_number 8 = .ok (.sipush 256, 3) := by decide +kernel
theorem dX4_number_11 : decode cX4_number 11 = .ok (.if_icmp .ne 19, 3) := by decide +kernel
theorem dX4_number_14 : decode cX4_number 14 = .ok (.aload_n 0, 1) := by decide +kernel
theorem dX4_number_15 : decode cX4_number 15 = .ok (.getfield 94, 3) := by decide +kernel
theorem dX4_number_18 : decode cX4_number 18 = .ok (.iload_n 1, 1) := by decide +kernel
theorem dX4_number_19 : decode cX4_number 19 = .ok (.if_icmp .lt 11, 3) := by decide +kernel
theorem dX4_number_22 : decode cX4_number 22 = .ok (.aload_n 0, 1) := by decide +kernel
theorem dX4_number_23 : decode cX4_number 23 = .ok (.getfield 94, 3) := by decide +kernel
theorem dX4_number_26 : decode cX4_number 26 = .ok (.iload_n 2, 1) := by decide +kernel
theorem dX4_number_27 : decode cX4_number 27 = .ok (.if_icmp .le 7, 3) := by decide +kernel
theorem dX4_number_30 : decode cX4_number 30 = .ok (.aload_n 0, 1) := by decide +kernel
theorem dX4_number_31 : decode cX4_number 31 = .ok (.invokevirtual 49, 3) := by decide +kernel
theorem dX4_number_34 : decode cX4_number 34 = .ok (.aload_n 0, 1) := by decide +kernel
theorem dX4_number_35 : decode cX4_number 35 = .ok (.getfield 94, 3) := by decide +kernel
theorem dX4_number_38 : decode cX4_number 38 = .ok (.ireturn, 1) := by decide +kernel
theorem dX4_refuse_0 : decode cX4_refuse 0 = .ok (.aload_n 0, 1) := by decide +kernel
theorem dX4_refuse_1 : decode cX4_refuse 1 = .ok (.getfield 24, 3) := by decide +kernel
theorem dX4_refuse_4 : decode cX4_refuse 4 = .ok (.ifCond .ge 11, 3) := by decide +kernel
theorem dX4_refuse_7 : decode cX4_refuse 7 = .ok (.aload_n 0, 1) := by decide +kernel
theorem dX4_refuse_8 : decode cX4_refuse 8 = .ok (.aload_n 0, 1) := by decide +kernel
theorem dX4_refuse_9 : decode cX4_refuse 9 = .ok (.getfield 97, 3) := by decide +kernel
theorem dX4_refuse_12 : decode cX4_refuse 12 = .ok (.putfield 24, 3) := by decide +kernel
theorem dX4_refuse_15 : decode cX4_refuse 15 = .ok (.return_, 1) := by decide +kernel
theorem dX4_step_0 : decode cX4_step 0 = .ok (.aload_n 0, 1) := by decide +kernel
theorem dX4_step_1 : decode cX4_step 1 = .ok (.getfield 24, 3) := by decide +kernel
theorem dX4_step_4 : decode cX4_step 4 = .ok (.ifCond .lt 4, 3) := by decide +kernel
theorem dX4_step_7 : decode cX4_step 7 = .ok (.return_, 1) := by decide +kernel
theorem dX4_step_8 : decode cX4_step 8 = .ok (.aload_n 0, 1) := by decide +kernel
theorem dX4_step_9 : decode cX4_step 9 = .ok (.getfield 27, 3) := by decide +kernel
theorem dX4_step_12 : decode cX4_step 12 = .ok (.istore_n 1, 1) := by decide +kernel
theorem dX4_step_13 : decode cX4_step 13 = .ok (.iload_n 1, 1) := by decide +kernel
theorem dX4_step_14 : decode cX4_step 14 = .ok (.aload_n 0, 1) := by decide +kernel
theorem dX4_step_15 : decode cX4_step 15 = .ok (.getfield 15, 3) := by decide +kernel
theorem dX4_step_18 : decode cX4_step 18 = .ok (.if_icmp .ge 20, 3) := by decide +kernel
theorem dX4_step_21 : decode cX4_step 21 = .ok (.aload_n 0, 1) := by decide +kernel
theorem dX4_step_22 : decode cX4_step 22 = .ok (.getfield 11, 3) := by decide +kernel
theorem dX4_step_25 : decode cX4_step 25 = .ok (.iload_n 1, 1) := by decide +kernel
theorem dX4_step_26 : decode cX4_step 26 = .ok (.caload, 1) := by decide +kernel
theorem dX4_step_27 : decode cX4_step 27 = .ok (.bipush 32, 2) := by decide +kernel
theorem dX4_step_29 : decode cX4_step 29 = .ok (.if_icmp .ne 9, 3) := by decide +kernel
theorem dX4_step_32 : decode cX4_step 32 = .ok (.iinc 1 1, 3) := by decide +kernel
theorem dX4_step_35 : decode cX4_step 35 = .ok (.goto (-22), 3) := by decide +kernel
theorem dX4_step_38 : decode cX4_step 38 = .ok (.aload_n 0, 1) := by decide +kernel
theorem dX4_step_39 : decode cX4_step 39 = .ok (.iload_n 1, 1) := by decide +kernel
theorem dX4_step_40 : decode cX4_step 40 = .ok (.putfield 97, 3) := by decide +kernel
theorem dX4_step_43 : decode cX4_step 43 = .ok (.iload_n 1, 1) := by decide +kernel
theorem dX4_step_44 : decode cX4_step 44 = .ok (.aload_n 0, 1) := by decide +kernel
theorem dX4_step_45 : decode cX4_step 45 = .ok (.getfield 15, 3) := by decide +kernel
theorem dX4_step_48 : decode cX4_step 48 = .ok (.if_icmp .lt 13, 3) := by decide +kernel
theorem dX4_step_51 : decode cX4_step 51 = .ok (.aload_n 0, 1) := by decide +kernel
theorem dX4_step_52 : decode cX4_step 52 = .ok (.sipush 258, 3) := by decide +kernel
theorem dX4_step_55 : decode cX4_step 55 = .ok (.putfield 33, 3) := by decide +kernel
theorem dX4_step_58 : decode cX4_step 58 = .ok (.goto 39, 3) := by decide +kernel
theorem dX4_step_61 : decode cX4_step 61 = .ok (.aload_n 0, 1) := by decide +kernel
theorem dX4_step_62 : decode cX4_step 62 = .ok (.getfield 11, 3) := by decide +kernel
theorem dX4_step_65 : decode cX4_step 65 = .ok (.iload_n 1, 1) := by decide +kernel
theorem dX4_step_66 : decode cX4_step 66 = .ok (.caload, 1) := by decide +kernel
theorem dX4_step_67 : decode cX4_step 67 = .ok (.invokestatic 100, 3) := by decide +kernel
theorem dX4_step_70 : decode cX4_step 70 = .ok (.ifCond .eq 10, 3) := by decide +kernel
theorem dX4_step_73 : decode cX4_step 73 = .ok (.aload_n 0, 1) := by decide +kernel
theorem dX4_step_74 : decode cX4_step 74 = .ok (.invokevirtual 104, 3) := by decide +kernel
theorem dX4_step_77 : decode cX4_step 77 = .ok (.goto 20, 3) := by decide +kernel
theorem dX4_step_80 : decode cX4_step 80 = .ok (.aload_n 0, 1) := by decide +kernel
theorem dX4_step_81 : decode cX4_step 81 = .ok (.aload_n 0, 1) := by decide +kernel
theorem dX4_step_82 : decode cX4_step 82 = .ok (.getfield 11, 3) := by decide +kernel
theorem dX4_step_85 : decode cX4_step 85 = .ok (.iload_n 1, 1) := by decide +kernel
theorem dX4_step_86 : decode cX4_step 86 = .ok (.caload, 1) := by decide +kernel
theorem dX4_step_87 : decode cX4_step 87 = .ok (.putfield 33, 3) := by decide +kernel
theorem dX4_step_90 : decode cX4_step 90 = .ok (.aload_n 0, 1) := by decide +kernel
theorem dX4_step_91 : decode cX4_step 91 = .ok (.iload_n 1, 1) := by decide +kernel
theorem dX4_step_92 : decode cX4_step 92 = .ok (.iconst 1, 1) := by decide +kernel
theorem dX4_step_93 : decode cX4_step 93 = .ok (.iadd, 1) := by decide +kernel
theorem dX4_step_94 : decode cX4_step 94 = .ok (.putfield 27, 3) := by decide +kernel
theorem dX4_step_97 : decode cX4_step 97 = .ok (.return_, 1) := by decide +kernel
theorem dX4_stepNumber_0 : decode cX4_stepNumber 0 = .ok (.aload_n 0, 1) := by decide +kernel
theorem dX4_stepNumber_1 : decode cX4_stepNumber 1 = .ok (.iconst 0, 1) := by decide +kernel
theorem dX4_stepNumber_2 : decode cX4_stepNumber 2 = .ok (.putfield 94, 3) := by decide +kernel
theorem dX4_stepNumber_5 : decode cX4_stepNumber 5 = .ok (.aload_n 0, 1) := by decide +kernel
theorem dX4_stepNumber_6 : decode cX4_stepNumber 6 = .ok (.getfield 97, 3) := by decide +kernel
theorem dX4_stepNumber_9 : decode cX4_stepNumber 9 = .ok (.istore_n 1, 1) := by decide +kernel
theorem dX4_stepNumber_10 : decode cX4_stepNumber 10 = .ok (.iload_n 1, 1) := by decide +kernel
theorem dX4_stepNumber_11 : decode cX4_stepNumber 11 = .ok (.aload_n 0, 1) := by decide +kernel
theorem dX4_stepNumber_12 : decode cX4_stepNumber 12 = .ok (.getfield 15, 3) := by decide +kernel
theorem dX4_stepNumber_15 : decode cX4_stepNumber 15 = .ok (.if_icmp .ge 48, 3) := by decide +kernel
theorem dX4_stepNumber_18 : decode cX4_stepNumber 18 = .ok (.aload_n 0, 1) := by decide +kernel
theorem dX4_stepNumber_19 : decode cX4_stepNumber 19 = .ok (.getfield 11, 3) := by decide +kernel
theorem dX4_stepNumber_22 : decode cX4_stepNumber 22 = .ok (.iload_n 1, 1) := by decide +kernel
theorem dX4_stepNumber_23 : decode cX4_stepNumber 23 = .ok (.caload, 1) := by decide +kernel
theorem dX4_stepNumber_24 : decode cX4_stepNumber 24 = .ok (.invokestatic 100, 3) := by decide +kernel
theorem dX4_stepNumber_27 : decode cX4_stepNumber 27 = .ok (.ifCond .eq 36, 3) := by decide +kernel
theorem dX4_stepNumber_30 : decode cX4_stepNumber 30 = .ok (.aload_n 0, 1) := by decide +kernel
theorem dX4_stepNumber_31 : decode cX4_stepNumber 31 = .ok (.aload_n 0, 1) := by decide +kernel
theorem dX4_stepNumber_32 : decode cX4_stepNumber 32 = .ok (.getfield 94, 3) := by decide +kernel
theorem dX4_stepNumber_35 : decode cX4_stepNumber 35 = .ok (.bipush 10, 2) := by decide +kernel
theorem dX4_stepNumber_37 : decode cX4_stepNumber 37 = .ok (.imul, 1) := by decide +kernel
theorem dX4_stepNumber_38 : decode cX4_stepNumber 38 = .ok (.aload_n 0, 1) := by decide +kernel
theorem dX4_stepNumber_39 : decode cX4_stepNumber 39 = .ok (.getfield 11, 3) := by decide +kernel
theorem dX4_stepNumber_42 : decode cX4_stepNumber 42 = .ok (.iload_n 1, 1) := by decide +kernel
theorem dX4_stepNumber_43 : decode cX4_stepNumber 43 = .ok (.caload, 1) := by decide +kernel
theorem dX4_stepNumber_44 : decode cX4_stepNumber 44 = .ok (.iadd, 1) := by decide +kernel
theorem dX4_stepNumber_45 : decode cX4_stepNumber 45 = .ok (.bipush 48, 2) := by decide +kernel
theorem dX4_stepNumber_47 : decode cX4_stepNumber 47 = .ok (.isub, 1) := by decide +kernel
theorem dX4_stepNumber_48 : decode cX4_stepNumber 48 = .ok (.sipush 201, 3) := by decide +kernel
theorem dX4_stepNumber_51 : decode cX4_stepNumber 51 = .ok (.invokestatic 107, 3) := by decide +kernel
theorem dX4_stepNumber_54 : decode cX4_stepNumber 54 = .ok (.putfield 94, 3) := by decide +kernel
theorem dX4_stepNumber_57 : decode cX4_stepNumber 57 = .ok (.iinc 1 1, 3) := by decide +kernel
theorem dX4_stepNumber_60 : decode cX4_stepNumber 60 = .ok (.goto (-50), 3) := by decide +kernel
theorem dX4_stepNumber_63 : decode cX4_stepNumber 63 = .ok (.aload_n 0, 1) := by decide +kernel
theorem dX4_stepNumber_64 : decode cX4_stepNumber 64 = .ok (.iload_n 1, 1) := by decide +kernel
theorem dX4_stepNumber_65 : decode cX4_stepNumber 65 = .ok (.putfield 27, 3) := by decide +kernel
theorem dX4_stepNumber_68 : decode cX4_stepNumber 68 = .ok (.aload_n 0, 1) := by decide +kernel
theorem dX4_stepNumber_69 : decode cX4_stepNumber 69 = .ok (.getfield 11, 3) := by decide +kernel
theorem dX4_stepNumber_72 : decode cX4_stepNumber 72 = .ok (.aload_n 0, 1) := by decide +kernel
theorem dX4_stepNumber_73 : decode cX4_stepNumber 73 = .ok (.getfield 97, 3) := by decide +kernel
theorem dX4_stepNumber_76 : decode cX4_stepNumber 76 = .ok (.caload, 1) := by decide +kernel
theorem dX4_stepNumber_77 : decode cX4_stepNumber 77 = .ok (.bipush 48, 2) := by decide +kernel
theorem dX4_stepNumber_79 : decode cX4_stepNumber 79 = .ok (.if_icmp .ne 17, 3) := by decide +kernel
theorem dX4_stepNumber_82 : decode cX4_stepNumber 82 = .ok (.iload_n 1, 1) := by decide +kernel
theorem dX4_stepNumber_83 : decode cX4_stepNumber 83 = .ok (.aload_n 0, 1) := by decide +kernel
theorem dX4_stepNumber_84 : decode cX4_stepNumber 84 = .ok (.getfield 97, 3) := by decide +kernel
theorem dX4_stepNumber_87 : decode cX4_stepNumber 87 = .ok (.isub, 1) := by decide +kernel
theorem dX4_stepNumber_88 : decode cX4_stepNumber 88 = .ok (.iconst 1, 1) := by decide +kernel
theorem dX4_stepNumber_89 : decode cX4_stepNumber 89 = .ok (.if_icmp .le 7, 3) := by decide +kernel
theorem dX4_stepNumber_92 : decode cX4_stepNumber 92 = .ok (.iconst 1, 1) := by decide +kernel
theorem dX4_stepNumber_93 : decode cX4_stepNumber 93 = .ok (.goto 4, 3) := by decide +kernel
theorem dX4_stepNumber_96 : decode cX4_stepNumber 96 = .ok (.iconst 0, 1) := by decide +kernel
theorem dX4_stepNumber_97 : decode cX4_stepNumber 97 = .ok (.istore_n 2, 1) := by decide +kernel
theorem dX4_stepNumber_98 : decode cX4_stepNumber 98 = .ok (.aload_n 0, 1) := by decide +kernel
theorem dX4_stepNumber_99 : decode cX4_stepNumber 99 = .ok (.iload_n 2, 1) := by decide +kernel
theorem dX4_stepNumber_100 : decode cX4_stepNumber 100 = .ok (.ifCond .ne 13, 3) := by decide +kernel
theorem dX4_stepNumber_103 : decode cX4_stepNumber 103 = .ok (.aload_n 0, 1) := by decide +kernel
theorem dX4_stepNumber_104 : decode cX4_stepNumber 104 = .ok (.getfield 94, 3) := by decide +kernel
theorem dX4_stepNumber_107 : decode cX4_stepNumber 107 = .ok (.sipush 200, 3) := by decide +kernel
theorem dX4_stepNumber_110 : decode cX4_stepNumber 110 = .ok (.if_icmp .le 9, 3) := by decide +kernel
theorem dX4_stepNumber_113 : decode cX4_stepNumber 113 = .ok (.sipush 257, 3) := by decide +kernel
theorem dX4_stepNumber_116 : decode cX4_stepNumber 116 = .ok (.goto 6, 3) := by decide +kernel
theorem dX4_stepNumber_119 : decode cX4_stepNumber 119 = .ok (.sipush 256, 3) := by decide +kernel
theorem dX4_stepNumber_122 : decode cX4_stepNumber 122 = .ok (.putfield 33, 3) := by decide +kernel
theorem dX4_stepNumber_125 : decode cX4_stepNumber 125 = .ok (.return_, 1) := by decide +kernel
theorem dX4_isDigit_0 : decode cX4_isDigit 0 = .ok (.iload_n 0, 1) := by decide +kernel
theorem dX4_isDigit_1 : decode cX4_isDigit 1 = .ok (.bipush 48, 2) := by decide +kernel
theorem dX4_isDigit_3 : decode cX4_isDigit 3 = .ok (.if_icmp .lt 13, 3) := by decide +kernel
theorem dX4_isDigit_6 : decode cX4_isDigit 6 = .ok (.iload_n 0, 1) := by decide +kernel
theorem dX4_isDigit_7 : decode cX4_isDigit 7 = .ok (.bipush 57, 2) := by decide +kernel
theorem dX4_isDigit_9 : decode cX4_isDigit 9 = .ok (.if_icmp .gt 7, 3) := by decide +kernel
theorem dX4_isDigit_12 : decode cX4_isDigit 12 = .ok (.iconst 1, 1) := by decide +kernel
theorem dX4_isDigit_13 : decode cX4_isDigit 13 = .ok (.goto 4, 3) := by decide +kernel
theorem dX4_isDigit_16 : decode cX4_isDigit 16 = .ok (.iconst 0, 1) := by decide +kernel
theorem dX4_isDigit_17 : decode cX4_isDigit 17 = .ok (.ireturn, 1) := by decide +kernel
theorem dX5_init_0 : decode cX5_init 0 = .ok (.aload_n 0, 1) := by decide +kernel
theorem dX5_init_1 : decode cX5_init 1 = .ok (.invokespecial 5, 3) := by decide +kernel
theorem dX5_init_4 : decode cX5_init 4 = .ok (.aload_n 0, 1) := by decide +kernel
theorem dX5_init_5 : decode cX5_init 5 = .ok (.sipush 6480, 3) := by decide +kernel
theorem dX5_init_8 : decode cX5_init 8 = .ok (.newarray .long, 2) := by decide +kernel
theorem dX5_init_10 : decode cX5_init 10 = .ok (.putfield 11, 3) := by decide +kernel
theorem dX5_init_13 : decode cX5_init 13 = .ok (.aload_n 0, 1) := by decide +kernel
theorem dX5_init_14 : decode cX5_init 14 = .ok (.sipush 256, 3) := by decide +kernel
theorem dX5_init_17 : decode cX5_init 17 = .ok (.newarray .int, 2) := by decide +kernel
theorem dX5_init_19 : decode cX5_init 19 = .ok (.putfield 15, 3) := by decide +kernel
theorem dX5_init_22 : decode cX5_init 22 = .ok (.aload_n 0, 1) := by decide +kernel
theorem dX5_init_23 : decode cX5_init 23 = .ok (.sipush 6480, 3) := by decide +kernel
theorem dX5_init_26 : decode cX5_init 26 = .ok (.newarray .int, 2) := by decide +kernel
theorem dX5_init_28 : decode cX5_init 28 = .ok (.putfield 19, 3) := by decide +kernel
theorem dX5_init_31 : decode cX5_init 31 = .ok (.aload_n 0, 1) := by decide +kernel
theorem dX5_init_32 : decode cX5_init 32 = .ok (.sipush 6480, 3) := by decide +kernel
theorem dX5_init_35 : decode cX5_init 35 = .ok (.newarray .int, 2) := by decide +kernel
theorem dX5_init_37 : decode cX5_init 37 = .ok (.putfield 22, 3) := by decide +kernel
theorem dX5_init_40 : decode cX5_init 40 = .ok (.aload_n 0, 1) := by decide +kernel
theorem dX5_init_41 : decode cX5_init 41 = .ok (.iconst 4, 1) := by decide +kernel
theorem dX5_init_42 : decode cX5_init 42 = .ok (.newarray .int, 2) := by decide +kernel
theorem dX5_init_44 : decode cX5_init 44 = .ok (.putfield 25, 3) := by decide +kernel
theorem dX5_init_47 : decode cX5_init 47 = .ok (.aload_n 0, 1) := by decide +kernel
theorem dX5_init_48 : decode cX5_init 48 = .ok (.iconst 0, 1) := by decide +kernel
theorem dX5_init_49 : decode cX5_init 49 = .ok (.putfield 28, 3) := by decide +kernel
theorem dX5_init_52 : decode cX5_init 52 = .ok (.aload_n 0, 1) := by decide +kernel
theorem dX5_init_53 : decode cX5_init 53 = .ok (.iconst 0, 1) := by decide +kernel
theorem dX5_init_54 : decode cX5_init 54 = .ok (.putfield 32, 3) := by decide +kernel
theorem dX5_init_57 : decode cX5_init 57 = .ok (.return_, 1) := by decide +kernel
theorem dX5_drop_0 : decode cX5_drop 0 = .ok (.aload_n 0, 1) := by decide +kernel
theorem dX5_drop_1 : decode cX5_drop 1 = .ok (.iconst 0, 1) := by decide +kernel
theorem dX5_drop_2 : decode cX5_drop 2 = .ok (.putfield 28, 3) := by decide +kernel
theorem dX5_drop_5 : decode cX5_drop 5 = .ok (.return_, 1) := by decide +kernel
theorem dX5_fewest_0 : decode cX5_fewest 0 = .ok (.iload_n 3, 1) := by decide +kernel
theorem dX5_fewest_1 : decode cX5_fewest 1 = .ok (.ifCond .lt 8, 3) := by decide +kernel
theorem dX5_fewest_4 : decode cX5_fewest 4 = .ok (.iload_n 3, 1) := by decide +kernel
theorem dX5_fewest_5 : decode cX5_fewest 5 = .ok (.iconst 4, 1) := by decide +kernel
theorem dX5_fewest_6 : decode cX5_fewest 6 = .ok (.if_icmp .le 7, 3) := by decide +kernel
theorem dX5_fewest_9 : decode cX5_fewest 9 = .ok (.sipush 4095, 3) := by decide +kernel
theorem dX5_fewest_12 : decode cX5_fewest 12 = .ok (.ireturn, 1) := by decide +kernel
theorem dX5_fewest_13 : decode cX5_fewest 13 = .ok (.aload_n 0, 1) := by decide +kernel
theorem dX5_fewest_14 : decode cX5_fewest 14 = .ok (.getfield 28, 3) := by decide +kernel
theorem dX5_fewest_17 : decode cX5_fewest 17 = .ok (.iload_n 3, 1) := by decide +kernel
theorem dX5_fewest_18 : decode cX5_fewest 18 = .ok (.ishr, 1) := by decide +kernel
theorem dX5_fewest_19 : decode cX5_fewest 19 = .ok (.iconst 1, 1) := by decide +kernel
theorem dX5_fewest_20 : decode cX5_fewest 20 = .ok (.iand, 1) := by decide +kernel
theorem dX5_fewest_21 : decode cX5_fewest 21 = .ok (.ifCond .ne 21, 3) := by decide +kernel
theorem dX5_fewest_24 : decode cX5_fewest 24 = .ok (.aload_n 0, 1) := by decide +kernel
theorem dX5_fewest_25 : decode cX5_fewest 25 = .ok (.aload_n 1, 1) := by decide +kernel
theorem dX5_fewest_26 : decode cX5_fewest 26 = .ok (.iload_n 3, 1) := by decide +kernel
theorem dX5_fewest_27 : decode cX5_fewest 27 = .ok (.invokevirtual 35, 3) := by decide +kernel
theorem dX5_fewest_30 : decode cX5_fewest 30 = .ok (.aload_n 0, 1) := by decide +kernel
theorem dX5_fewest_31 : decode cX5_fewest 31 = .ok (.dup, 1) := by decide +kernel
theorem dX5_fewest_32 : decode cX5_fewest 32 = .ok (.getfield 28, 3) := by decide +kernel
theorem dX5_fewest_35 : decode cX5_fewest 35 = .ok (.iconst 1, 1) := by decide +kernel
theorem dX5_fewest_36 : decode cX5_fewest 36 = .ok (.iload_n 3, 1) := by decide +kernel
theorem dX5_fewest_37 : decode cX5_fewest 37 = .ok (.ishl, 1) := by decide +kernel
theorem dX5_fewest_38 : decode cX5_fewest 38 = .ok (.ior, 1) := by decide +kernel
theorem dX5_fewest_39 : decode cX5_fewest 39 = .ok (.putfield 28, 3) := by decide +kernel
theorem dX5_fewest_42 : decode cX5_fewest 42 = .ok (.aload_n 0, 1) := by decide +kernel
theorem dX5_fewest_43 : decode cX5_fewest 43 = .ok (.aload_n 1, 1) := by decide +kernel
theorem dX5_fewest_44 : decode cX5_fewest 44 = .ok (.aload_n 2, 1) := by decide +kernel
theorem dX5_fewest_45 : decode cX5_fewest 45 = .ok (.invokestatic 39, 3) := by decide +kernel
theorem dX5_fewest_48 : decode cX5_fewest 48 = .ok (.iload_n 3, 1) := by decide +kernel
theorem dX5_fewest_49 : decode cX5_fewest 49 = .ok (.invokevirtual 43, 3) := by decide +kernel
theorem dX5_fewest_52 : decode cX5_fewest 52 = .ok (.ireturn, 1) := by decide +kernel
theorem dX5_firstStep_0 : decode cX5_firstStep 0 = .ok (.aload_n 0, 1) := by decide +kernel
theorem dX5_firstStep_1 : decode cX5_firstStep 1 = .ok (.aload_n 1, 1) := by decide +kernel
theorem dX5_firstStep_2 : decode cX5_firstStep 2 = .ok (.aload_n 2, 1) := by decide +kernel
theorem dX5_firstStep_3 : decode cX5_firstStep 3 = .ok (.iconst 0, 1) := by decide +kernel
theorem dX5_firstStep_4 : decode cX5_firstStep 4 = .ok (.invokevirtual 47, 3) := by decide +kernel
theorem dX5_firstStep_7 : decode cX5_firstStep 7 = .ok (.istore_n 3, 1) := by decide +kernel
theorem dX5_firstStep_8 : decode cX5_firstStep 8 = .ok (.aload_n 1, 1) := by decide +kernel
theorem dX5_firstStep_9 : decode cX5_firstStep 9 = .ok (.aload_n 2, 1) := by decide +kernel
theorem dX5_firstStep_10 : decode cX5_firstStep 10 = .ok (.invokestatic 39, 3) := by decide +kernel
theorem dX5_firstStep_13 : decode cX5_firstStep 13 = .ok (.istore 4, 2) := by decide +kernel
theorem dX5_firstStep_15 : decode cX5_firstStep 15 = .ok (.iload_n 3, 1) := by decide +kernel
theorem dX5_firstStep_16 : decode cX5_firstStep 16 = .ok (.ifCond .ne 6, 3) := by decide +kernel
theorem dX5_firstStep_19 : decode cX5_firstStep 19 = .ok (.bipush (-9), 2) := by decide +kernel
theorem dX5_firstStep_21 : decode cX5_firstStep 21 = .ok (.ireturn, 1) := by decide +kernel
theorem dX5_firstStep_22 : decode cX5_firstStep 22 = .ok (.iconst 0, 1) := by decide +kernel
theorem dX5_firstStep_23 : decode cX5_firstStep 23 = .ok (.istore 5, 2) := by decide +kernel
theorem dX5_firstStep_25 : decode cX5_firstStep 25 = .ok (.iload 5, 2) := by decide +kernel
theorem dX5_firstStep_27 : decode cX5_firstStep 27 = .ok (.aload_n 1, 1) := by decide +kernel
theorem dX5_firstStep_28 : decode cX5_firstStep 28 = .ok (.getfield 51, 3) := by decide +kernel
theorem dX5_firstStep_31 : decode cX5_firstStep 31 = .ok (.if_icmp .ge 59, 3) := by decide +kernel
theorem dX5_firstStep_34 : decode cX5_firstStep 34 = .ok (.iload 4, 2) := by decide +kernel
theorem dX5_firstStep_36 : decode cX5_firstStep 36 = .ok (.iload 5, 2) := by decide +kernel
theorem dX5_firstStep_38 : decode cX5_firstStep 38 = .ok (.aload_n 2, 1) := by decide +kernel
theorem dX5_firstStep_39 : decode cX5_firstStep 39 = .ok (.getfield 56, 3) := by decide +kernel
theorem dX5_firstStep_42 : decode cX5_firstStep 42 = .ok (.isub, 1) := by decide +kernel
theorem dX5_firstStep_43 : decode cX5_firstStep 43 = .ok (.sipush 1296, 3) := by decide +kernel
theorem dX5_firstStep_46 : decode cX5_firstStep 46 = .ok (.imul, 1) := by decide +kernel
theorem dX5_firstStep_47 : decode cX5_firstStep 47 = .ok (.iadd, 1) := by decide +kernel
theorem dX5_firstStep_48 : decode cX5_firstStep 48 = .ok (.istore 6, 2) := by decide +kernel
theorem dX5_firstStep_50 : decode cX5_firstStep 50 = .ok (.iload 5, 2) := by decide +kernel
theorem dX5_firstStep_52 : decode cX5_firstStep 52 = .ok (.aload_n 2, 1) := by decide +kernel
theorem dX5_firstStep_53 : decode cX5_firstStep 53 = .ok (.getfield 56, 3) := by decide +kernel
theorem dX5_firstStep_56 : decode cX5_firstStep 56 = .ok (.if_icmp .eq 28, 3) := by decide +kernel
theorem dX5_firstStep_59 : decode cX5_firstStep 59 = .ok (.aload_n 1, 1) := by decide +kernel
theorem dX5_firstStep_60 : decode cX5_firstStep 60 = .ok (.aload_n 2, 1) := by decide +kernel
theorem dX5_firstStep_61 : decode cX5_firstStep 61 = .ok (.getfield 56, 3) := by decide +kernel
theorem dX5_firstStep_64 : decode cX5_firstStep 64 = .ok (.iload 5, 2) := by decide +kernel
theorem dX5_firstStep_66 : decode cX5_firstStep 66 = .ok (.invokevirtual 61, 3) := by decide +kernel
theorem dX5_firstStep_69 : decode cX5_firstStep 69 = .ok (.aload_n 0, 1) := by decide +kernel
theorem dX5_firstStep_70 : decode cX5_firstStep 70 = .ok (.iload 6, 2) := by decide +kernel
theorem dX5_firstStep_72 : decode cX5_firstStep 72 = .ok (.iconst 0, 1) := by decide +kernel
theorem dX5_firstStep_73 : decode cX5_firstStep 73 = .ok (.invokevirtual 43, 3) := by decide +kernel
theorem dX5_firstStep_76 : decode cX5_firstStep 76 = .ok (.iadd, 1) := by decide +kernel
theorem dX5_firstStep_77 : decode cX5_firstStep 77 = .ok (.iload_n 3, 1) := by decide +kernel
theorem dX5_firstStep_78 : decode cX5_firstStep 78 = .ok (.if_icmp .ne 6, 3) := by decide +kernel
theorem dX5_firstStep_81 : decode cX5_firstStep 81 = .ok (.iload 5, 2) := by decide +kernel
theorem dX5_firstStep_83 : decode cX5_firstStep 83 = .ok (.ireturn, 1) := by decide +kernel
theorem dX5_firstStep_84 : decode cX5_firstStep 84 = .ok (.iinc 5 1, 3) := by decide +kernel
theorem dX5_firstStep_87 : decode cX5_firstStep 87 = .ok (.goto (-62), 3) := by decide +kernel
theorem dX5_firstStep_90 : decode cX5_firstStep 90 = .ok (.iconst 0, 1) := by decide +kernel
theorem dX5_firstStep_91 : decode cX5_firstStep 91 = .ok (.istore 5, 2) := by decide +kernel
theorem dX5_firstStep_93 : decode cX5_firstStep 93 = .ok (.iload 5, 2) := by decide +kernel
theorem dX5_firstStep_95 : decode cX5_firstStep 95 = .ok (.aload_n 1, 1) := by decide +kernel
theorem dX5_firstStep_96 : decode cX5_firstStep 96 = .ok (.getfield 64, 3) := by decide +kernel
theorem dX5_firstStep_99 : decode cX5_firstStep 99 = .ok (.if_icmp .ge 59, 3) := by decide +kernel
theorem dX5_firstStep_102 : decode cX5_firstStep 102 = .ok (.iload 4, 2) := by decide +kernel
theorem dX5_firstStep_104 : decode cX5_firstStep 104 = .ok (.iconst 4, 1) := by decide +kernel
theorem dX5_firstStep_105 : decode cX5_firstStep 105 = .ok (.aload_n 1, 1) := by decide +kernel
theorem dX5_firstStep_106 : decode cX5_firstStep 106 = .ok (.aload_n 2, 1) := by decide +kernel
theorem dX5_firstStep_107 : decode cX5_firstStep 107 = .ok (.iload 5, 2) := by decide +kernel
theorem dX5_firstStep_109 : decode cX5_firstStep 109 = .ok (.invokestatic 67, 3) := by decide +kernel
theorem dX5_firstStep_112 : decode cX5_firstStep 112 = .ok (.isub, 1) := by decide +kernel
theorem dX5_firstStep_113 : decode cX5_firstStep 113 = .ok (.getstatic 70, 3) := by decide +kernel
theorem dX5_firstStep_116 : decode cX5_firstStep 116 = .ok (.iload 5, 2) := by decide +kernel
theorem dX5_firstStep_118 : decode cX5_firstStep 118 = .ok (.iaload, 1) := by decide +kernel
theorem dX5_firstStep_119 : decode cX5_firstStep 119 = .ok (.imul, 1) := by decide +kernel
theorem dX5_firstStep_120 : decode cX5_firstStep 120 = .ok (.iadd, 1) := by decide +kernel
theorem dX5_firstStep_121 : decode cX5_firstStep 121 = .ok (.istore 6, 2) := by decide +kernel
theorem dX5_firstStep_123 : decode cX5_firstStep 123 = .ok (.aload_n 2, 1) := by decide +kernel
theorem dX5_firstStep_124 : decode cX5_firstStep 124 = .ok (.iload 5, 2) := by decide +kernel
theorem dX5_firstStep_126 : decode cX5_firstStep 126 = .ok (.aload_n 1, 1) := by decide +kernel
theorem dX5_firstStep_127 : decode cX5_firstStep 127 = .ok (.invokevirtual 73, 3) := by decide +kernel
theorem dX5_firstStep_130 : decode cX5_firstStep 130 = .ok (.ifCond .eq 22, 3) := by decide +kernel
theorem dX5_firstStep_133 : decode cX5_firstStep 133 = .ok (.iconst 1, 1) := by decide +kernel
theorem dX5_firstStep_134 : decode cX5_firstStep 134 = .ok (.aload_n 0, 1) := by decide +kernel
theorem dX5_firstStep_135 : decode cX5_firstStep 135 = .ok (.iload 6, 2) := by decide +kernel
theorem dX5_firstStep_137 : decode cX5_firstStep 137 = .ok (.iconst 0, 1) := by decide +kernel
theorem dX5_firstStep_138 : decode cX5_firstStep 138 = .ok (.invokevirtual 43, 3) := by decide +kernel
theorem dX5_firstStep_141 : decode cX5_firstStep 141 = .ok (.iadd, 1) := by decide +kernel
theorem dX5_firstStep_142 : decode cX5_firstStep 142 = .ok (.iload_n 3, 1) := by decide +kernel
theorem dX5_firstStep_143 : decode cX5_firstStep 143 = .ok (.if_icmp .ne 9, 3) := by decide +kernel
theorem dX5_firstStep_146 : decode cX5_firstStep 146 = .ok (.bipush 10, 2) := by decide +kernel
theorem dX5_firstStep_148 : decode cX5_firstStep 148 = .ok (.iload 5, 2) := by decide +kernel
theorem dX5_firstStep_150 : decode cX5_firstStep 150 = .ok (.iadd, 1) := by decide +kernel
theorem dX5_firstStep_151 : decode cX5_firstStep 151 = .ok (.ireturn, 1) := by decide +kernel
theorem dX5_firstStep_152 : decode cX5_firstStep 152 = .ok (.iinc 5 1, 3) := by decide +kernel
theorem dX5_firstStep_155 : decode cX5_firstStep 155 = .ok (.goto (-62), 3) := by decide +kernel
theorem dX5_firstStep_158 : decode cX5_firstStep 158 = .ok (.iconst 0, 1) := by decide +kernel
theorem dX5_firstStep_159 : decode cX5_firstStep 159 = .ok (.istore 5, 2) := by decide +kernel
theorem dX5_firstStep_161 : decode cX5_firstStep 161 = .ok (.iload 5, 2) := by decide +kernel
theorem dX5_firstStep_163 : decode cX5_firstStep 163 = .ok (.aload_n 1, 1) := by decide +kernel
theorem dX5_firstStep_164 : decode cX5_firstStep 164 = .ok (.getfield 64, 3) := by decide +kernel
theorem dX5_firstStep_167 : decode cX5_firstStep 167 = .ok (.if_icmp .ge 55, 3) := by decide +kernel
theorem dX5_firstStep_170 : decode cX5_firstStep 170 = .ok (.iload 4, 2) := by decide +kernel
theorem dX5_firstStep_172 : decode cX5_firstStep 172 = .ok (.aload_n 2, 1) := by decide +kernel
theorem dX5_firstStep_173 : decode cX5_firstStep 173 = .ok (.getfield 56, 3) := by decide +kernel
theorem dX5_firstStep_176 : decode cX5_firstStep 176 = .ok (.iconst 4, 1) := by decide +kernel
theorem dX5_firstStep_177 : decode cX5_firstStep 177 = .ok (.isub, 1) := by decide +kernel
theorem dX5_firstStep_178 : decode cX5_firstStep 178 = .ok (.getstatic 70, 3) := by decide +kernel
theorem dX5_firstStep_181 : decode cX5_firstStep 181 = .ok (.iload 5, 2) := by decide +kernel
theorem dX5_firstStep_183 : decode cX5_firstStep 183 = .ok (.iaload, 1) := by decide +kernel
theorem dX5_firstStep_184 : decode cX5_firstStep 184 = .ok (.imul, 1) := by decide +kernel
theorem dX5_firstStep_185 : decode cX5_firstStep 185 = .ok (.iadd, 1) := by decide +kernel
theorem dX5_firstStep_186 : decode cX5_firstStep 186 = .ok (.istore 6, 2) := by decide +kernel
theorem dX5_firstStep_188 : decode cX5_firstStep 188 = .ok (.aload_n 2, 1) := by decide +kernel
theorem dX5_firstStep_189 : decode cX5_firstStep 189 = .ok (.iload 5, 2) := by decide +kernel
theorem dX5_firstStep_191 : decode cX5_firstStep 191 = .ok (.invokevirtual 77, 3) := by decide +kernel
theorem dX5_firstStep_194 : decode cX5_firstStep 194 = .ok (.ifCond .eq 22, 3) := by decide +kernel
theorem dX5_firstStep_197 : decode cX5_firstStep 197 = .ok (.iconst 1, 1) := by decide +kernel
theorem dX5_firstStep_198 : decode cX5_firstStep 198 = .ok (.aload_n 0, 1) := by decide +kernel
theorem dX5_firstStep_199 : decode cX5_firstStep 199 = .ok (.iload 6, 2) := by decide +kernel
theorem dX5_firstStep_201 : decode cX5_firstStep 201 = .ok (.iconst 0, 1) := by decide +kernel
theorem dX5_firstStep_202 : decode cX5_firstStep 202 = .ok (.invokevirtual 43, 3) := by decide +kernel
theorem dX5_firstStep_205 : decode cX5_firstStep 205 = .ok (.iadd, 1) := by decide +kernel
theorem dX5_firstStep_206 : decode cX5_firstStep 206 = .ok (.iload_n 3, 1) := by decide +kernel
theorem dX5_firstStep_207 : decode cX5_firstStep 207 = .ok (.if_icmp .ne 9, 3) := by decide +kernel
theorem dX5_firstStep_210 : decode cX5_firstStep 210 = .ok (.bipush 20, 2) := by decide +kernel
theorem dX5_firstStep_212 : decode cX5_firstStep 212 = .ok (.iload 5, 2) := by decide +kernel
theorem dX5_firstStep_214 : decode cX5_firstStep 214 = .ok (.iadd, 1) := by decide +kernel
theorem dX5_firstStep_215 : decode cX5_firstStep 215 = .ok (.ireturn, 1) := by decide +kernel
theorem dX5_firstStep_216 : decode cX5_firstStep 216 = .ok (.iinc 5 1, 3) := by decide +kernel
theorem dX5_firstStep_219 : decode cX5_firstStep 219 = .ok (.goto (-58), 3) := by decide +kernel
theorem dX5_firstStep_222 : decode cX5_firstStep 222 = .ok (.bipush (-9), 2) := by decide +kernel
theorem dX5_firstStep_224 : decode cX5_firstStep 224 = .ok (.ireturn, 1) := by decide +kernel
theorem dX5_stateOf_0 : decode cX5_stateOf 0 = .ok (.aload_n 1, 1) := by decide +kernel
theorem dX5_stateOf_1 : decode cX5_stateOf 1 = .ok (.getfield 56, 3) := by decide +kernel
theorem dX5_stateOf_4 : decode cX5_stateOf 4 = .ok (.sipush 1296, 3) := by decide +kernel
theorem dX5_stateOf_7 : decode cX5_stateOf 7 = .ok (.imul, 1) := by decide +kernel
theorem dX5_stateOf_8 : decode cX5_stateOf 8 = .ok (.istore_n 2, 1) := by decide +kernel
theorem dX5_stateOf_9 : decode cX5_stateOf 9 = .ok (.iconst 0, 1) := by decide +kernel
theorem dX5_stateOf_10 : decode cX5_stateOf 10 = .ok (.istore_n 3, 1) := by decide +kernel
theorem dX5_stateOf_11 : decode cX5_stateOf 11 = .ok (.iload_n 3, 1) := by decide +kernel
theorem dX5_stateOf_12 : decode cX5_stateOf 12 = .ok (.iconst 4, 1) := by decide +kernel
theorem dX5_stateOf_13 : decode cX5_stateOf 13 = .ok (.if_icmp .ge 24, 3) := by decide +kernel
theorem dX5_stateOf_16 : decode cX5_stateOf 16 = .ok (.iload_n 2, 1) := by decide +kernel
theorem dX5_stateOf_17 : decode cX5_stateOf 17 = .ok (.aload_n 0, 1) := by decide +kernel
theorem dX5_stateOf_18 : decode cX5_stateOf 18 = .ok (.aload_n 1, 1) := by decide +kernel
theorem dX5_stateOf_19 : decode cX5_stateOf 19 = .ok (.iload_n 3, 1) := by decide +kernel
theorem dX5_stateOf_20 : decode cX5_stateOf 20 = .ok (.invokestatic 67, 3) := by decide +kernel
theorem dX5_stateOf_23 : decode cX5_stateOf 23 = .ok (.getstatic 70, 3) := by decide +kernel
theorem dX5_stateOf_26 : decode cX5_stateOf 26 = .ok (.iload_n 3, 1) := by decide +kernel
theorem dX5_stateOf_27 : decode cX5_stateOf 27 = .ok (.iaload, 1) := by decide +kernel
theorem dX5_stateOf_28 : decode cX5_stateOf 28 = .ok (.imul, 1) := by decide +kernel
theorem dX5_stateOf_29 : decode cX5_stateOf 29 = .ok (.iadd, 1) := by decide +kernel
theorem dX5_stateOf_30 : decode cX5_stateOf 30 = .ok (.istore_n 2, 1) := by decide +kernel
theorem dX5_stateOf_31 : decode cX5_stateOf 31 = .ok (.iinc 3 1, 3) := by decide +kernel
theorem dX5_stateOf_34 : decode cX5_stateOf 34 = .ok (.goto (-23), 3) := by decide +kernel
theorem dX5_stateOf_37 : decode cX5_stateOf 37 = .ok (.iload_n 2, 1) := by decide +kernel
theorem dX5_stateOf_38 : decode cX5_stateOf 38 = .ok (.ireturn, 1) := by decide +kernel
theorem dX5_digitOf_0 : decode cX5_digitOf 0 = .ok (.aload_n 0, 1) := by decide +kernel
theorem dX5_digitOf_1 : decode cX5_digitOf 1 = .ok (.iload_n 2, 1) := by decide +kernel
theorem dX5_digitOf_2 : decode cX5_digitOf 2 = .ok (.invokevirtual 81, 3) := by decide +kernel
theorem dX5_digitOf_5 : decode cX5_digitOf 5 = .ok (.ifCond .eq 20, 3) := by decide +kernel
theorem dX5_digitOf_8 : decode cX5_digitOf 8 = .ok (.aload_n 1, 1) := by decide +kernel
theorem dX5_digitOf_9 : decode cX5_digitOf 9 = .ok (.iload_n 2, 1) := by decide +kernel
theorem dX5_digitOf_10 : decode cX5_digitOf 10 = .ok (.invokevirtual 84, 3) := by decide +kernel
theorem dX5_digitOf_13 : decode cX5_digitOf 13 = .ok (.ifCond .eq 12, 3) := by decide +kernel
theorem dX5_digitOf_16 : decode cX5_digitOf 16 = .ok (.aload_n 1, 1) := by decide +kernel
theorem dX5_digitOf_17 : decode cX5_digitOf 17 = .ok (.getfield 87, 3) := by decide +kernel
theorem dX5_digitOf_20 : decode cX5_digitOf 20 = .ok (.iload_n 2, 1) := by decide +kernel
theorem dX5_digitOf_21 : decode cX5_digitOf 21 = .ok (.iaload, 1) := by decide +kernel
theorem dX5_digitOf_22 : decode cX5_digitOf 22 = .ok (.goto 4, 3) := by decide +kernel
theorem dX5_digitOf_25 : decode cX5_digitOf 25 = .ok (.iconst 5, 1) := by decide +kernel
theorem dX5_digitOf_26 : decode cX5_digitOf 26 = .ok (.ireturn, 1) := by decide +kernel
theorem dX5_minutes_0 : decode cX5_minutes 0 = .ok (.iload_n 1, 1) := by decide +kernel
theorem dX5_minutes_1 : decode cX5_minutes 1 = .ok (.ifCond .lt 10, 3) := by decide +kernel
theorem dX5_minutes_4 : decode cX5_minutes 4 = .ok (.iload_n 1, 1) := by decide +kernel
theorem dX5_minutes_5 : decode cX5_minutes 5 = .ok (.sipush 6480, 3) := by decide +kernel
theorem dX5_minutes_8 : decode cX5_minutes 8 = .ok (.if_icmp .lt 7, 3) := by decide +kernel
theorem dX5_minutes_11 : decode cX5_minutes 11 = .ok (.sipush 4095, 3) := by decide +kernel
theorem dX5_minutes_14 : decode cX5_minutes 14 = .ok (.ireturn, 1) := by decide +kernel
theorem dX5_minutes_15 : decode cX5_minutes 15 = .ok (.aload_n 0, 1) := by decide +kernel
theorem dX5_minutes_16 : decode cX5_minutes 16 = .ok (.getfield 11, 3) := by decide +kernel
theorem dX5_minutes_19 : decode cX5_minutes 19 = .ok (.iload_n 1, 1) := by decide +kernel
theorem dX5_minutes_20 : decode cX5_minutes 20 = .ok (.laload, 1) := by decide +kernel
theorem dX5_minutes_21 : decode cX5_minutes 21 = .ok (.iload_n 2, 1) := by decide +kernel
theorem dX5_minutes_22 : decode cX5_minutes 22 = .ok (.bipush 12, 2) := by decide +kernel
theorem dX5_minutes_24 : decode cX5_minutes 24 = .ok (.imul, 1) := by decide +kernel
theorem dX5_minutes_25 : decode cX5_minutes 25 = .ok (.lushr, 1) := by decide +kernel
theorem dX5_minutes_26 : decode cX5_minutes 26 = .ok (.l2i, 1) := by decide +kernel
theorem dX5_minutes_27 : decode cX5_minutes 27 = .ok (.sipush 4095, 3) := by decide +kernel
theorem dX5_minutes_30 : decode cX5_minutes 30 = .ok (.iand, 1) := by decide +kernel
theorem dX5_minutes_31 : decode cX5_minutes 31 = .ok (.ireturn, 1) := by decide +kernel
theorem dX5_setMinutes_0 : decode cX5_setMinutes 0 = .ok (.aload_n 0, 1) := by decide +kernel
theorem dX5_setMinutes_1 : decode cX5_setMinutes 1 = .ok (.getfield 11, 3) := by decide +kernel
theorem dX5_setMinutes_4 : decode cX5_setMinutes 4 = .ok (.iload_n 1, 1) := by decide +kernel
theorem dX5_setMinutes_5 : decode cX5_setMinutes 5 = .ok (.aload_n 0, 1) := by decide +kernel
theorem dX5_setMinutes_6 : decode cX5_setMinutes 6 = .ok (.getfield 11, 3) := by decide +kernel
theorem dX5_setMinutes_9 : decode cX5_setMinutes 9 = .ok (.iload_n 1, 1) := by decide +kernel
theorem dX5_setMinutes_10 : decode cX5_setMinutes 10 = .ok (.laload, 1) := by decide +kernel
theorem dX5_setMinutes_11 : decode cX5_setMinutes 11 = .ok (.ldc2_w 90, 3) := by decide +kernel
theorem dX5_setMinutes_14 : decode cX5_setMinutes 14 = .ok (.iload_n 2, 1) := by decide +kernel
theorem dX5_setMinutes_15 : decode cX5_setMinutes 15 = .ok (.bipush 12, 2) := by decide +kernel
theorem dX5_setMinutes_17 : decode cX5_setMinutes 17 = .ok (.imul, 1) := by decide +kernel
theorem dX5_setMinutes_18 : decode cX5_setMinutes 18 = .ok (.lshl, 1) := by decide +kernel
theorem dX5_setMinutes_19 : decode cX5_setMinutes 19 = .ok (.ldc2_w 92, 3) := by decide +kernel
theorem dX5_setMinutes_22 : decode cX5_setMinutes 22 = .ok (.lxor, 1) := by decide +kernel
theorem dX5_setMinutes_23 : decode cX5_setMinutes 23 = .ok (.land, 1) := by decide +kernel
theorem dX5_setMinutes_24 : decode cX5_setMinutes 24 = .ok (.iload_n 3, 1) := by decide +kernel
theorem dX5_setMinutes_25 : decode cX5_setMinutes 25 = .ok (.i2l, 1) := by decide +kernel
theorem dX5_setMinutes_26 : decode cX5_setMinutes 26 = .ok (.iload_n 2, 1) := by decide +kernel
theorem dX5_setMinutes_27 : decode cX5_setMinutes 27 = .ok (.bipush 12, 2) := by decide +kernel
theorem dX5_setMinutes_29 : decode cX5_setMinutes 29 = .ok (.imul, 1) := by decide +kernel
theorem dX5_setMinutes_30 : decode cX5_setMinutes 30 = .ok (.lshl, 1) := by decide +kernel
theorem dX5_setMinutes_31 : decode cX5_setMinutes 31 = .ok (.lor, 1) := by decide +kernel
theorem dX5_setMinutes_32 : decode cX5_setMinutes 32 = .ok (.lastore, 1) := by decide +kernel
theorem dX5_setMinutes_33 : decode cX5_setMinutes 33 = .ok (.return_, 1) := by decide +kernel
theorem dX5_search_0 : decode cX5_search 0 = .ok (.aload_n 0, 1) := by decide +kernel
theorem dX5_search_1 : decode cX5_search 1 = .ok (.iload_n 2, 1) := by decide +kernel
theorem dX5_search_2 : decode cX5_search 2 = .ok (.putfield 32, 3) := by decide +kernel
theorem dX5_search_5 : decode cX5_search 5 = .ok (.aload_n 0, 1) := by decide +kernel
theorem dX5_search_6 : decode cX5_search 6 = .ok (.getfield 15, 3) := by decide +kernel
theorem dX5_search_9 : decode cX5_search 9 = .ok (.bipush (-9), 2) := by decide +kernel
theorem dX5_search_11 : decode cX5_search 11 = .ok (.invokestatic 94, 3) := by decide +kernel
theorem dX5_search_14 : decode cX5_search 14 = .ok (.iconst 0, 1) := by decide +kernel
theorem dX5_search_15 : decode cX5_search 15 = .ok (.istore_n 3, 1) := by decide +kernel
theorem dX5_search_16 : decode cX5_search 16 = .ok (.iload_n 3, 1) := by decide +kernel
theorem dX5_search_17 : decode cX5_search 17 = .ok (.sipush 6480, 3) := by decide +kernel
theorem dX5_search_20 : decode cX5_search 20 = .ok (.if_icmp .ge 18, 3) := by decide +kernel
theorem dX5_search_23 : decode cX5_search 23 = .ok (.aload_n 0, 1) := by decide +kernel
theorem dX5_search_24 : decode cX5_search 24 = .ok (.iload_n 3, 1) := by decide +kernel
theorem dX5_search_25 : decode cX5_search 25 = .ok (.iload_n 2, 1) := by decide +kernel
theorem dX5_search_26 : decode cX5_search 26 = .ok (.sipush 4095, 3) := by decide +kernel
theorem dX5_search_29 : decode cX5_search 29 = .ok (.invokevirtual 100, 3) := by decide +kernel
theorem dX5_search_32 : decode cX5_search 32 = .ok (.iinc 3 1, 3) := by decide +kernel
theorem dX5_search_35 : decode cX5_search 35 = .ok (.goto (-19), 3) := by decide +kernel
theorem dX5_search_38 : decode cX5_search 38 = .ok (.aload_n 0, 1) := by decide +kernel
theorem dX5_search_39 : decode cX5_search 39 = .ok (.aload_n 1, 1) := by decide +kernel
theorem dX5_search_40 : decode cX5_search 40 = .ok (.invokevirtual 104, 3) := by decide +kernel
theorem dX5_search_43 : decode cX5_search 43 = .ok (.iconst 0, 1) := by decide +kernel
theorem dX5_search_44 : decode cX5_search 44 = .ok (.istore_n 3, 1) := by decide +kernel
theorem dX5_search_45 : decode cX5_search 45 = .ok (.iload_n 3, 1) := by decide +kernel
theorem dX5_search_46 : decode cX5_search 46 = .ok (.sipush 256, 3) := by decide +kernel
theorem dX5_search_49 : decode cX5_search 49 = .ok (.if_icmp .ge 58, 3) := by decide +kernel
theorem dX5_search_52 : decode cX5_search 52 = .ok (.iconst 0, 1) := by decide +kernel
theorem dX5_search_53 : decode cX5_search 53 = .ok (.istore 4, 2) := by decide +kernel
theorem dX5_search_55 : decode cX5_search 55 = .ok (.iload 4, 2) := by decide +kernel
theorem dX5_search_57 : decode cX5_search 57 = .ok (.sipush 6480, 3) := by decide +kernel
theorem dX5_search_60 : decode cX5_search 60 = .ok (.if_icmp .ge 41, 3) := by decide +kernel
theorem dX5_search_63 : decode cX5_search 63 = .ok (.aload_n 0, 1) := by decide +kernel
theorem dX5_search_64 : decode cX5_search 64 = .ok (.getfield 15, 3) := by decide +kernel
theorem dX5_search_67 : decode cX5_search 67 = .ok (.iload_n 3, 1) := by decide +kernel
theorem dX5_search_68 : decode cX5_search 68 = .ok (.iaload, 1) := by decide +kernel
theorem dX5_search_69 : decode cX5_search 69 = .ok (.ifCond .lt 32, 3) := by decide +kernel
theorem dX5_search_72 : decode cX5_search 72 = .ok (.aload_n 0, 1) := by decide +kernel
theorem dX5_search_73 : decode cX5_search 73 = .ok (.getfield 15, 3) := by decide +kernel
theorem dX5_search_76 : decode cX5_search 76 = .ok (.iload_n 3, 1) := by decide +kernel
theorem dX5_search_77 : decode cX5_search 77 = .ok (.iaload, 1) := by decide +kernel
theorem dX5_search_78 : decode cX5_search 78 = .ok (.istore 5, 2) := by decide +kernel
theorem dX5_search_80 : decode cX5_search 80 = .ok (.aload_n 0, 1) := by decide +kernel
theorem dX5_search_81 : decode cX5_search 81 = .ok (.iload 5, 2) := by decide +kernel
theorem dX5_search_83 : decode cX5_search 83 = .ok (.iload_n 3, 1) := by decide +kernel
theorem dX5_search_84 : decode cX5_search 84 = .ok (.invokevirtual 108, 3) := by decide +kernel
theorem dX5_search_87 : decode cX5_search 87 = .ok (.aload_n 0, 1) := by decide +kernel
theorem dX5_search_88 : decode cX5_search 88 = .ok (.aload_n 1, 1) := by decide +kernel
theorem dX5_search_89 : decode cX5_search 89 = .ok (.iload 5, 2) := by decide +kernel
theorem dX5_search_91 : decode cX5_search 91 = .ok (.iload_n 3, 1) := by decide +kernel
theorem dX5_search_92 : decode cX5_search 92 = .ok (.invokevirtual 112, 3) := by decide +kernel
theorem dX5_search_95 : decode cX5_search 95 = .ok (.iinc 4 1, 3) := by decide +kernel
theorem dX5_search_98 : decode cX5_search 98 = .ok (.goto (-43), 3) := by decide +kernel
theorem dX5_search_101 : decode cX5_search 101 = .ok (.iinc 3 1, 3) := by decide +kernel
theorem dX5_search_104 : decode cX5_search 104 = .ok (.goto (-59), 3) := by decide +kernel
theorem dX5_search_107 : decode cX5_search 107 = .ok (.return_, 1) := by decide +kernel
theorem dX5_offerEnds_0 : decode cX5_offerEnds 0 = .ok (.iconst 0, 1) := by decide +kernel
theorem dX5_offerEnds_1 : decode cX5_offerEnds 1 = .ok (.istore_n 2, 1) := by decide +kernel
theorem dX5_offerEnds_2 : decode cX5_offerEnds 2 = .ok (.iload_n 2, 1) := by decide +kernel
theorem dX5_offerEnds_3 : decode cX5_offerEnds 3 = .ok (.iconst 1, 1) := by decide +kernel
theorem dX5_offerEnds_4 : decode cX5_offerEnds 4 = .ok (.aload_n 1, 1) := by decide +kernel
theorem dX5_offerEnds_5 : decode cX5_offerEnds 5 = .ok (.getfield 64, 3) := by decide +kernel
theorem dX5_offerEnds_8 : decode cX5_offerEnds 8 = .ok (.ishl, 1) := by decide +kernel
theorem dX5_offerEnds_9 : decode cX5_offerEnds 9 = .ok (.if_icmp .ge 96, 3) := by decide +kernel
theorem dX5_offerEnds_12 : decode cX5_offerEnds 12 = .ok (.iload_n 2, 1) := by decide +kernel
theorem dX5_offerEnds_13 : decode cX5_offerEnds 13 = .ok (.invokestatic 116, 3) := by decide +kernel
theorem dX5_offerEnds_16 : decode cX5_offerEnds 16 = .ok (.aload_n 0, 1) := by decide +kernel
theorem dX5_offerEnds_17 : decode cX5_offerEnds 17 = .ok (.getfield 32, 3) := by decide +kernel
theorem dX5_offerEnds_20 : decode cX5_offerEnds 20 = .ok (.if_icmp .lt 79, 3) := by decide +kernel
theorem dX5_offerEnds_23 : decode cX5_offerEnds 23 = .ok (.iconst 0, 1) := by decide +kernel
theorem dX5_offerEnds_24 : decode cX5_offerEnds 24 = .ok (.istore_n 3, 1) := by decide +kernel
theorem dX5_offerEnds_25 : decode cX5_offerEnds 25 = .ok (.iconst 0, 1) := by decide +kernel
theorem dX5_offerEnds_26 : decode cX5_offerEnds 26 = .ok (.istore 4, 2) := by decide +kernel
theorem dX5_offerEnds_28 : decode cX5_offerEnds 28 = .ok (.iload 4, 2) := by decide +kernel
theorem dX5_offerEnds_30 : decode cX5_offerEnds 30 = .ok (.iconst 4, 1) := by decide +kernel
theorem dX5_offerEnds_31 : decode cX5_offerEnds 31 = .ok (.if_icmp .ge 40, 3) := by decide +kernel
theorem dX5_offerEnds_34 : decode cX5_offerEnds 34 = .ok (.iload_n 3, 1) := by decide +kernel
theorem dX5_offerEnds_35 : decode cX5_offerEnds 35 = .ok (.iload_n 2, 1) := by decide +kernel
theorem dX5_offerEnds_36 : decode cX5_offerEnds 36 = .ok (.iload 4, 2) := by decide +kernel
theorem dX5_offerEnds_38 : decode cX5_offerEnds 38 = .ok (.ishr, 1) := by decide +kernel
theorem dX5_offerEnds_39 : decode cX5_offerEnds 39 = .ok (.iconst 1, 1) := by decide +kernel
theorem dX5_offerEnds_40 : decode cX5_offerEnds 40 = .ok (.iand, 1) := by decide +kernel
theorem dX5_offerEnds_41 : decode cX5_offerEnds 41 = .ok (.iconst 1, 1) := by decide +kernel
theorem dX5_offerEnds_42 : decode cX5_offerEnds 42 = .ok (.if_icmp .ne 13, 3) := by decide +kernel
theorem dX5_offerEnds_45 : decode cX5_offerEnds 45 = .ok (.aload_n 1, 1) := by decide +kernel
theorem dX5_offerEnds_46 : decode cX5_offerEnds 46 = .ok (.getfield 122, 3) := by decide +kernel
theorem dX5_offerEnds_49 : decode cX5_offerEnds 49 = .ok (.iload 4, 2) := by decide +kernel
theorem dX5_offerEnds_51 : decode cX5_offerEnds 51 = .ok (.iaload, 1) := by decide +kernel
theorem dX5_offerEnds_52 : decode cX5_offerEnds 52 = .ok (.goto 4, 3) := by decide +kernel
theorem dX5_offerEnds_55 : decode cX5_offerEnds 55 = .ok (.iconst 5, 1) := by decide +kernel
theorem dX5_offerEnds_56 : decode cX5_offerEnds 56 = .ok (.getstatic 70, 3) := by decide +kernel
theorem dX5_offerEnds_59 : decode cX5_offerEnds 59 = .ok (.iload 4, 2) := by decide +kernel
theorem dX5_offerEnds_61 : decode cX5_offerEnds 61 = .ok (.iaload, 1) := by decide +kernel
theorem dX5_offerEnds_62 : decode cX5_offerEnds 62 = .ok (.imul, 1) := by decide +kernel
theorem dX5_offerEnds_63 : decode cX5_offerEnds 63 = .ok (.iadd, 1) := by decide +kernel
theorem dX5_offerEnds_64 : decode cX5_offerEnds 64 = .ok (.istore_n 3, 1) := by decide +kernel
theorem dX5_offerEnds_65 : decode cX5_offerEnds 65 = .ok (.iinc 4 1, 3) := by decide +kernel
theorem dX5_offerEnds_68 : decode cX5_offerEnds 68 = .ok (.goto (-40), 3) := by decide +kernel
theorem dX5_offerEnds_71 : decode cX5_offerEnds 71 = .ok (.iconst 0, 1) := by decide +kernel
theorem dX5_offerEnds_72 : decode cX5_offerEnds 72 = .ok (.istore 4, 2) := by decide +kernel
theorem dX5_offerEnds_74 : decode cX5_offerEnds 74 = .ok (.iload 4, 2) := by decide +kernel
theorem dX5_offerEnds_76 : decode cX5_offerEnds 76 = .ok (.iconst 4, 1) := by decide +kernel
theorem dX5_offerEnds_77 : decode cX5_offerEnds 77 = .ok (.if_icmp .gt 22, 3) := by decide +kernel
theorem dX5_offerEnds_80 : decode cX5_offerEnds 80 = .ok (.aload_n 0, 1) := by decide +kernel
theorem dX5_offerEnds_81 : decode cX5_offerEnds 81 = .ok (.iload 4, 2) := by decide +kernel
theorem dX5_offerEnds_83 : decode cX5_offerEnds 83 = .ok (.sipush 1296, 3) := by decide +kernel
theorem dX5_offerEnds_86 : decode cX5_offerEnds 86 = .ok (.imul, 1) := by decide +kernel
theorem dX5_offerEnds_87 : decode cX5_offerEnds 87 = .ok (.iload_n 3, 1) := by decide +kernel
theorem dX5_offerEnds_88 : decode cX5_offerEnds 88 = .ok (.iadd, 1) := by decide +kernel
theorem dX5_offerEnds_89 : decode cX5_offerEnds 89 = .ok (.iconst 0, 1) := by decide +kernel
theorem dX5_offerEnds_90 : decode cX5_offerEnds 90 = .ok (.invokevirtual 125, 3) := by decide +kernel
theorem dX5_offerEnds_93 : decode cX5_offerEnds 93 = .ok (.iinc 4 1, 3) := by decide +kernel
theorem dX5_offerEnds_96 : decode cX5_offerEnds 96 = .ok (.goto (-22), 3) := by decide +kernel
theorem dX5_offerEnds_99 : decode cX5_offerEnds 99 = .ok (.iinc 2 1, 3) := by decide +kernel
theorem dX5_offerEnds_102 : decode cX5_offerEnds 102 = .ok (.goto (-100), 3) := by decide +kernel
theorem dX5_offerEnds_105 : decode cX5_offerEnds 105 = .ok (.return_, 1) := by decide +kernel
theorem dX5_weigh_0 : decode cX5_weigh 0 = .ok (.iload_n 2, 1) := by decide +kernel
theorem dX5_weigh_1 : decode cX5_weigh 1 = .ok (.sipush 1296, 3) := by decide +kernel
theorem dX5_weigh_4 : decode cX5_weigh 4 = .ok (.idiv, 1) := by decide +kernel
theorem dX5_weigh_5 : decode cX5_weigh 5 = .ok (.istore 4, 2) := by decide +kernel
theorem dX5_weigh_7 : decode cX5_weigh 7 = .ok (.iload 4, 2) := by decide +kernel
theorem dX5_weigh_9 : decode cX5_weigh 9 = .ok (.aload_n 1, 1) := by decide +kernel
theorem dX5_weigh_10 : decode cX5_weigh 10 = .ok (.getfield 51, 3) := by decide +kernel
theorem dX5_weigh_13 : decode cX5_weigh 13 = .ok (.if_icmp .lt 4, 3) := by decide +kernel
theorem dX5_weigh_16 : decode cX5_weigh 16 = .ok (.return_, 1) := by decide +kernel
theorem dX5_weigh_17 : decode cX5_weigh 17 = .ok (.iconst 0, 1) := by decide +kernel
theorem dX5_weigh_18 : decode cX5_weigh 18 = .ok (.istore 5, 2) := by decide +kernel
theorem dX5_weigh_20 : decode cX5_weigh 20 = .ok (.iload 5, 2) := by decide +kernel
theorem dX5_weigh_22 : decode cX5_weigh 22 = .ok (.aload_n 1, 1) := by decide +kernel
theorem dX5_weigh_23 : decode cX5_weigh 23 = .ok (.getfield 51, 3) := by decide +kernel
theorem dX5_weigh_26 : decode cX5_weigh 26 = .ok (.if_icmp .ge 34, 3) := by decide +kernel
theorem dX5_weigh_29 : decode cX5_weigh 29 = .ok (.aload_n 0, 1) := by decide +kernel
theorem dX5_weigh_30 : decode cX5_weigh 30 = .ok (.iload_n 2, 1) := by decide +kernel
theorem dX5_weigh_31 : decode cX5_weigh 31 = .ok (.iload 5, 2) := by decide +kernel
theorem dX5_weigh_33 : decode cX5_weigh 33 = .ok (.iload 4, 2) := by decide +kernel
theorem dX5_weigh_35 : decode cX5_weigh 35 = .ok (.isub, 1) := by decide +kernel
theorem dX5_weigh_36 : decode cX5_weigh 36 = .ok (.sipush 1296, 3) := by decide +kernel
theorem dX5_weigh_39 : decode cX5_weigh 39 = .ok (.imul, 1) := by decide +kernel
theorem dX5_weigh_40 : decode cX5_weigh 40 = .ok (.iadd, 1) := by decide +kernel
theorem dX5_weigh_41 : decode cX5_weigh 41 = .ok (.iload_n 3, 1) := by decide +kernel
theorem dX5_weigh_42 : decode cX5_weigh 42 = .ok (.aload_n 1, 1) := by decide +kernel
theorem dX5_weigh_43 : decode cX5_weigh 43 = .ok (.iload 5, 2) := by decide +kernel
theorem dX5_weigh_45 : decode cX5_weigh 45 = .ok (.iload 4, 2) := by decide +kernel
theorem dX5_weigh_47 : decode cX5_weigh 47 = .ok (.invokevirtual 61, 3) := by decide +kernel
theorem dX5_weigh_50 : decode cX5_weigh 50 = .ok (.iadd, 1) := by decide +kernel
theorem dX5_weigh_51 : decode cX5_weigh 51 = .ok (.invokevirtual 125, 3) := by decide +kernel
theorem dX5_weigh_54 : decode cX5_weigh 54 = .ok (.iinc 5 1, 3) := by decide +kernel
theorem dX5_weigh_57 : decode cX5_weigh 57 = .ok (.goto (-37), 3) := by decide +kernel
theorem dX5_weigh_60 : decode cX5_weigh 60 = .ok (.aload_n 0, 1) := by decide +kernel
theorem dX5_weigh_61 : decode cX5_weigh 61 = .ok (.iload_n 2, 1) := by decide +kernel
theorem dX5_weigh_62 : decode cX5_weigh 62 = .ok (.iconst 4, 1) := by decide +kernel
theorem dX5_weigh_63 : decode cX5_weigh 63 = .ok (.iload 4, 2) := by decide +kernel
theorem dX5_weigh_65 : decode cX5_weigh 65 = .ok (.isub, 1) := by decide +kernel
theorem dX5_weigh_66 : decode cX5_weigh 66 = .ok (.sipush 1296, 3) := by decide +kernel
theorem dX5_weigh_69 : decode cX5_weigh 69 = .ok (.imul, 1) := by decide +kernel
theorem dX5_weigh_70 : decode cX5_weigh 70 = .ok (.iadd, 1) := by decide +kernel
theorem dX5_weigh_71 : decode cX5_weigh 71 = .ok (.iload_n 3, 1) := by decide +kernel
theorem dX5_weigh_72 : decode cX5_weigh 72 = .ok (.aload_n 1, 1) := by decide +kernel
theorem dX5_weigh_73 : decode cX5_weigh 73 = .ok (.iconst 4, 1) := by decide +kernel
theorem dX5_weigh_74 : decode cX5_weigh 74 = .ok (.iload 4, 2) := by decide +kernel
theorem dX5_weigh_76 : decode cX5_weigh 76 = .ok (.invokevirtual 61, 3) := by decide +kernel
theorem dX5_weigh_79 : decode cX5_weigh 79 = .ok (.iadd, 1) := by decide +kernel
theorem dX5_weigh_80 : decode cX5_weigh 80 = .ok (.invokevirtual 125, 3) := by decide +kernel
theorem dX5_weigh_83 : decode cX5_weigh 83 = .ok (.aload_n 0, 1) := by decide +kernel
theorem dX5_weigh_84 : decode cX5_weigh 84 = .ok (.iload_n 2, 1) := by decide +kernel
theorem dX5_weigh_85 : decode cX5_weigh 85 = .ok (.invokevirtual 128, 3) := by decide +kernel
theorem dX5_weigh_88 : decode cX5_weigh 88 = .ok (.istore 5, 2) := by decide +kernel
theorem dX5_weigh_90 : decode cX5_weigh 90 = .ok (.iconst 0, 1) := by decide +kernel
theorem dX5_weigh_91 : decode cX5_weigh 91 = .ok (.istore 6, 2) := by decide +kernel
theorem dX5_weigh_93 : decode cX5_weigh 93 = .ok (.iload 6, 2) := by decide +kernel
theorem dX5_weigh_95 : decode cX5_weigh 95 = .ok (.aload_n 1, 1) := by decide +kernel
theorem dX5_weigh_96 : decode cX5_weigh 96 = .ok (.getfield 64, 3) := by decide +kernel
theorem dX5_weigh_99 : decode cX5_weigh 99 = .ok (.if_icmp .ge 113, 3) := by decide +kernel
theorem dX5_weigh_102 : decode cX5_weigh 102 = .ok (.aload_n 0, 1) := by decide +kernel
theorem dX5_weigh_103 : decode cX5_weigh 103 = .ok (.getfield 25, 3) := by decide +kernel
theorem dX5_weigh_106 : decode cX5_weigh 106 = .ok (.iload 6, 2) := by decide +kernel
theorem dX5_weigh_108 : decode cX5_weigh 108 = .ok (.iaload, 1) := by decide +kernel
theorem dX5_weigh_109 : decode cX5_weigh 109 = .ok (.iconst 4, 1) := by decide +kernel
theorem dX5_weigh_110 : decode cX5_weigh 110 = .ok (.if_icmp .ne 55, 3) := by decide +kernel
theorem dX5_weigh_113 : decode cX5_weigh 113 = .ok (.aload_n 0, 1) := by decide +kernel
theorem dX5_weigh_114 : decode cX5_weigh 114 = .ok (.iload_n 2, 1) := by decide +kernel
theorem dX5_weigh_115 : decode cX5_weigh 115 = .ok (.iload 4, 2) := by decide +kernel
theorem dX5_weigh_117 : decode cX5_weigh 117 = .ok (.iconst 4, 1) := by decide +kernel
theorem dX5_weigh_118 : decode cX5_weigh 118 = .ok (.isub, 1) := by decide +kernel
theorem dX5_weigh_119 : decode cX5_weigh 119 = .ok (.getstatic 70, 3) := by decide +kernel
theorem dX5_weigh_122 : decode cX5_weigh 122 = .ok (.iload 6, 2) := by decide +kernel
theorem dX5_weigh_124 : decode cX5_weigh 124 = .ok (.iaload, 1) := by decide +kernel
theorem dX5_weigh_125 : decode cX5_weigh 125 = .ok (.imul, 1) := by decide +kernel
theorem dX5_weigh_126 : decode cX5_weigh 126 = .ok (.iadd, 1) := by decide +kernel
theorem dX5_weigh_127 : decode cX5_weigh 127 = .ok (.iload_n 3, 1) := by decide +kernel
theorem dX5_weigh_128 : decode cX5_weigh 128 = .ok (.iconst 1, 1) := by decide +kernel
theorem dX5_weigh_129 : decode cX5_weigh 129 = .ok (.iadd, 1) := by decide +kernel
theorem dX5_weigh_130 : decode cX5_weigh 130 = .ok (.invokevirtual 125, 3) := by decide +kernel
theorem dX5_weigh_133 : decode cX5_weigh 133 = .ok (.aload_n 1, 1) := by decide +kernel
theorem dX5_weigh_134 : decode cX5_weigh 134 = .ok (.getfield 122, 3) := by decide +kernel
theorem dX5_weigh_137 : decode cX5_weigh 137 = .ok (.iload 6, 2) := by decide +kernel
theorem dX5_weigh_139 : decode cX5_weigh 139 = .ok (.iaload, 1) := by decide +kernel
theorem dX5_weigh_140 : decode cX5_weigh 140 = .ok (.iload 4, 2) := by decide +kernel
theorem dX5_weigh_142 : decode cX5_weigh 142 = .ok (.if_icmp .ne 64, 3) := by decide +kernel
theorem dX5_weigh_145 : decode cX5_weigh 145 = .ok (.aload_n 0, 1) := by decide +kernel
theorem dX5_weigh_146 : decode cX5_weigh 146 = .ok (.iload_n 2, 1) := by decide +kernel
theorem dX5_weigh_147 : decode cX5_weigh 147 = .ok (.iconst 1, 1) := by decide +kernel
theorem dX5_weigh_148 : decode cX5_weigh 148 = .ok (.getstatic 70, 3) := by decide +kernel
theorem dX5_weigh_151 : decode cX5_weigh 151 = .ok (.iload 6, 2) := by decide +kernel
theorem dX5_weigh_153 : decode cX5_weigh 153 = .ok (.iaload, 1) := by decide +kernel
theorem dX5_weigh_154 : decode cX5_weigh 154 = .ok (.imul, 1) := by decide +kernel
theorem dX5_weigh_155 : decode cX5_weigh 155 = .ok (.iadd, 1) := by decide +kernel
theorem dX5_weigh_156 : decode cX5_weigh 156 = .ok (.iload_n 3, 1) := by decide +kernel
theorem dX5_weigh_157 : decode cX5_weigh 157 = .ok (.iconst 1, 1) := by decide +kernel
theorem dX5_weigh_158 : decode cX5_weigh 158 = .ok (.iadd, 1) := by decide +kernel
theorem dX5_weigh_159 : decode cX5_weigh 159 = .ok (.invokevirtual 125, 3) := by decide +kernel
theorem dX5_weigh_162 : decode cX5_weigh 162 = .ok (.goto 44, 3) := by decide +kernel
theorem dX5_weigh_165 : decode cX5_weigh 165 = .ok (.aload_n 0, 1) := by decide +kernel
theorem dX5_weigh_166 : decode cX5_weigh 166 = .ok (.getfield 25, 3) := by decide +kernel
theorem dX5_weigh_169 : decode cX5_weigh 169 = .ok (.iload 6, 2) := by decide +kernel
theorem dX5_weigh_171 : decode cX5_weigh 171 = .ok (.iaload, 1) := by decide +kernel
theorem dX5_weigh_172 : decode cX5_weigh 172 = .ok (.iload 4, 2) := by decide +kernel
theorem dX5_weigh_174 : decode cX5_weigh 174 = .ok (.if_icmp .ne 32, 3) := by decide +kernel
theorem dX5_weigh_177 : decode cX5_weigh 177 = .ok (.iload 5, 2) := by decide +kernel
theorem dX5_weigh_179 : decode cX5_weigh 179 = .ok (.aload_n 1, 1) := by decide +kernel
theorem dX5_weigh_180 : decode cX5_weigh 180 = .ok (.getfield 131, 3) := by decide +kernel
theorem dX5_weigh_183 : decode cX5_weigh 183 = .ok (.if_icmp .ge 23, 3) := by decide +kernel
theorem dX5_weigh_186 : decode cX5_weigh 186 = .ok (.aload_n 0, 1) := by decide +kernel
theorem dX5_weigh_187 : decode cX5_weigh 187 = .ok (.iload_n 2, 1) := by decide +kernel
theorem dX5_weigh_188 : decode cX5_weigh 188 = .ok (.iconst 4, 1) := by decide +kernel
theorem dX5_weigh_189 : decode cX5_weigh 189 = .ok (.iload 4, 2) := by decide +kernel
theorem dX5_weigh_191 : decode cX5_weigh 191 = .ok (.isub, 1) := by decide +kernel
theorem dX5_weigh_192 : decode cX5_weigh 192 = .ok (.getstatic 70, 3) := by decide +kernel
theorem dX5_weigh_195 : decode cX5_weigh 195 = .ok (.iload 6, 2) := by decide +kernel
theorem dX5_weigh_197 : decode cX5_weigh 197 = .ok (.iaload, 1) := by decide +kernel
theorem dX5_weigh_198 : decode cX5_weigh 198 = .ok (.imul, 1) := by decide +kernel
theorem dX5_weigh_199 : decode cX5_weigh 199 = .ok (.iadd, 1) := by decide +kernel
theorem dX5_weigh_200 : decode cX5_weigh 200 = .ok (.iload_n 3, 1) := by decide +kernel
theorem dX5_weigh_201 : decode cX5_weigh 201 = .ok (.iconst 1, 1) := by decide +kernel
theorem dX5_weigh_202 : decode cX5_weigh 202 = .ok (.iadd, 1) := by decide +kernel
theorem dX5_weigh_203 : decode cX5_weigh 203 = .ok (.invokevirtual 125, 3) := by decide +kernel
theorem dX5_weigh_206 : decode cX5_weigh 206 = .ok (.iinc 6 1, 3) := by decide +kernel
theorem dX5_weigh_209 : decode cX5_weigh 209 = .ok (.goto (-116), 3) := by decide +kernel
theorem dX5_weigh_212 : decode cX5_weigh 212 = .ok (.return_, 1) := by decide +kernel
theorem dX5_readDigits_0 : decode cX5_readDigits 0 = .ok (.iload_n 1, 1) := by decide +kernel
theorem dX5_readDigits_1 : decode cX5_readDigits 1 = .ok (.sipush 1296, 3) := by decide +kernel
theorem dX5_readDigits_4 : decode cX5_readDigits 4 = .ok (.irem, 1) := by decide +kernel
theorem dX5_readDigits_5 : decode cX5_readDigits 5 = .ok (.istore_n 2, 1) := by decide +kernel
theorem dX5_readDigits_6 : decode cX5_readDigits 6 = .ok (.iconst 0, 1) := by decide +kernel
theorem dX5_readDigits_7 : decode cX5_readDigits 7 = .ok (.istore_n 3, 1) := by decide +kernel
theorem dX5_readDigits_8 : decode cX5_readDigits 8 = .ok (.iconst 0, 1) := by decide +kernel
theorem dX5_readDigits_9 : decode cX5_readDigits 9 = .ok (.istore 4, 2) := by decide +kernel
theorem dX5_readDigits_11 : decode cX5_readDigits 11 = .ok (.iload 4, 2) := by decide +kernel
theorem dX5_readDigits_13 : decode cX5_readDigits 13 = .ok (.iconst 4, 1) := by decide +kernel
theorem dX5_readDigits_14 : decode cX5_readDigits 14 = .ok (.if_icmp .ge 39, 3) := by decide +kernel
theorem dX5_readDigits_17 : decode cX5_readDigits 17 = .ok (.aload_n 0, 1) := by decide +kernel
theorem dX5_readDigits_18 : decode cX5_readDigits 18 = .ok (.getfield 25, 3) := by decide +kernel
theorem dX5_readDigits_21 : decode cX5_readDigits 21 = .ok (.iload 4, 2) := by decide +kernel
theorem dX5_readDigits_23 : decode cX5_readDigits 23 = .ok (.iload_n 2, 1) := by decide +kernel
theorem dX5_readDigits_24 : decode cX5_readDigits 24 = .ok (.bipush 6, 2) := by decide +kernel
theorem dX5_readDigits_26 : decode cX5_readDigits 26 = .ok (.irem, 1) := by decide +kernel
theorem dX5_readDigits_27 : decode cX5_readDigits 27 = .ok (.iastore, 1) := by decide +kernel
theorem dX5_readDigits_28 : decode cX5_readDigits 28 = .ok (.iload_n 2, 1) := by decide +kernel
