theorem dX0_init_0 : decode cX0_init 0 = .ok (.aload_n 0, 1) := by decide +kernel
theorem dX0_init_1 : decode cX0_init 1 = .ok (.invokespecial 3, 3) := by decide +kernel
theorem dX0_init_4 : decode cX0_init 4 = .ok (.aload_n 0, 1) := by decide +kernel
theorem dX0_init_5 : decode cX0_init 5 = .ok (.bipush 16, 2) := by decide +kernel
theorem dX0_init_7 : decode cX0_init 7 = .ok (.newarray .int, 2) := by decide +kernel
theorem dX0_init_9 : decode cX0_init 9 = .ok (.putfield 9, 3) := by decide +kernel
theorem dX0_init_12 : decode cX0_init 12 = .ok (.aload_n 0, 1) := by decide +kernel
theorem dX0_init_13 : decode cX0_init 13 = .ok (.iconst 0, 1) := by decide +kernel
theorem dX0_init_14 : decode cX0_init 14 = .ok (.putfield 15, 3) := by decide +kernel
theorem dX0_init_17 : decode cX0_init 17 = .ok (.aload_n 0, 1) := by decide +kernel
theorem dX0_init_18 : decode cX0_init 18 = .ok (.iconst 0, 1) := by decide +kernel
theorem dX0_init_19 : decode cX0_init 19 = .ok (.putfield 19, 3) := by decide +kernel
theorem dX0_init_22 : decode cX0_init 22 = .ok (.aload_n 0, 1) := by decide +kernel
theorem dX0_init_23 : decode cX0_init 23 = .ok (.iconst 0, 1) := by decide +kernel
theorem dX0_init_24 : decode cX0_init 24 = .ok (.putfield 23, 3) := by decide +kernel
theorem dX0_init_27 : decode cX0_init 27 = .ok (.aload_n 0, 1) := by decide +kernel
theorem dX0_init_28 : decode cX0_init 28 = .ok (.iconst 0, 1) := by decide +kernel
theorem dX0_init_29 : decode cX0_init 29 = .ok (.putfield 26, 3) := by decide +kernel
theorem dX0_init_32 : decode cX0_init 32 = .ok (.aload_n 0, 1) := by decide +kernel
theorem dX0_init_33 : decode cX0_init 33 = .ok (.iconst 0, 1) := by decide +kernel
theorem dX0_init_34 : decode cX0_init 34 = .ok (.putfield 29, 3) := by decide +kernel
theorem dX0_init_37 : decode cX0_init 37 = .ok (.aload_n 0, 1) := by decide +kernel
theorem dX0_init_38 : decode cX0_init 38 = .ok (.iconst 0, 1) := by decide +kernel
theorem dX0_init_39 : decode cX0_init 39 = .ok (.putfield 32, 3) := by decide +kernel
theorem dX0_init_42 : decode cX0_init 42 = .ok (.return_, 1) := by decide +kernel
theorem dX0_renew_0 : decode cX0_renew 0 = .ok (.aload_n 0, 1) := by decide +kernel
theorem dX0_renew_1 : decode cX0_renew 1 = .ok (.iconst 1, 1) := by decide +kernel
theorem dX0_renew_2 : decode cX0_renew 2 = .ok (.putfield 15, 3) := by decide +kernel
theorem dX0_renew_5 : decode cX0_renew 5 = .ok (.aload_n 0, 1) := by decide +kernel
theorem dX0_renew_6 : decode cX0_renew 6 = .ok (.iconst 0, 1) := by decide +kernel
theorem dX0_renew_7 : decode cX0_renew 7 = .ok (.putfield 19, 3) := by decide +kernel
theorem dX0_renew_10 : decode cX0_renew 10 = .ok (.aload_n 0, 1) := by decide +kernel
theorem dX0_renew_11 : decode cX0_renew 11 = .ok (.iconst 0, 1) := by decide +kernel
theorem dX0_renew_12 : decode cX0_renew 12 = .ok (.putfield 23, 3) := by decide +kernel
theorem dX0_renew_15 : decode cX0_renew 15 = .ok (.aload_n 0, 1) := by decide +kernel
theorem dX0_renew_16 : decode cX0_renew 16 = .ok (.iconst 4, 1) := by decide +kernel
theorem dX0_renew_17 : decode cX0_renew 17 = .ok (.putfield 26, 3) := by decide +kernel
theorem dX0_renew_20 : decode cX0_renew 20 = .ok (.aload_n 0, 1) := by decide +kernel
theorem dX0_renew_21 : decode cX0_renew 21 = .ok (.iconst 1, 1) := by decide +kernel
theorem dX0_renew_22 : decode cX0_renew 22 = .ok (.putfield 29, 3) := by decide +kernel
theorem dX0_renew_25 : decode cX0_renew 25 = .ok (.aload_n 0, 1) := by decide +kernel
theorem dX0_renew_26 : decode cX0_renew 26 = .ok (.iconst 0, 1) := by decide +kernel
theorem dX0_renew_27 : decode cX0_renew 27 = .ok (.putfield 32, 3) := by decide +kernel
theorem dX0_renew_30 : decode cX0_renew 30 = .ok (.iconst 0, 1) := by decide +kernel
theorem dX0_renew_31 : decode cX0_renew 31 = .ok (.istore_n 1, 1) := by decide +kernel
theorem dX0_renew_32 : decode cX0_renew 32 = .ok (.iload_n 1, 1) := by decide +kernel
theorem dX0_renew_33 : decode cX0_renew 33 = .ok (.bipush 16, 2) := by decide +kernel
theorem dX0_renew_35 : decode cX0_renew 35 = .ok (.if_icmp .ge 16, 3) := by decide +kernel
theorem dX0_renew_38 : decode cX0_renew 38 = .ok (.aload_n 0, 1) := by decide +kernel
theorem dX0_renew_39 : decode cX0_renew 39 = .ok (.getfield 9, 3) := by decide +kernel
theorem dX0_renew_42 : decode cX0_renew 42 = .ok (.iload_n 1, 1) := by decide +kernel
theorem dX0_renew_43 : decode cX0_renew 43 = .ok (.iconst 4, 1) := by decide +kernel
theorem dX0_renew_44 : decode cX0_renew 44 = .ok (.iastore, 1) := by decide +kernel
theorem dX0_renew_45 : decode cX0_renew 45 = .ok (.iinc 1 1, 3) := by decide +kernel
theorem dX0_renew_48 : decode cX0_renew 48 = .ok (.goto (-16), 3) := by decide +kernel
theorem dX0_renew_51 : decode cX0_renew 51 = .ok (.return_, 1) := by decide +kernel
theorem dX0_take_0 : decode cX0_take 0 = .ok (.aload_n 0, 1) := by decide +kernel
theorem dX0_take_1 : decode cX0_take 1 = .ok (.aload_n 1, 1) := by decide +kernel
theorem dX0_take_2 : decode cX0_take 2 = .ok (.getfield 15, 3) := by decide +kernel
theorem dX0_take_5 : decode cX0_take 5 = .ok (.putfield 15, 3) := by decide +kernel
theorem dX0_take_8 : decode cX0_take 8 = .ok (.aload_n 0, 1) := by decide +kernel
theorem dX0_take_9 : decode cX0_take 9 = .ok (.aload_n 1, 1) := by decide +kernel
theorem dX0_take_10 : decode cX0_take 10 = .ok (.getfield 19, 3) := by decide +kernel
theorem dX0_take_13 : decode cX0_take 13 = .ok (.putfield 19, 3) := by decide +kernel
theorem dX0_take_16 : decode cX0_take 16 = .ok (.aload_n 0, 1) := by decide +kernel
theorem dX0_take_17 : decode cX0_take 17 = .ok (.aload_n 1, 1) := by decide +kernel
theorem dX0_take_18 : decode cX0_take 18 = .ok (.getfield 23, 3) := by decide +kernel
theorem dX0_take_21 : decode cX0_take 21 = .ok (.putfield 23, 3) := by decide +kernel
theorem dX0_take_24 : decode cX0_take 24 = .ok (.aload_n 0, 1) := by decide +kernel
theorem dX0_take_25 : decode cX0_take 25 = .ok (.aload_n 1, 1) := by decide +kernel
theorem dX0_take_26 : decode cX0_take 26 = .ok (.getfield 26, 3) := by decide +kernel
theorem dX0_take_29 : decode cX0_take 29 = .ok (.putfield 26, 3) := by decide +kernel
theorem dX0_take_32 : decode cX0_take 32 = .ok (.aload_n 0, 1) := by decide +kernel
theorem dX0_take_33 : decode cX0_take 33 = .ok (.aload_n 1, 1) := by decide +kernel
theorem dX0_take_34 : decode cX0_take 34 = .ok (.getfield 29, 3) := by decide +kernel
theorem dX0_take_37 : decode cX0_take 37 = .ok (.putfield 29, 3) := by decide +kernel
theorem dX0_take_40 : decode cX0_take 40 = .ok (.aload_n 0, 1) := by decide +kernel
theorem dX0_take_41 : decode cX0_take 41 = .ok (.aload_n 1, 1) := by decide +kernel
theorem dX0_take_42 : decode cX0_take 42 = .ok (.getfield 32, 3) := by decide +kernel
theorem dX0_take_45 : decode cX0_take 45 = .ok (.putfield 32, 3) := by decide +kernel
theorem dX0_take_48 : decode cX0_take 48 = .ok (.aload_n 1, 1) := by decide +kernel
theorem dX0_take_49 : decode cX0_take 49 = .ok (.getfield 9, 3) := by decide +kernel
theorem dX0_take_52 : decode cX0_take 52 = .ok (.iconst 0, 1) := by decide +kernel
theorem dX0_take_53 : decode cX0_take 53 = .ok (.aload_n 0, 1) := by decide +kernel
theorem dX0_take_54 : decode cX0_take 54 = .ok (.getfield 9, 3) := by decide +kernel
theorem dX0_take_57 : decode cX0_take 57 = .ok (.iconst 0, 1) := by decide +kernel
theorem dX0_take_58 : decode cX0_take 58 = .ok (.bipush 16, 2) := by decide +kernel
theorem dX0_take_60 : decode cX0_take 60 = .ok (.invokestatic 35, 3) := by decide +kernel
theorem dX0_take_63 : decode cX0_take 63 = .ok (.return_, 1) := by decide +kernel
theorem dX0_hasCell_0 : decode cX0_hasCell 0 = .ok (.iload_n 1, 1) := by decide +kernel
theorem dX0_hasCell_1 : decode cX0_hasCell 1 = .ok (.ifCond .lt 21, 3) := by decide +kernel
theorem dX0_hasCell_4 : decode cX0_hasCell 4 = .ok (.iload_n 1, 1) := by decide +kernel
theorem dX0_hasCell_5 : decode cX0_hasCell 5 = .ok (.aload_n 0, 1) := by decide +kernel
theorem dX0_hasCell_6 : decode cX0_hasCell 6 = .ok (.getfield 19, 3) := by decide +kernel
theorem dX0_hasCell_9 : decode cX0_hasCell 9 = .ok (.if_icmp .ge 13, 3) := by decide +kernel
theorem dX0_hasCell_12 : decode cX0_hasCell 12 = .ok (.iload_n 1, 1) := by decide +kernel
theorem dX0_hasCell_13 : decode cX0_hasCell 13 = .ok (.bipush 16, 2) := by decide +kernel
theorem dX0_hasCell_15 : decode cX0_hasCell 15 = .ok (.if_icmp .ge 7, 3) := by decide +kernel
theorem dX0_hasCell_18 : decode cX0_hasCell 18 = .ok (.iconst 1, 1) := by decide +kernel
theorem dX0_hasCell_19 : decode cX0_hasCell 19 = .ok (.goto 4, 3) := by decide +kernel
theorem dX0_hasCell_22 : decode cX0_hasCell 22 = .ok (.iconst 0, 1) := by decide +kernel
theorem dX0_hasCell_23 : decode cX0_hasCell 23 = .ok (.ireturn, 1) := by decide +kernel
theorem dX0_hasWallPlace_0 : decode cX0_hasWallPlace 0 = .ok (.iload_n 1, 1) := by decide +kernel
theorem dX0_hasWallPlace_1 : decode cX0_hasWallPlace 1 = .ok (.ifCond .lt 23, 3) := by decide +kernel
theorem dX0_hasWallPlace_4 : decode cX0_hasWallPlace 4 = .ok (.iload_n 1, 1) := by decide +kernel
theorem dX0_hasWallPlace_5 : decode cX0_hasWallPlace 5 = .ok (.aload_n 0, 1) := by decide +kernel
theorem dX0_hasWallPlace_6 : decode cX0_hasWallPlace 6 = .ok (.getfield 19, 3) := by decide +kernel
theorem dX0_hasWallPlace_9 : decode cX0_hasWallPlace 9 = .ok (.iconst 1, 1) := by decide +kernel
theorem dX0_hasWallPlace_10 : decode cX0_hasWallPlace 10 = .ok (.isub, 1) := by decide +kernel
theorem dX0_hasWallPlace_11 : decode cX0_hasWallPlace 11 = .ok (.if_icmp .ge 13, 3) := by decide +kernel
theorem dX0_hasWallPlace_14 : decode cX0_hasWallPlace 14 = .ok (.iload_n 1, 1) := by decide +kernel
theorem dX0_hasWallPlace_15 : decode cX0_hasWallPlace 15 = .ok (.bipush 15, 2) := by decide +kernel
theorem dX0_hasWallPlace_17 : decode cX0_hasWallPlace 17 = .ok (.if_icmp .ge 7, 3) := by decide +kernel
theorem dX0_hasWallPlace_20 : decode cX0_hasWallPlace 20 = .ok (.iconst 1, 1) := by decide +kernel
theorem dX0_hasWallPlace_21 : decode cX0_hasWallPlace 21 = .ok (.goto 4, 3) := by decide +kernel
theorem dX0_hasWallPlace_24 : decode cX0_hasWallPlace 24 = .ok (.iconst 0, 1) := by decide +kernel
theorem dX0_hasWallPlace_25 : decode cX0_hasWallPlace 25 = .ok (.ireturn, 1) := by decide +kernel
theorem dX0_openingBehind_0 : decode cX0_openingBehind 0 = .ok (.aload_n 0, 1) := by decide +kernel
theorem dX0_openingBehind_1 : decode cX0_openingBehind 1 = .ok (.iload_n 1, 1) := by decide +kernel
theorem dX0_openingBehind_2 : decode cX0_openingBehind 2 = .ok (.invokevirtual 41, 3) := by decide +kernel
theorem dX0_openingBehind_5 : decode cX0_openingBehind 5 = .ok (.ifCond .eq 15, 3) := by decide +kernel
theorem dX0_openingBehind_8 : decode cX0_openingBehind 8 = .ok (.aload_n 0, 1) := by decide +kernel
theorem dX0_openingBehind_9 : decode cX0_openingBehind 9 = .ok (.getfield 32, 3) := by decide +kernel
theorem dX0_openingBehind_12 : decode cX0_openingBehind 12 = .ok (.iload_n 1, 1) := by decide +kernel
theorem dX0_openingBehind_13 : decode cX0_openingBehind 13 = .ok (.ishr, 1) := by decide +kernel
theorem dX0_openingBehind_14 : decode cX0_openingBehind 14 = .ok (.iconst 1, 1) := by decide +kernel
theorem dX0_openingBehind_15 : decode cX0_openingBehind 15 = .ok (.iand, 1) := by decide +kernel
theorem dX0_openingBehind_16 : decode cX0_openingBehind 16 = .ok (.iconst 1, 1) := by decide +kernel
theorem dX0_openingBehind_17 : decode cX0_openingBehind 17 = .ok (.if_icmp .ne 5, 3) := by decide +kernel
theorem dX0_openingBehind_20 : decode cX0_openingBehind 20 = .ok (.iconst 0, 1) := by decide +kernel
theorem dX0_openingBehind_21 : decode cX0_openingBehind 21 = .ok (.ireturn, 1) := by decide +kernel
theorem dX0_openingBehind_22 : decode cX0_openingBehind 22 = .ok (.aload_n 0, 1) := by decide +kernel
theorem dX0_openingBehind_23 : decode cX0_openingBehind 23 = .ok (.getfield 9, 3) := by decide +kernel
theorem dX0_openingBehind_26 : decode cX0_openingBehind 26 = .ok (.iload_n 1, 1) := by decide +kernel
theorem dX0_openingBehind_27 : decode cX0_openingBehind 27 = .ok (.iaload, 1) := by decide +kernel
theorem dX0_openingBehind_28 : decode cX0_openingBehind 28 = .ok (.aload_n 0, 1) := by decide +kernel
theorem dX0_openingBehind_29 : decode cX0_openingBehind 29 = .ok (.getfield 9, 3) := by decide +kernel
theorem dX0_openingBehind_32 : decode cX0_openingBehind 32 = .ok (.iload_n 1, 1) := by decide +kernel
theorem dX0_openingBehind_33 : decode cX0_openingBehind 33 = .ok (.iconst 1, 1) := by decide +kernel
theorem dX0_openingBehind_34 : decode cX0_openingBehind 34 = .ok (.iadd, 1) := by decide +kernel
theorem dX0_openingBehind_35 : decode cX0_openingBehind 35 = .ok (.iaload, 1) := by decide +kernel
theorem dX0_openingBehind_36 : decode cX0_openingBehind 36 = .ok (.invokestatic 45, 3) := by decide +kernel
theorem dX0_openingBehind_39 : decode cX0_openingBehind 39 = .ok (.ireturn, 1) := by decide +kernel
theorem dX0_raiseWall_0 : decode cX0_raiseWall 0 = .ok (.aload_n 0, 1) := by decide +kernel
theorem dX0_raiseWall_1 : decode cX0_raiseWall 1 = .ok (.iload_n 1, 1) := by decide +kernel
theorem dX0_raiseWall_2 : decode cX0_raiseWall 2 = .ok (.invokevirtual 41, 3) := by decide +kernel
theorem dX0_raiseWall_5 : decode cX0_raiseWall 5 = .ok (.ifCond .eq 15, 3) := by decide +kernel
theorem dX0_raiseWall_8 : decode cX0_raiseWall 8 = .ok (.aload_n 0, 1) := by decide +kernel
theorem dX0_raiseWall_9 : decode cX0_raiseWall 9 = .ok (.dup, 1) := by decide +kernel
theorem dX0_raiseWall_10 : decode cX0_raiseWall 10 = .ok (.getfield 32, 3) := by decide +kernel
theorem dX0_raiseWall_13 : decode cX0_raiseWall 13 = .ok (.iconst 1, 1) := by decide +kernel
theorem dX0_raiseWall_14 : decode cX0_raiseWall 14 = .ok (.iload_n 1, 1) := by decide +kernel
theorem dX0_raiseWall_15 : decode cX0_raiseWall 15 = .ok (.ishl, 1) := by decide +kernel
theorem dX0_raiseWall_16 : decode cX0_raiseWall 16 = .ok (.ior, 1) := by decide +kernel
theorem dX0_raiseWall_17 : decode cX0_raiseWall 17 = .ok (.putfield 32, 3) := by decide +kernel
theorem dX0_raiseWall_20 : decode cX0_raiseWall 20 = .ok (.return_, 1) := by decide +kernel
theorem dX0_breakWall_0 : decode cX0_breakWall 0 = .ok (.aload_n 0, 1) := by decide +kernel
theorem dX0_breakWall_1 : decode cX0_breakWall 1 = .ok (.iload_n 1, 1) := by decide +kernel
theorem dX0_breakWall_2 : decode cX0_breakWall 2 = .ok (.invokevirtual 41, 3) := by decide +kernel
theorem dX0_breakWall_5 : decode cX0_breakWall 5 = .ok (.ifCond .eq 17, 3) := by decide +kernel
theorem dX0_breakWall_8 : decode cX0_breakWall 8 = .ok (.aload_n 0, 1) := by decide +kernel
theorem dX0_breakWall_9 : decode cX0_breakWall 9 = .ok (.dup, 1) := by decide +kernel
theorem dX0_breakWall_10 : decode cX0_breakWall 10 = .ok (.getfield 32, 3) := by decide +kernel
theorem dX0_breakWall_13 : decode cX0_breakWall 13 = .ok (.iconst 1, 1) := by decide +kernel
theorem dX0_breakWall_14 : decode cX0_breakWall 14 = .ok (.iload_n 1, 1) := by decide +kernel
theorem dX0_breakWall_15 : decode cX0_breakWall 15 = .ok (.ishl, 1) := by decide +kernel
theorem dX0_breakWall_16 : decode cX0_breakWall 16 = .ok (.iconst (-1), 1) := by decide +kernel
theorem dX0_breakWall_17 : decode cX0_breakWall 17 = .ok (.ixor, 1) := by decide +kernel
theorem dX0_breakWall_18 : decode cX0_breakWall 18 = .ok (.iand, 1) := by decide +kernel
theorem dX0_breakWall_19 : decode cX0_breakWall 19 = .ok (.putfield 32, 3) := by decide +kernel
theorem dX0_breakWall_22 : decode cX0_breakWall 22 = .ok (.return_, 1) := by decide +kernel
theorem dX0_widen_0 : decode cX0_widen 0 = .ok (.aload_n 0, 1) := by decide +kernel
theorem dX0_widen_1 : decode cX0_widen 1 = .ok (.iconst 0, 1) := by decide +kernel
theorem dX0_widen_2 : decode cX0_widen 2 = .ok (.bipush 9, 2) := by decide +kernel
theorem dX0_widen_4 : decode cX0_widen 4 = .ok (.aload_n 0, 1) := by decide +kernel
theorem dX0_widen_5 : decode cX0_widen 5 = .ok (.getfield 26, 3) := by decide +kernel
theorem dX0_widen_8 : decode cX0_widen 8 = .ok (.iload_n 1, 1) := by decide +kernel
theorem dX0_widen_9 : decode cX0_widen 9 = .ok (.iadd, 1) := by decide +kernel
theorem dX0_widen_10 : decode cX0_widen 10 = .ok (.invokestatic 45, 3) := by decide +kernel
theorem dX0_widen_13 : decode cX0_widen 13 = .ok (.invokestatic 51, 3) := by decide +kernel
theorem dX0_widen_16 : decode cX0_widen 16 = .ok (.putfield 26, 3) := by decide +kernel
theorem dX0_widen_19 : decode cX0_widen 19 = .ok (.return_, 1) := by decide +kernel
theorem dX0_deepen_0 : decode cX0_deepen 0 = .ok (.aload_n 0, 1) := by decide +kernel
theorem dX0_deepen_1 : decode cX0_deepen 1 = .ok (.iload_n 1, 1) := by decide +kernel
theorem dX0_deepen_2 : decode cX0_deepen 2 = .ok (.invokevirtual 54, 3) := by decide +kernel
theorem dX0_deepen_5 : decode cX0_deepen 5 = .ok (.ifCond .eq 26, 3) := by decide +kernel
theorem dX0_deepen_8 : decode cX0_deepen 8 = .ok (.aload_n 0, 1) := by decide +kernel
theorem dX0_deepen_9 : decode cX0_deepen 9 = .ok (.getfield 9, 3) := by decide +kernel
theorem dX0_deepen_12 : decode cX0_deepen 12 = .ok (.iload_n 1, 1) := by decide +kernel
theorem dX0_deepen_13 : decode cX0_deepen 13 = .ok (.iconst 1, 1) := by decide +kernel
theorem dX0_deepen_14 : decode cX0_deepen 14 = .ok (.bipush 9, 2) := by decide +kernel
theorem dX0_deepen_16 : decode cX0_deepen 16 = .ok (.aload_n 0, 1) := by decide +kernel
theorem dX0_deepen_17 : decode cX0_deepen 17 = .ok (.getfield 9, 3) := by decide +kernel
theorem dX0_deepen_20 : decode cX0_deepen 20 = .ok (.iload_n 1, 1) := by decide +kernel
theorem dX0_deepen_21 : decode cX0_deepen 21 = .ok (.iaload, 1) := by decide +kernel
theorem dX0_deepen_22 : decode cX0_deepen 22 = .ok (.iload_n 2, 1) := by decide +kernel
theorem dX0_deepen_23 : decode cX0_deepen 23 = .ok (.iadd, 1) := by decide +kernel
theorem dX0_deepen_24 : decode cX0_deepen 24 = .ok (.invokestatic 45, 3) := by decide +kernel
theorem dX0_deepen_27 : decode cX0_deepen 27 = .ok (.invokestatic 51, 3) := by decide +kernel
theorem dX0_deepen_30 : decode cX0_deepen 30 = .ok (.iastore, 1) := by decide +kernel
theorem dX0_deepen_31 : decode cX0_deepen 31 = .ok (.return_, 1) := by decide +kernel
theorem dX0_fact_0 : decode cX0_fact 0 = .ok (.iload_n 1, 1) := by decide +kernel
theorem dX0_fact_1 : decode cX0_fact 1 = .ok (.tableswitch 60 0 4 #[35, 40, 45, 50, 55], 35) := by decide +kernel
theorem dX0_fact_36 : decode cX0_fact 36 = .ok (.aload_n 0, 1) := by decide +kernel
theorem dX0_fact_37 : decode cX0_fact 37 = .ok (.getfield 19, 3) := by decide +kernel
theorem dX0_fact_40 : decode cX0_fact 40 = .ok (.ireturn, 1) := by decide +kernel
theorem dX0_fact_41 : decode cX0_fact 41 = .ok (.aload_n 0, 1) := by decide +kernel
theorem dX0_fact_42 : decode cX0_fact 42 = .ok (.getfield 23, 3) := by decide +kernel
theorem dX0_fact_45 : decode cX0_fact 45 = .ok (.ireturn, 1) := by decide +kernel
theorem dX0_fact_46 : decode cX0_fact 46 = .ok (.aload_n 0, 1) := by decide +kernel
theorem dX0_fact_47 : decode cX0_fact 47 = .ok (.getfield 26, 3) := by decide +kernel
theorem dX0_fact_50 : decode cX0_fact 50 = .ok (.ireturn, 1) := by decide +kernel
theorem dX0_fact_51 : decode cX0_fact 51 = .ok (.aload_n 0, 1) := by decide +kernel
theorem dX0_fact_52 : decode cX0_fact 52 = .ok (.getfield 29, 3) := by decide +kernel
theorem dX0_fact_55 : decode cX0_fact 55 = .ok (.ireturn, 1) := by decide +kernel
theorem dX0_fact_56 : decode cX0_fact 56 = .ok (.aload_n 0, 1) := by decide +kernel
theorem dX0_fact_57 : decode cX0_fact 57 = .ok (.getfield 32, 3) := by decide +kernel
theorem dX0_fact_60 : decode cX0_fact 60 = .ok (.ireturn, 1) := by decide +kernel
theorem dX0_fact_61 : decode cX0_fact 61 = .ok (.aload_n 0, 1) := by decide +kernel
theorem dX0_fact_62 : decode cX0_fact 62 = .ok (.iload_n 1, 1) := by decide +kernel
theorem dX0_fact_63 : decode cX0_fact 63 = .ok (.iconst 5, 1) := by decide +kernel
theorem dX0_fact_64 : decode cX0_fact 64 = .ok (.isub, 1) := by decide +kernel
theorem dX0_fact_65 : decode cX0_fact 65 = .ok (.invokevirtual 54, 3) := by decide +kernel
theorem dX0_fact_68 : decode cX0_fact 68 = .ok (.ifCond .eq 14, 3) := by decide +kernel
theorem dX0_fact_71 : decode cX0_fact 71 = .ok (.aload_n 0, 1) := by decide +kernel
theorem dX0_fact_72 : decode cX0_fact 72 = .ok (.getfield 9, 3) := by decide +kernel
theorem dX0_fact_75 : decode cX0_fact 75 = .ok (.iload_n 1, 1) := by decide +kernel
theorem dX0_fact_76 : decode cX0_fact 76 = .ok (.iconst 5, 1) := by decide +kernel
theorem dX0_fact_77 : decode cX0_fact 77 = .ok (.isub, 1) := by decide +kernel
theorem dX0_fact_78 : decode cX0_fact 78 = .ok (.iaload, 1) := by decide +kernel
theorem dX0_fact_79 : decode cX0_fact 79 = .ok (.goto 4, 3) := by decide +kernel
theorem dX0_fact_82 : decode cX0_fact 82 = .ok (.iconst 0, 1) := by decide +kernel
theorem dX0_fact_83 : decode cX0_fact 83 = .ok (.ireturn, 1) := by decide +kernel
theorem dX0_mixInto_0 : decode cX0_mixInto 0 = .ok (.aload_n 0, 1) := by decide +kernel
theorem dX0_mixInto_1 : decode cX0_mixInto 1 = .ok (.getfield 15, 3) := by decide +kernel
theorem dX0_mixInto_4 : decode cX0_mixInto 4 = .ok (.ifCond .ne 11, 3) := by decide +kernel
theorem dX0_mixInto_7 : decode cX0_mixInto 7 = .ok (.lload_n 1, 1) := by decide +kernel
theorem dX0_mixInto_8 : decode cX0_mixInto 8 = .ok (.ldc2_w 57, 3) := by decide +kernel
theorem dX0_mixInto_11 : decode cX0_mixInto 11 = .ok (.invokestatic 59, 3) := by decide +kernel
theorem dX0_mixInto_14 : decode cX0_mixInto 14 = .ok (.lreturn, 1) := by decide +kernel
theorem dX0_mixInto_15 : decode cX0_mixInto 15 = .ok (.lload_n 1, 1) := by decide +kernel
theorem dX0_mixInto_16 : decode cX0_mixInto 16 = .ok (.lstore_n 3, 1) := by decide +kernel
theorem dX0_mixInto_17 : decode cX0_mixInto 17 = .ok (.iconst 0, 1) := by decide +kernel
theorem dX0_mixInto_18 : decode cX0_mixInto 18 = .ok (.istore 5, 2) := by decide +kernel
theorem dX0_mixInto_20 : decode cX0_mixInto 20 = .ok (.iload 5, 2) := by decide +kernel
theorem dX0_mixInto_22 : decode cX0_mixInto 22 = .ok (.iconst 5, 1) := by decide +kernel
theorem dX0_mixInto_23 : decode cX0_mixInto 23 = .ok (.aload_n 0, 1) := by decide +kernel
theorem dX0_mixInto_24 : decode cX0_mixInto 24 = .ok (.getfield 19, 3) := by decide +kernel
theorem dX0_mixInto_27 : decode cX0_mixInto 27 = .ok (.iadd, 1) := by decide +kernel
theorem dX0_mixInto_28 : decode cX0_mixInto 28 = .ok (.if_icmp .ge 21, 3) := by decide +kernel
theorem dX0_mixInto_31 : decode cX0_mixInto 31 = .ok (.lload_n 3, 1) := by decide +kernel
theorem dX0_mixInto_32 : decode cX0_mixInto 32 = .ok (.aload_n 0, 1) := by decide +kernel
theorem dX0_mixInto_33 : decode cX0_mixInto 33 = .ok (.iload 5, 2) := by decide +kernel
theorem dX0_mixInto_35 : decode cX0_mixInto 35 = .ok (.invokevirtual 63, 3) := by decide +kernel
theorem dX0_mixInto_38 : decode cX0_mixInto 38 = .ok (.i2l, 1) := by decide +kernel
theorem dX0_mixInto_39 : decode cX0_mixInto 39 = .ok (.invokestatic 59, 3) := by decide +kernel
theorem dX0_mixInto_42 : decode cX0_mixInto 42 = .ok (.lstore_n 3, 1) := by decide +kernel
theorem dX0_mixInto_43 : decode cX0_mixInto 43 = .ok (.iinc 5 1, 3) := by decide +kernel
theorem dX0_mixInto_46 : decode cX0_mixInto 46 = .ok (.goto (-26), 3) := by decide +kernel
theorem dX0_mixInto_49 : decode cX0_mixInto 49 = .ok (.lload_n 3, 1) := by decide +kernel
theorem dX0_mixInto_50 : decode cX0_mixInto 50 = .ok (.lreturn, 1) := by decide +kernel
theorem dX1_init_0 : decode cX1_init 0 = .ok (.aload_n 0, 1) := by decide +kernel
theorem dX1_init_1 : decode cX1_init 1 = .ok (.invokespecial 3, 3) := by decide +kernel
theorem dX1_init_4 : decode cX1_init 4 = .ok (.aload_n 0, 1) := by decide +kernel
theorem dX1_init_5 : decode cX1_init 5 = .ok (.iconst 0, 1) := by decide +kernel
theorem dX1_init_6 : decode cX1_init 6 = .ok (.putfield 9, 3) := by decide +kernel
theorem dX1_init_9 : decode cX1_init 9 = .ok (.aload_n 0, 1) := by decide +kernel
theorem dX1_init_10 : decode cX1_init 10 = .ok (.iconst 0, 1) := by decide +kernel
theorem dX1_init_11 : decode cX1_init 11 = .ok (.putfield 15, 3) := by decide +kernel
theorem dX1_init_14 : decode cX1_init 14 = .ok (.aload_n 0, 1) := by decide +kernel
theorem dX1_init_15 : decode cX1_init 15 = .ok (.iconst 1, 1) := by decide +kernel
theorem dX1_init_16 : decode cX1_init 16 = .ok (.putfield 19, 3) := by decide +kernel
theorem dX1_init_19 : decode cX1_init 19 = .ok (.aload_n 0, 1) := by decide +kernel
theorem dX1_init_20 : decode cX1_init 20 = .ok (.iconst 1, 1) := by decide +kernel
theorem dX1_init_21 : decode cX1_init 21 = .ok (.putfield 22, 3) := by decide +kernel
theorem dX1_init_24 : decode cX1_init 24 = .ok (.aload_n 0, 1) := by decide +kernel
theorem dX1_init_25 : decode cX1_init 25 = .ok (.iconst 0, 1) := by decide +kernel
theorem dX1_init_26 : decode cX1_init 26 = .ok (.putfield 25, 3) := by decide +kernel
theorem dX1_init_29 : decode cX1_init 29 = .ok (.aload_n 0, 1) := by decide +kernel
theorem dX1_init_30 : decode cX1_init 30 = .ok (.iconst 1, 1) := by decide +kernel
theorem dX1_init_31 : decode cX1_init 31 = .ok (.putfield 28, 3) := by decide +kernel
theorem dX1_init_34 : decode cX1_init 34 = .ok (.aload_n 0, 1) := by decide +kernel
theorem dX1_init_35 : decode cX1_init 35 = .ok (.iconst 0, 1) := by decide +kernel
theorem dX1_init_36 : decode cX1_init 36 = .ok (.putfield 31, 3) := by decide +kernel
theorem dX1_init_39 : decode cX1_init 39 = .ok (.aload_n 0, 1) := by decide +kernel
theorem dX1_init_40 : decode cX1_init 40 = .ok (.iconst 0, 1) := by decide +kernel
theorem dX1_init_41 : decode cX1_init 41 = .ok (.putfield 34, 3) := by decide +kernel
theorem dX1_init_44 : decode cX1_init 44 = .ok (.aload_n 0, 1) := by decide +kernel
theorem dX1_init_45 : decode cX1_init 45 = .ok (.iconst 0, 1) := by decide +kernel
theorem dX1_init_46 : decode cX1_init 46 = .ok (.putfield 37, 3) := by decide +kernel
theorem dX1_init_49 : decode cX1_init 49 = .ok (.aload_n 0, 1) := by decide +kernel
theorem dX1_init_50 : decode cX1_init 50 = .ok (.bipush (-9), 2) := by decide +kernel
theorem dX1_init_52 : decode cX1_init 52 = .ok (.putfield 40, 3) := by decide +kernel
theorem dX1_init_55 : decode cX1_init 55 = .ok (.return_, 1) := by decide +kernel
theorem dX1_build_0 : decode cX1_build 0 = .ok (.aload_n 0, 1) := by decide +kernel
theorem dX1_build_1 : decode cX1_build 1 = .ok (.iconst 1, 1) := by decide +kernel
theorem dX1_build_2 : decode cX1_build 2 = .ok (.putfield 9, 3) := by decide +kernel
theorem dX1_build_5 : decode cX1_build 5 = .ok (.aload_n 0, 1) := by decide +kernel
theorem dX1_build_6 : decode cX1_build 6 = .ok (.iload_n 1, 1) := by decide +kernel
theorem dX1_build_7 : decode cX1_build 7 = .ok (.putfield 15, 3) := by decide +kernel
theorem dX1_build_10 : decode cX1_build 10 = .ok (.aload_n 0, 1) := by decide +kernel
theorem dX1_build_11 : decode cX1_build 11 = .ok (.iload_n 2, 1) := by decide +kernel
theorem dX1_build_12 : decode cX1_build 12 = .ok (.putfield 19, 3) := by decide +kernel
theorem dX1_build_15 : decode cX1_build 15 = .ok (.aload_n 0, 1) := by decide +kernel
theorem dX1_build_16 : decode cX1_build 16 = .ok (.iload_n 3, 1) := by decide +kernel
theorem dX1_build_17 : decode cX1_build 17 = .ok (.putfield 22, 3) := by decide +kernel
theorem dX1_build_20 : decode cX1_build 20 = .ok (.aload_n 0, 1) := by decide +kernel
theorem dX1_build_21 : decode cX1_build 21 = .ok (.iload 4, 2) := by decide +kernel
theorem dX1_build_23 : decode cX1_build 23 = .ok (.putfield 25, 3) := by decide +kernel
theorem dX1_build_26 : decode cX1_build 26 = .ok (.aload_n 0, 1) := by decide +kernel
theorem dX1_build_27 : decode cX1_build 27 = .ok (.iload 5, 2) := by decide +kernel
theorem dX1_build_29 : decode cX1_build 29 = .ok (.putfield 28, 3) := by decide +kernel
theorem dX1_build_32 : decode cX1_build 32 = .ok (.return_, 1) := by decide +kernel
theorem dX1_take_0 : decode cX1_take 0 = .ok (.aload_n 0, 1) := by decide +kernel
theorem dX1_take_1 : decode cX1_take 1 = .ok (.aload_n 1, 1) := by decide +kernel
theorem dX1_take_2 : decode cX1_take 2 = .ok (.getfield 9, 3) := by decide +kernel
theorem dX1_take_5 : decode cX1_take 5 = .ok (.putfield 9, 3) := by decide +kernel
theorem dX1_take_8 : decode cX1_take 8 = .ok (.aload_n 0, 1) := by decide +kernel
theorem dX1_take_9 : decode cX1_take 9 = .ok (.aload_n 1, 1) := by decide +kernel
theorem dX1_take_10 : decode cX1_take 10 = .ok (.getfield 15, 3) := by decide +kernel
theorem dX1_take_13 : decode cX1_take 13 = .ok (.putfield 15, 3) := by decide +kernel
theorem dX1_take_16 : decode cX1_take 16 = .ok (.aload_n 0, 1) := by decide +kernel
theorem dX1_take_17 : decode cX1_take 17 = .ok (.aload_n 1, 1) := by decide +kernel
theorem dX1_take_18 : decode cX1_take 18 = .ok (.getfield 19, 3) := by decide +kernel
theorem dX1_take_21 : decode cX1_take 21 = .ok (.putfield 19, 3) := by decide +kernel
theorem dX1_take_24 : decode cX1_take 24 = .ok (.aload_n 0, 1) := by decide +kernel
theorem dX1_take_25 : decode cX1_take 25 = .ok (.aload_n 1, 1) := by decide +kernel
theorem dX1_take_26 : decode cX1_take 26 = .ok (.getfield 22, 3) := by decide +kernel
theorem dX1_take_29 : decode cX1_take 29 = .ok (.putfield 22, 3) := by decide +kernel
theorem dX1_take_32 : decode cX1_take 32 = .ok (.aload_n 0, 1) := by decide +kernel
theorem dX1_take_33 : decode cX1_take 33 = .ok (.aload_n 1, 1) := by decide +kernel
theorem dX1_take_34 : decode cX1_take 34 = .ok (.getfield 25, 3) := by decide +kernel
theorem dX1_take_37 : decode cX1_take 37 = .ok (.putfield 25, 3) := by decide +kernel
theorem dX1_take_40 : decode cX1_take 40 = .ok (.aload_n 0, 1) := by decide +kernel
theorem dX1_take_41 : decode cX1_take 41 = .ok (.aload_n 1, 1) := by decide +kernel
theorem dX1_take_42 : decode cX1_take 42 = .ok (.getfield 28, 3) := by decide +kernel
theorem dX1_take_45 : decode cX1_take 45 = .ok (.putfield 28, 3) := by decide +kernel
theorem dX1_take_48 : decode cX1_take 48 = .ok (.aload_n 0, 1) := by decide +kernel
theorem dX1_take_49 : decode cX1_take 49 = .ok (.aload_n 1, 1) := by decide +kernel
theorem dX1_take_50 : decode cX1_take 50 = .ok (.getfield 31, 3) := by decide +kernel
theorem dX1_take_53 : decode cX1_take 53 = .ok (.putfield 31, 3) := by decide +kernel
theorem dX1_take_56 : decode cX1_take 56 = .ok (.aload_n 0, 1) := by decide +kernel
theorem dX1_take_57 : decode cX1_take 57 = .ok (.aload_n 1, 1) := by decide +kernel
theorem dX1_take_58 : decode cX1_take 58 = .ok (.getfield 34, 3) := by decide +kernel
theorem dX1_take_61 : decode cX1_take 61 = .ok (.putfield 34, 3) := by decide +kernel
theorem dX1_take_64 : decode cX1_take 64 = .ok (.aload_n 0, 1) := by decide +kernel
theorem dX1_take_65 : decode cX1_take 65 = .ok (.aload_n 1, 1) := by decide +kernel
theorem dX1_take_66 : decode cX1_take 66 = .ok (.getfield 37, 3) := by decide +kernel
theorem dX1_take_69 : decode cX1_take 69 = .ok (.putfield 37, 3) := by decide +kernel
theorem dX1_take_72 : decode cX1_take 72 = .ok (.aload_n 0, 1) := by decide +kernel
theorem dX1_take_73 : decode cX1_take 73 = .ok (.aload_n 1, 1) := by decide +kernel
theorem dX1_take_74 : decode cX1_take 74 = .ok (.getfield 40, 3) := by decide +kernel
theorem dX1_take_77 : decode cX1_take 77 = .ok (.putfield 40, 3) := by decide +kernel
theorem dX1_take_80 : decode cX1_take 80 = .ok (.return_, 1) := by decide +kernel
theorem dX1_rest_0 : decode cX1_rest 0 = .ok (.aload_n 0, 1) := by decide +kernel
theorem dX1_rest_1 : decode cX1_rest 1 = .ok (.iconst 0, 1) := by decide +kernel
theorem dX1_rest_2 : decode cX1_rest 2 = .ok (.putfield 31, 3) := by decide +kernel
theorem dX1_rest_5 : decode cX1_rest 5 = .ok (.aload_n 0, 1) := by decide +kernel
theorem dX1_rest_6 : decode cX1_rest 6 = .ok (.iconst 0, 1) := by decide +kernel
theorem dX1_rest_7 : decode cX1_rest 7 = .ok (.putfield 34, 3) := by decide +kernel
theorem dX1_rest_10 : decode cX1_rest 10 = .ok (.aload_n 0, 1) := by decide +kernel
theorem dX1_rest_11 : decode cX1_rest 11 = .ok (.iconst 0, 1) := by decide +kernel
theorem dX1_rest_12 : decode cX1_rest 12 = .ok (.putfield 37, 3) := by decide +kernel
theorem dX1_rest_15 : decode cX1_rest 15 = .ok (.aload_n 0, 1) := by decide +kernel
theorem dX1_rest_16 : decode cX1_rest 16 = .ok (.bipush (-9), 2) := by decide +kernel
theorem dX1_rest_18 : decode cX1_rest 18 = .ok (.putfield 40, 3) := by decide +kernel
theorem dX1_rest_21 : decode cX1_rest 21 = .ok (.return_, 1) := by decide +kernel
theorem dX1_strain_0 : decode cX1_strain 0 = .ok (.aload_n 0, 1) := by decide +kernel
theorem dX1_strain_1 : decode cX1_strain 1 = .ok (.getfield 31, 3) := by decide +kernel
theorem dX1_strain_4 : decode cX1_strain 4 = .ok (.ifCond .ge 11, 3) := by decide +kernel
theorem dX1_strain_7 : decode cX1_strain 7 = .ok (.aload_n 0, 1) := by decide +kernel
theorem dX1_strain_8 : decode cX1_strain 8 = .ok (.getfield 31, 3) := by decide +kernel
theorem dX1_strain_11 : decode cX1_strain 11 = .ok (.ineg, 1) := by decide +kernel
theorem dX1_strain_12 : decode cX1_strain 12 = .ok (.goto 7, 3) := by decide +kernel
theorem dX1_strain_15 : decode cX1_strain 15 = .ok (.aload_n 0, 1) := by decide +kernel
theorem dX1_strain_16 : decode cX1_strain 16 = .ok (.getfield 31, 3) := by decide +kernel
theorem dX1_strain_19 : decode cX1_strain 19 = .ok (.aload_n 0, 1) := by decide +kernel
theorem dX1_strain_20 : decode cX1_strain 20 = .ok (.getfield 25, 3) := by decide +kernel
theorem dX1_strain_23 : decode cX1_strain 23 = .ok (.isub, 1) := by decide +kernel
theorem dX1_strain_24 : decode cX1_strain 24 = .ok (.istore_n 1, 1) := by decide +kernel
theorem dX1_strain_25 : decode cX1_strain 25 = .ok (.iload_n 1, 1) := by decide +kernel
theorem dX1_strain_26 : decode cX1_strain 26 = .ok (.ifCond .le 12, 3) := by decide +kernel
theorem dX1_strain_29 : decode cX1_strain 29 = .ok (.aload_n 0, 1) := by decide +kernel
theorem dX1_strain_30 : decode cX1_strain 30 = .ok (.getfield 22, 3) := by decide +kernel
theorem dX1_strain_33 : decode cX1_strain 33 = .ok (.iload_n 1, 1) := by decide +kernel
theorem dX1_strain_34 : decode cX1_strain 34 = .ok (.imul, 1) := by decide +kernel
theorem dX1_strain_35 : decode cX1_strain 35 = .ok (.goto 4, 3) := by decide +kernel
theorem dX1_strain_38 : decode cX1_strain 38 = .ok (.iconst 0, 1) := by decide +kernel
theorem dX1_strain_39 : decode cX1_strain 39 = .ok (.ireturn, 1) := by decide +kernel
theorem dX1_ride_0 : decode cX1_ride 0 = .ok (.aload_n 0, 1) := by decide +kernel
theorem dX1_ride_1 : decode cX1_ride 1 = .ok (.getfield 31, 3) := by decide +kernel
theorem dX1_ride_4 : decode cX1_ride 4 = .ok (.ifCond .le 12, 3) := by decide +kernel
theorem dX1_ride_7 : decode cX1_ride 7 = .ok (.iload_n 1, 1) := by decide +kernel
theorem dX1_ride_8 : decode cX1_ride 8 = .ok (.aload_n 0, 1) := by decide +kernel
theorem dX1_ride_9 : decode cX1_ride 9 = .ok (.invokevirtual 43, 3) := by decide +kernel
theorem dX1_ride_12 : decode cX1_ride 12 = .ok (.isub, 1) := by decide +kernel
theorem dX1_ride_13 : decode cX1_ride 13 = .ok (.goto 9, 3) := by decide +kernel
theorem dX1_ride_16 : decode cX1_ride 16 = .ok (.iload_n 1, 1) := by decide +kernel
theorem dX1_ride_17 : decode cX1_ride 17 = .ok (.aload_n 0, 1) := by decide +kernel
theorem dX1_ride_18 : decode cX1_ride 18 = .ok (.invokevirtual 43, 3) := by decide +kernel
theorem dX1_ride_21 : decode cX1_ride 21 = .ok (.iadd, 1) := by decide +kernel
theorem dX1_ride_22 : decode cX1_ride 22 = .ok (.istore_n 3, 1) := by decide +kernel
theorem dX1_ride_23 : decode cX1_ride 23 = .ok (.aload_n 0, 1) := by decide +kernel
theorem dX1_ride_24 : decode cX1_ride 24 = .ok (.dup, 1) := by decide +kernel
theorem dX1_ride_25 : decode cX1_ride 25 = .ok (.getfield 34, 3) := by decide +kernel
theorem dX1_ride_28 : decode cX1_ride 28 = .ok (.iload_n 3, 1) := by decide +kernel
theorem dX1_ride_29 : decode cX1_ride 29 = .ok (.iconst 1, 1) := by decide +kernel
theorem dX1_ride_30 : decode cX1_ride 30 = .ok (.iconst 4, 1) := by decide +kernel
theorem dX1_ride_31 : decode cX1_ride 31 = .ok (.aload_n 0, 1) := by decide +kernel
theorem dX1_ride_32 : decode cX1_ride 32 = .ok (.getfield 19, 3) := by decide +kernel
theorem dX1_ride_35 : decode cX1_ride 35 = .ok (.imul, 1) := by decide +kernel
theorem dX1_ride_36 : decode cX1_ride 36 = .ok (.invokestatic 47, 3) := by decide +kernel
theorem dX1_ride_39 : decode cX1_ride 39 = .ok (.idiv, 1) := by decide +kernel
theorem dX1_ride_40 : decode cX1_ride 40 = .ok (.iadd, 1) := by decide +kernel
theorem dX1_ride_41 : decode cX1_ride 41 = .ok (.putfield 34, 3) := by decide +kernel
theorem dX1_ride_44 : decode cX1_ride 44 = .ok (.aload_n 0, 1) := by decide +kernel
theorem dX1_ride_45 : decode cX1_ride 45 = .ok (.dup, 1) := by decide +kernel
theorem dX1_ride_46 : decode cX1_ride 46 = .ok (.getfield 34, 3) := by decide +kernel
theorem dX1_ride_49 : decode cX1_ride 49 = .ok (.aload_n 0, 1) := by decide +kernel
theorem dX1_ride_50 : decode cX1_ride 50 = .ok (.getfield 34, 3) := by decide +kernel
theorem dX1_ride_53 : decode cX1_ride 53 = .ok (.bipush 16, 2) := by decide +kernel
theorem dX1_ride_55 : decode cX1_ride 55 = .ok (.idiv, 1) := by decide +kernel
theorem dX1_ride_56 : decode cX1_ride 56 = .ok (.isub, 1) := by decide +kernel
theorem dX1_ride_57 : decode cX1_ride 57 = .ok (.putfield 34, 3) := by decide +kernel
theorem dX1_ride_60 : decode cX1_ride 60 = .ok (.aload_n 0, 1) := by decide +kernel
theorem dX1_ride_61 : decode cX1_ride 61 = .ok (.dup, 1) := by decide +kernel
theorem dX1_ride_62 : decode cX1_ride 62 = .ok (.getfield 31, 3) := by decide +kernel
theorem dX1_ride_65 : decode cX1_ride 65 = .ok (.aload_n 0, 1) := by decide +kernel
theorem dX1_ride_66 : decode cX1_ride 66 = .ok (.getfield 34, 3) := by decide +kernel
theorem dX1_ride_69 : decode cX1_ride 69 = .ok (.iadd, 1) := by decide +kernel
theorem dX1_ride_70 : decode cX1_ride 70 = .ok (.putfield 31, 3) := by decide +kernel
theorem dX1_ride_73 : decode cX1_ride 73 = .ok (.aload_n 0, 1) := by decide +kernel
theorem dX1_ride_74 : decode cX1_ride 74 = .ok (.invokevirtual 43, 3) := by decide +kernel
theorem dX1_ride_77 : decode cX1_ride 77 = .ok (.istore 4, 2) := by decide +kernel
theorem dX1_ride_79 : decode cX1_ride 79 = .ok (.aload_n 0, 1) := by decide +kernel
theorem dX1_ride_80 : decode cX1_ride 80 = .ok (.aload_n 0, 1) := by decide +kernel
theorem dX1_ride_81 : decode cX1_ride 81 = .ok (.getfield 37, 3) := by decide +kernel
theorem dX1_ride_84 : decode cX1_ride 84 = .ok (.iload 4, 2) := by decide +kernel
theorem dX1_ride_86 : decode cX1_ride 86 = .ok (.invokestatic 47, 3) := by decide +kernel
theorem dX1_ride_89 : decode cX1_ride 89 = .ok (.putfield 37, 3) := by decide +kernel
theorem dX1_ride_92 : decode cX1_ride 92 = .ok (.aload_n 0, 1) := by decide +kernel
theorem dX1_ride_93 : decode cX1_ride 93 = .ok (.getfield 40, 3) := by decide +kernel
theorem dX1_ride_96 : decode cX1_ride 96 = .ok (.bipush (-9), 2) := by decide +kernel
theorem dX1_ride_98 : decode cX1_ride 98 = .ok (.if_icmp .ne 17, 3) := by decide +kernel
theorem dX1_ride_101 : decode cX1_ride 101 = .ok (.iload 4, 2) := by decide +kernel
theorem dX1_ride_103 : decode cX1_ride 103 = .ok (.aload_n 0, 1) := by decide +kernel
theorem dX1_ride_104 : decode cX1_ride 104 = .ok (.getfield 28, 3) := by decide +kernel
theorem dX1_ride_107 : decode cX1_ride 107 = .ok (.if_icmp .le 8, 3) := by decide +kernel
theorem dX1_ride_110 : decode cX1_ride 110 = .ok (.aload_n 0, 1) := by decide +kernel
theorem dX1_ride_111 : decode cX1_ride 111 = .ok (.iload_n 2, 1) := by decide +kernel
theorem dX1_ride_112 : decode cX1_ride 112 = .ok (.putfield 40, 3) := by decide +kernel
theorem dX1_ride_115 : decode cX1_ride 115 = .ok (.return_, 1) := by decide +kernel
theorem dX1_ridden_0 : decode cX1_ridden 0 = .ok (.iload_n 1, 1) := by decide +kernel
theorem dX1_ridden_1 : decode cX1_ridden 1 = .ok (.tableswitch 42 0 2 #[27, 32, 37], 27) := by decide +kernel
theorem dX1_ridden_28 : decode cX1_ridden 28 = .ok (.aload_n 0, 1) := by decide +kernel
theorem dX1_ridden_29 : decode cX1_ridden 29 = .ok (.getfield 31, 3) := by decide +kernel
theorem dX1_ridden_32 : decode cX1_ridden 32 = .ok (.ireturn, 1) := by decide +kernel
theorem dX1_ridden_33 : decode cX1_ridden 33 = .ok (.aload_n 0, 1) := by decide +kernel
theorem dX1_ridden_34 : decode cX1_ridden 34 = .ok (.getfield 34, 3) := by decide +kernel
theorem dX1_ridden_37 : decode cX1_ridden 37 = .ok (.ireturn, 1) := by decide +kernel
theorem dX1_ridden_38 : decode cX1_ridden 38 = .ok (.aload_n 0, 1) := by decide +kernel
theorem dX1_ridden_39 : decode cX1_ridden 39 = .ok (.getfield 37, 3) := by decide +kernel
theorem dX1_ridden_42 : decode cX1_ridden 42 = .ok (.ireturn, 1) := by decide +kernel
theorem dX1_ridden_43 : decode cX1_ridden 43 = .ok (.aload_n 0, 1) := by decide +kernel
theorem dX1_ridden_44 : decode cX1_ridden 44 = .ok (.getfield 40, 3) := by decide +kernel
theorem dX1_ridden_47 : decode cX1_ridden 47 = .ok (.ireturn, 1) := by decide +kernel
theorem dX1_mixInto_0 : decode cX1_mixInto 0 = .ok (.aload_n 0, 1) := by decide +kernel
theorem dX1_mixInto_1 : decode cX1_mixInto 1 = .ok (.getfield 9, 3) := by decide +kernel
theorem dX1_mixInto_4 : decode cX1_mixInto 4 = .ok (.ifCond .ne 11, 3) := by decide +kernel
theorem dX1_mixInto_7 : decode cX1_mixInto 7 = .ok (.lload_n 1, 1) := by decide +kernel
theorem dX1_mixInto_8 : decode cX1_mixInto 8 = .ok (.ldc2_w 53, 3) := by decide +kernel
theorem dX1_mixInto_11 : decode cX1_mixInto 11 = .ok (.invokestatic 55, 3) := by decide +kernel
theorem dX1_mixInto_14 : decode cX1_mixInto 14 = .ok (.lreturn, 1) := by decide +kernel
theorem dX1_mixInto_15 : decode cX1_mixInto 15 = .ok (.lload_n 1, 1) := by decide +kernel
theorem dX1_mixInto_16 : decode cX1_mixInto 16 = .ok (.aload_n 0, 1) := by decide +kernel
theorem dX1_mixInto_17 : decode cX1_mixInto 17 = .ok (.getfield 15, 3) := by decide +kernel
theorem dX1_mixInto_20 : decode cX1_mixInto 20 = .ok (.i2l, 1) := by decide +kernel
theorem dX1_mixInto_21 : decode cX1_mixInto 21 = .ok (.invokestatic 55, 3) := by decide +kernel
theorem dX1_mixInto_24 : decode cX1_mixInto 24 = .ok (.aload_n 0, 1) := by decide +kernel
theorem dX1_mixInto_25 : decode cX1_mixInto 25 = .ok (.getfield 19, 3) := by decide +kernel
theorem dX1_mixInto_28 : decode cX1_mixInto 28 = .ok (.i2l, 1) := by decide +kernel
theorem dX1_mixInto_29 : decode cX1_mixInto 29 = .ok (.invokestatic 55, 3) := by decide +kernel
theorem dX1_mixInto_32 : decode cX1_mixInto 32 = .ok (.aload_n 0, 1) := by decide +kernel
theorem dX1_mixInto_33 : decode cX1_mixInto 33 = .ok (.getfield 22, 3) := by decide +kernel
theorem dX1_mixInto_36 : decode cX1_mixInto 36 = .ok (.i2l, 1) := by decide +kernel
theorem dX1_mixInto_37 : decode cX1_mixInto 37 = .ok (.invokestatic 55, 3) := by decide +kernel
theorem dX1_mixInto_40 : decode cX1_mixInto 40 = .ok (.aload_n 0, 1) := by decide +kernel
theorem dX1_mixInto_41 : decode cX1_mixInto 41 = .ok (.getfield 25, 3) := by decide +kernel
theorem dX1_mixInto_44 : decode cX1_mixInto 44 = .ok (.i2l, 1) := by decide +kernel
theorem dX1_mixInto_45 : decode cX1_mixInto 45 = .ok (.invokestatic 55, 3) := by decide +kernel
theorem dX1_mixInto_48 : decode cX1_mixInto 48 = .ok (.aload_n 0, 1) := by decide +kernel
theorem dX1_mixInto_49 : decode cX1_mixInto 49 = .ok (.getfield 28, 3) := by decide +kernel
theorem dX1_mixInto_52 : decode cX1_mixInto 52 = .ok (.i2l, 1) := by decide +kernel
theorem dX1_mixInto_53 : decode cX1_mixInto 53 = .ok (.invokestatic 55, 3) := by decide +kernel
theorem dX1_mixInto_56 : decode cX1_mixInto 56 = .ok (.lreturn, 1) := by decide +kernel
theorem dX1_mixRideInto_0 : decode cX1_mixRideInto 0 = .ok (.aload_n 0, 1) := by decide +kernel
theorem dX1_mixRideInto_1 : decode cX1_mixRideInto 1 = .ok (.getfield 9, 3) := by decide +kernel
theorem dX1_mixRideInto_4 : decode cX1_mixRideInto 4 = .ok (.ifCond .ne 5, 3) := by decide +kernel
theorem dX1_mixRideInto_7 : decode cX1_mixRideInto 7 = .ok (.lload_n 1, 1) := by decide +kernel
theorem dX1_mixRideInto_8 : decode cX1_mixRideInto 8 = .ok (.lreturn, 1) := by decide +kernel
theorem dX1_mixRideInto_9 : decode cX1_mixRideInto 9 = .ok (.lload_n 1, 1) := by decide +kernel
theorem dX1_mixRideInto_10 : decode cX1_mixRideInto 10 = .ok (.aload_n 0, 1) := by decide +kernel
theorem dX1_mixRideInto_11 : decode cX1_mixRideInto 11 = .ok (.getfield 31, 3) := by decide +kernel
theorem dX1_mixRideInto_14 : decode cX1_mixRideInto 14 = .ok (.i2l, 1) := by decide +kernel
theorem dX1_mixRideInto_15 : decode cX1_mixRideInto 15 = .ok (.invokestatic 55, 3) := by decide +kernel
theorem dX1_mixRideInto_18 : decode cX1_mixRideInto 18 = .ok (.aload_n 0, 1) := by decide +kernel
theorem dX1_mixRideInto_19 : decode cX1_mixRideInto 19 = .ok (.getfield 34, 3) := by decide +kernel
theorem dX1_mixRideInto_22 : decode cX1_mixRideInto 22 = .ok (.i2l, 1) := by decide +kernel
theorem dX1_mixRideInto_23 : decode cX1_mixRideInto 23 = .ok (.invokestatic 55, 3) := by decide +kernel
theorem dX1_mixRideInto_26 : decode cX1_mixRideInto 26 = .ok (.aload_n 0, 1) := by decide +kernel
theorem dX1_mixRideInto_27 : decode cX1_mixRideInto 27 = .ok (.getfield 37, 3) := by decide +kernel
theorem dX1_mixRideInto_30 : decode cX1_mixRideInto 30 = .ok (.i2l, 1) := by decide +kernel
theorem dX1_mixRideInto_31 : decode cX1_mixRideInto 31 = .ok (.invokestatic 55, 3) := by decide +kernel
theorem dX1_mixRideInto_34 : decode cX1_mixRideInto 34 = .ok (.aload_n 0, 1) := by decide +kernel
theorem dX1_mixRideInto_35 : decode cX1_mixRideInto 35 = .ok (.getfield 40, 3) := by decide +kernel
theorem dX1_mixRideInto_38 : decode cX1_mixRideInto 38 = .ok (.i2l, 1) := by decide +kernel
theorem dX1_mixRideInto_39 : decode cX1_mixRideInto 39 = .ok (.invokestatic 55, 3) := by decide +kernel
theorem dX1_mixRideInto_42 : decode cX1_mixRideInto 42 = .ok (.lreturn, 1) := by decide +kernel
theorem dX2_init_0 : decode cX2_init 0 = .ok (.aload_n 0, 1) := by decide +kernel
theorem dX2_init_1 : decode cX2_init 1 = .ok (.invokespecial 3, 3) := by decide +kernel
theorem dX2_init_4 : decode cX2_init 4 = .ok (.aload_n 0, 1) := by decide +kernel
theorem dX2_init_5 : decode cX2_init 5 = .ok (.sipush 400, 3) := by decide +kernel
theorem dX2_init_8 : decode cX2_init 8 = .ok (.newarray .int, 2) := by decide +kernel
theorem dX2_init_10 : decode cX2_init 10 = .ok (.putfield 9, 3) := by decide +kernel
theorem dX2_init_13 : decode cX2_init 13 = .ok (.aload_n 0, 1) := by decide +kernel
theorem dX2_init_14 : decode cX2_init 14 = .ok (.iconst 0, 1) := by decide +kernel
theorem dX2_init_15 : decode cX2_init 15 = .ok (.putfield 15, 3) := by decide +kernel
theorem dX2_init_18 : decode cX2_init 18 = .ok (.aload_n 0, 1) := by decide +kernel
theorem dX2_init_19 : decode cX2_init 19 = .ok (.iconst 0, 1) := by decide +kernel
theorem dX2_init_20 : decode cX2_init 20 = .ok (.putfield 19, 3) := by decide +kernel
theorem dX2_init_23 : decode cX2_init 23 = .ok (.aload_n 0, 1) := by decide +kernel
theorem dX2_init_24 : decode cX2_init 24 = .ok (.iconst 0, 1) := by decide +kernel
theorem dX2_init_25 : decode cX2_init 25 = .ok (.putfield 22, 3) := by decide +kernel
theorem dX2_init_28 : decode cX2_init 28 = .ok (.aload_n 0, 1) := by decide +kernel
theorem dX2_init_29 : decode cX2_init 29 = .ok (.iconst 0, 1) := by decide +kernel
theorem dX2_init_30 : decode cX2_init 30 = .ok (.putfield 25, 3) := by decide +kernel
theorem dX2_init_33 : decode cX2_init 33 = .ok (.aload_n 0, 1) := by decide +kernel
theorem dX2_init_34 : decode cX2_init 34 = .ok (.iconst 0, 1) := by decide +kernel
theorem dX2_init_35 : decode cX2_init 35 = .ok (.putfield 28, 3) := by decide +kernel
theorem dX2_init_38 : decode cX2_init 38 = .ok (.return_, 1) := by decide +kernel
theorem dX2_look_0 : decode cX2_look 0 = .ok (.aload_n 0, 1) := by decide +kernel
theorem dX2_look_1 : decode cX2_look 1 = .ok (.iconst 0, 1) := by decide +kernel
theorem dX2_look_2 : decode cX2_look 2 = .ok (.putfield 15, 3) := by decide +kernel
theorem dX2_look_5 : decode cX2_look 5 = .ok (.aload_n 0, 1) := by decide +kernel
theorem dX2_look_6 : decode cX2_look 6 = .ok (.iconst 0, 1) := by decide +kernel
theorem dX2_look_7 : decode cX2_look 7 = .ok (.putfield 19, 3) := by decide +kernel
theorem dX2_look_10 : decode cX2_look 10 = .ok (.aload_n 0, 1) := by decide +kernel
theorem dX2_look_11 : decode cX2_look 11 = .ok (.iconst 0, 1) := by decide +kernel
theorem dX2_look_12 : decode cX2_look 12 = .ok (.putfield 22, 3) := by decide +kernel
theorem dX2_look_15 : decode cX2_look 15 = .ok (.aload_n 0, 1) := by decide +kernel
theorem dX2_look_16 : decode cX2_look 16 = .ok (.iconst 0, 1) := by decide +kernel
theorem dX2_look_17 : decode cX2_look 17 = .ok (.putfield 25, 3) := by decide +kernel
theorem dX2_look_20 : decode cX2_look 20 = .ok (.aload_n 0, 1) := by decide +kernel
theorem dX2_look_21 : decode cX2_look 21 = .ok (.iconst 0, 1) := by decide +kernel
theorem dX2_look_22 : decode cX2_look 22 = .ok (.putfield 28, 3) := by decide +kernel
theorem dX2_look_25 : decode cX2_look 25 = .ok (.iconst 1, 1) := by decide +kernel
theorem dX2_look_26 : decode cX2_look 26 = .ok (.istore_n 3, 1) := by decide +kernel
theorem dX2_look_27 : decode cX2_look 27 = .ok (.iload_n 3, 1) := by decide +kernel
theorem dX2_look_28 : decode cX2_look 28 = .ok (.iload_n 2, 1) := by decide +kernel
theorem dX2_look_29 : decode cX2_look 29 = .ok (.if_icmp .ge 34, 3) := by decide +kernel
theorem dX2_look_32 : decode cX2_look 32 = .ok (.iload_n 3, 1) := by decide +kernel
theorem dX2_look_33 : decode cX2_look 33 = .ok (.aload_n 1, 1) := by decide +kernel
theorem dX2_look_34 : decode cX2_look 34 = .ok (.arraylength, 1) := by decide +kernel
theorem dX2_look_35 : decode cX2_look 35 = .ok (.if_icmp .ge 28, 3) := by decide +kernel
theorem dX2_look_38 : decode cX2_look 38 = .ok (.aload_n 1, 1) := by decide +kernel
theorem dX2_look_39 : decode cX2_look 39 = .ok (.iload_n 3, 1) := by decide +kernel
theorem dX2_look_40 : decode cX2_look 40 = .ok (.iconst 1, 1) := by decide +kernel
theorem dX2_look_41 : decode cX2_look 41 = .ok (.isub, 1) := by decide +kernel
theorem dX2_look_42 : decode cX2_look 42 = .ok (.iaload, 1) := by decide +kernel
theorem dX2_look_43 : decode cX2_look 43 = .ok (.ifCond .ge 14, 3) := by decide +kernel
theorem dX2_look_46 : decode cX2_look 46 = .ok (.aload_n 1, 1) := by decide +kernel
theorem dX2_look_47 : decode cX2_look 47 = .ok (.iload_n 3, 1) := by decide +kernel
theorem dX2_look_48 : decode cX2_look 48 = .ok (.iaload, 1) := by decide +kernel
theorem dX2_look_49 : decode cX2_look 49 = .ok (.ifCond .lt 8, 3) := by decide +kernel
theorem dX2_look_52 : decode cX2_look 52 = .ok (.aload_n 0, 1) := by decide +kernel
theorem dX2_look_53 : decode cX2_look 53 = .ok (.iload_n 3, 1) := by decide +kernel
theorem dX2_look_54 : decode cX2_look 54 = .ok (.invokevirtual 31, 3) := by decide +kernel
theorem dX2_look_57 : decode cX2_look 57 = .ok (.iinc 3 1, 3) := by decide +kernel
theorem dX2_look_60 : decode cX2_look 60 = .ok (.goto (-33), 3) := by decide +kernel
theorem dX2_look_63 : decode cX2_look 63 = .ok (.return_, 1) := by decide +kernel
theorem dX2_cross_0 : decode cX2_cross 0 = .ok (.aload_n 0, 1) := by decide +kernel
theorem dX2_cross_1 : decode cX2_cross 1 = .ok (.getfield 15, 3) := by decide +kernel
theorem dX2_cross_4 : decode cX2_cross 4 = .ok (.ifCond .ne 11, 3) := by decide +kernel
theorem dX2_cross_7 : decode cX2_cross 7 = .ok (.aload_n 0, 1) := by decide +kernel
theorem dX2_cross_8 : decode cX2_cross 8 = .ok (.iload_n 1, 1) := by decide +kernel
theorem dX2_cross_9 : decode cX2_cross 9 = .ok (.putfield 19, 3) := by decide +kernel
theorem dX2_cross_12 : decode cX2_cross 12 = .ok (.goto 54, 3) := by decide +kernel
theorem dX2_cross_15 : decode cX2_cross 15 = .ok (.aload_n 0, 1) := by decide +kernel
theorem dX2_cross_16 : decode cX2_cross 16 = .ok (.aload_n 0, 1) := by decide +kernel
theorem dX2_cross_17 : decode cX2_cross 17 = .ok (.getfield 15, 3) := by decide +kernel
theorem dX2_cross_20 : decode cX2_cross 20 = .ok (.iconst 1, 1) := by decide +kernel
theorem dX2_cross_21 : decode cX2_cross 21 = .ok (.if_icmp .ne 12, 3) := by decide +kernel
theorem dX2_cross_24 : decode cX2_cross 24 = .ok (.iload_n 1, 1) := by decide +kernel
theorem dX2_cross_25 : decode cX2_cross 25 = .ok (.aload_n 0, 1) := by decide +kernel
theorem dX2_cross_26 : decode cX2_cross 26 = .ok (.getfield 22, 3) := by decide +kernel
theorem dX2_cross_29 : decode cX2_cross 29 = .ok (.isub, 1) := by decide +kernel
theorem dX2_cross_30 : decode cX2_cross 30 = .ok (.goto 16, 3) := by decide +kernel
theorem dX2_cross_33 : decode cX2_cross 33 = .ok (.aload_n 0, 1) := by decide +kernel
theorem dX2_cross_34 : decode cX2_cross 34 = .ok (.getfield 25, 3) := by decide +kernel
theorem dX2_cross_37 : decode cX2_cross 37 = .ok (.iload_n 1, 1) := by decide +kernel
theorem dX2_cross_38 : decode cX2_cross 38 = .ok (.aload_n 0, 1) := by decide +kernel
theorem dX2_cross_39 : decode cX2_cross 39 = .ok (.getfield 22, 3) := by decide +kernel
theorem dX2_cross_42 : decode cX2_cross 42 = .ok (.isub, 1) := by decide +kernel
theorem dX2_cross_43 : decode cX2_cross 43 = .ok (.invokestatic 35, 3) := by decide +kernel
theorem dX2_cross_46 : decode cX2_cross 46 = .ok (.putfield 25, 3) := by decide +kernel
theorem dX2_cross_49 : decode cX2_cross 49 = .ok (.aload_n 0, 1) := by decide +kernel
theorem dX2_cross_50 : decode cX2_cross 50 = .ok (.aload_n 0, 1) := by decide +kernel
theorem dX2_cross_51 : decode cX2_cross 51 = .ok (.getfield 28, 3) := by decide +kernel
theorem dX2_cross_54 : decode cX2_cross 54 = .ok (.iload_n 1, 1) := by decide +kernel
theorem dX2_cross_55 : decode cX2_cross 55 = .ok (.aload_n 0, 1) := by decide +kernel
theorem dX2_cross_56 : decode cX2_cross 56 = .ok (.getfield 22, 3) := by decide +kernel
theorem dX2_cross_59 : decode cX2_cross 59 = .ok (.isub, 1) := by decide +kernel
theorem dX2_cross_60 : decode cX2_cross 60 = .ok (.invokestatic 41, 3) := by decide +kernel
theorem dX2_cross_63 : decode cX2_cross 63 = .ok (.putfield 28, 3) := by decide +kernel
theorem dX2_cross_66 : decode cX2_cross 66 = .ok (.aload_n 0, 1) := by decide +kernel
theorem dX2_cross_67 : decode cX2_cross 67 = .ok (.iload_n 1, 1) := by decide +kernel
theorem dX2_cross_68 : decode cX2_cross 68 = .ok (.putfield 22, 3) := by decide +kernel
theorem dX2_cross_71 : decode cX2_cross 71 = .ok (.aload_n 0, 1) := by decide +kernel
theorem dX2_cross_72 : decode cX2_cross 72 = .ok (.dup, 1) := by decide +kernel
theorem dX2_cross_73 : decode cX2_cross 73 = .ok (.getfield 15, 3) := by decide +kernel
theorem dX2_cross_76 : decode cX2_cross 76 = .ok (.iconst 1, 1) := by decide +kernel
theorem dX2_cross_77 : decode cX2_cross 77 = .ok (.iadd, 1) := by decide +kernel
theorem dX2_cross_78 : decode cX2_cross 78 = .ok (.putfield 15, 3) := by decide +kernel
theorem dX2_cross_81 : decode cX2_cross 81 = .ok (.return_, 1) := by decide +kernel
theorem dX2_lastLoud_0 : decode cX2_lastLoud 0 = .ok (.sipush 400, 3) := by decide +kernel
theorem dX2_lastLoud_3 : decode cX2_lastLoud 3 = .ok (.istore_n 1, 1) := by decide +kernel
theorem dX2_lastLoud_4 : decode cX2_lastLoud 4 = .ok (.iload_n 1, 1) := by decide +kernel
theorem dX2_lastLoud_5 : decode cX2_lastLoud 5 = .ok (.ifCond .le 37, 3) := by decide +kernel
theorem dX2_lastLoud_8 : decode cX2_lastLoud 8 = .ok (.aload_n 0, 1) := by decide +kernel
theorem dX2_lastLoud_9 : decode cX2_lastLoud 9 = .ok (.getfield 9, 3) := by decide +kernel
theorem dX2_lastLoud_12 : decode cX2_lastLoud 12 = .ok (.iload_n 1, 1) := by decide +kernel
theorem dX2_lastLoud_13 : decode cX2_lastLoud 13 = .ok (.iconst 1, 1) := by decide +kernel
theorem dX2_lastLoud_14 : decode cX2_lastLoud 14 = .ok (.isub, 1) := by decide +kernel
theorem dX2_lastLoud_15 : decode cX2_lastLoud 15 = .ok (.iaload, 1) := by decide +kernel
theorem dX2_lastLoud_16 : decode cX2_lastLoud 16 = .ok (.bipush 100, 2) := by decide +kernel
theorem dX2_lastLoud_18 : decode cX2_lastLoud 18 = .ok (.if_icmp .gt 16, 3) := by decide +kernel
theorem dX2_lastLoud_21 : decode cX2_lastLoud 21 = .ok (.aload_n 0, 1) := by decide +kernel
theorem dX2_lastLoud_22 : decode cX2_lastLoud 22 = .ok (.getfield 9, 3) := by decide +kernel
theorem dX2_lastLoud_25 : decode cX2_lastLoud 25 = .ok (.iload_n 1, 1) := by decide +kernel
theorem dX2_lastLoud_26 : decode cX2_lastLoud 26 = .ok (.iconst 1, 1) := by decide +kernel
theorem dX2_lastLoud_27 : decode cX2_lastLoud 27 = .ok (.isub, 1) := by decide +kernel
theorem dX2_lastLoud_28 : decode cX2_lastLoud 28 = .ok (.iaload, 1) := by decide +kernel
theorem dX2_lastLoud_29 : decode cX2_lastLoud 29 = .ok (.bipush (-100), 2) := by decide +kernel
theorem dX2_lastLoud_31 : decode cX2_lastLoud 31 = .ok (.if_icmp .ge 5, 3) := by decide +kernel
theorem dX2_lastLoud_34 : decode cX2_lastLoud 34 = .ok (.iload_n 1, 1) := by decide +kernel
theorem dX2_lastLoud_35 : decode cX2_lastLoud 35 = .ok (.ireturn, 1) := by decide +kernel
theorem dX2_lastLoud_36 : decode cX2_lastLoud 36 = .ok (.iinc 1 (-1), 3) := by decide +kernel
theorem dX2_lastLoud_39 : decode cX2_lastLoud 39 = .ok (.goto (-35), 3) := by decide +kernel
theorem dX2_lastLoud_42 : decode cX2_lastLoud 42 = .ok (.iconst 0, 1) := by decide +kernel
theorem dX2_lastLoud_43 : decode cX2_lastLoud 43 = .ok (.ireturn, 1) := by decide +kernel
theorem dX2_haveBeat_0 : decode cX2_haveBeat 0 = .ok (.aload_n 0, 1) := by decide +kernel
theorem dX2_haveBeat_1 : decode cX2_haveBeat 1 = .ok (.getfield 15, 3) := by decide +kernel
theorem dX2_haveBeat_4 : decode cX2_haveBeat 4 = .ok (.iconst 2, 1) := by decide +kernel
theorem dX2_haveBeat_5 : decode cX2_haveBeat 5 = .ok (.if_icmp .lt 7, 3) := by decide +kernel
theorem dX2_haveBeat_8 : decode cX2_haveBeat 8 = .ok (.iconst 1, 1) := by decide +kernel
theorem dX2_haveBeat_9 : decode cX2_haveBeat 9 = .ok (.goto 4, 3) := by decide +kernel
theorem dX2_haveBeat_12 : decode cX2_haveBeat 12 = .ok (.iconst 0, 1) := by decide +kernel
theorem dX2_haveBeat_13 : decode cX2_haveBeat 13 = .ok (.ireturn, 1) := by decide +kernel
theorem dX2_cutBeat_0 : decode cX2_cutBeat 0 = .ok (.aload_n 0, 1) := by decide +kernel
theorem dX2_cutBeat_1 : decode cX2_cutBeat 1 = .ok (.invokevirtual 44, 3) := by decide +kernel
theorem dX2_cutBeat_4 : decode cX2_cutBeat 4 = .ok (.ifCond .eq 22, 3) := by decide +kernel
theorem dX2_cutBeat_7 : decode cX2_cutBeat 7 = .ok (.aload_n 0, 1) := by decide +kernel
theorem dX2_cutBeat_8 : decode cX2_cutBeat 8 = .ok (.getfield 22, 3) := by decide +kernel
theorem dX2_cutBeat_11 : decode cX2_cutBeat 11 = .ok (.aload_n 0, 1) := by decide +kernel
theorem dX2_cutBeat_12 : decode cX2_cutBeat 12 = .ok (.getfield 19, 3) := by decide +kernel
theorem dX2_cutBeat_15 : decode cX2_cutBeat 15 = .ok (.isub, 1) := by decide +kernel
theorem dX2_cutBeat_16 : decode cX2_cutBeat 16 = .ok (.aload_n 0, 1) := by decide +kernel
theorem dX2_cutBeat_17 : decode cX2_cutBeat 17 = .ok (.getfield 15, 3) := by decide +kernel
theorem dX2_cutBeat_20 : decode cX2_cutBeat 20 = .ok (.iconst 1, 1) := by decide +kernel
theorem dX2_cutBeat_21 : decode cX2_cutBeat 21 = .ok (.isub, 1) := by decide +kernel
theorem dX2_cutBeat_22 : decode cX2_cutBeat 22 = .ok (.idiv, 1) := by decide +kernel
theorem dX2_cutBeat_23 : decode cX2_cutBeat 23 = .ok (.goto 4, 3) := by decide +kernel
theorem dX2_cutBeat_26 : decode cX2_cutBeat 26 = .ok (.iconst 0, 1) := by decide +kernel
theorem dX2_cutBeat_27 : decode cX2_cutBeat 27 = .ok (.ireturn, 1) := by decide +kernel
theorem dX3_init_0 : decode cX3_init 0 = .ok (.aload_n 0, 1) := by decide +kernel
theorem dX3_init_1 : decode cX3_init 1 = .ok (.invokespecial 1, 3) := by decide +kernel
theorem dX3_init_4 : decode cX3_init 4 = .ok (.aload_n 0, 1) := by decide +kernel
theorem dX3_init_5 : decode cX3_init 5 = .ok (.lconst 0, 1) := by decide +kernel
theorem dX3_init_6 : decode cX3_init 6 = .ok (.putfield 7, 3) := by decide +kernel
theorem dX3_init_9 : decode cX3_init 9 = .ok (.aload_n 0, 1) := by decide +kernel
theorem dX3_init_10 : decode cX3_init 10 = .ok (.lconst 1, 1) := by decide +kernel
theorem dX3_init_11 : decode cX3_init 11 = .ok (.putfield 13, 3) := by decide +kernel
theorem dX3_init_14 : decode cX3_init 14 = .ok (.return_, 1) := by decide +kernel
theorem dX3_tell_0 : decode cX3_tell 0 = .ok (.iconst 1, 1) := by decide +kernel
theorem dX3_tell_1 : decode cX3_tell 1 = .ok (.iload_n 1, 1) := by decide +kernel
theorem dX3_tell_2 : decode cX3_tell 2 = .ok (.iload_n 2, 1) := by decide +kernel
theorem dX3_tell_3 : decode cX3_tell 3 = .ok (.invokestatic 16, 3) := by decide +kernel
theorem dX3_tell_6 : decode cX3_tell 6 = .ok (.invokestatic 20, 3) := by decide +kernel
theorem dX3_tell_9 : decode cX3_tell 9 = .ok (.istore_n 3, 1) := by decide +kernel
theorem dX3_tell_10 : decode cX3_tell 10 = .ok (.aload_n 0, 1) := by decide +kernel
theorem dX3_tell_11 : decode cX3_tell 11 = .ok (.iload_n 1, 1) := by decide +kernel
theorem dX3_tell_12 : decode cX3_tell 12 = .ok (.iload_n 3, 1) := by decide +kernel
theorem dX3_tell_13 : decode cX3_tell 13 = .ok (.idiv, 1) := by decide +kernel
theorem dX3_tell_14 : decode cX3_tell 14 = .ok (.i2l, 1) := by decide +kernel
theorem dX3_tell_15 : decode cX3_tell 15 = .ok (.putfield 7, 3) := by decide +kernel
theorem dX3_tell_18 : decode cX3_tell 18 = .ok (.aload_n 0, 1) := by decide +kernel
theorem dX3_tell_19 : decode cX3_tell 19 = .ok (.iconst 1, 1) := by decide +kernel
theorem dX3_tell_20 : decode cX3_tell 20 = .ok (.iload_n 2, 1) := by decide +kernel
theorem dX3_tell_21 : decode cX3_tell 21 = .ok (.iload_n 3, 1) := by decide +kernel
theorem dX3_tell_22 : decode cX3_tell 22 = .ok (.idiv, 1) := by decide +kernel
theorem dX3_tell_23 : decode cX3_tell 23 = .ok (.invokestatic 20, 3) := by decide +kernel
theorem dX3_tell_26 : decode cX3_tell 26 = .ok (.i2l, 1) := by decide +kernel
theorem dX3_tell_27 : decode cX3_tell 27 = .ok (.putfield 13, 3) := by decide +kernel
theorem dX3_tell_30 : decode cX3_tell 30 = .ok (.return_, 1) := by decide +kernel
theorem dX3_divisor_0 : decode cX3_divisor 0 = .ok (.iload_n 0, 1) := by decide +kernel
theorem dX3_divisor_1 : decode cX3_divisor 1 = .ok (.istore_n 2, 1) := by decide +kernel
theorem dX3_divisor_2 : decode cX3_divisor 2 = .ok (.iload_n 1, 1) := by decide +kernel
theorem dX3_divisor_3 : decode cX3_divisor 3 = .ok (.istore_n 3, 1) := by decide +kernel
theorem dX3_divisor_4 : decode cX3_divisor 4 = .ok (.iconst 0, 1) := by decide +kernel
theorem dX3_divisor_5 : decode cX3_divisor 5 = .ok (.istore 4, 2) := by decide +kernel
theorem dX3_divisor_7 : decode cX3_divisor 7 = .ok (.iload 4, 2) := by decide +kernel
theorem dX3_divisor_9 : decode cX3_divisor 9 = .ok (.bipush 64, 2) := by decide +kernel
theorem dX3_divisor_11 : decode cX3_divisor 11 = .ok (.if_icmp .ge 23, 3) := by decide +kernel
theorem dX3_divisor_14 : decode cX3_divisor 14 = .ok (.iload_n 3, 1) := by decide +kernel
theorem dX3_divisor_15 : decode cX3_divisor 15 = .ok (.ifCond .eq 19, 3) := by decide +kernel
theorem dX3_divisor_18 : decode cX3_divisor 18 = .ok (.iload_n 2, 1) := by decide +kernel
theorem dX3_divisor_19 : decode cX3_divisor 19 = .ok (.iload_n 3, 1) := by decide +kernel
theorem dX3_divisor_20 : decode cX3_divisor 20 = .ok (.irem, 1) := by decide +kernel
theorem dX3_divisor_21 : decode cX3_divisor 21 = .ok (.istore 5, 2) := by decide +kernel
theorem dX3_divisor_23 : decode cX3_divisor 23 = .ok (.iload_n 3, 1) := by decide +kernel
theorem dX3_divisor_24 : decode cX3_divisor 24 = .ok (.istore_n 2, 1) := by decide +kernel
theorem dX3_divisor_25 : decode cX3_divisor 25 = .ok (.iload 5, 2) := by decide +kernel
theorem dX3_divisor_27 : decode cX3_divisor 27 = .ok (.istore_n 3, 1) := by decide +kernel
theorem dX3_divisor_28 : decode cX3_divisor 28 = .ok (.iinc 4 1, 3) := by decide +kernel
theorem dX3_divisor_31 : decode cX3_divisor 31 = .ok (.goto (-24), 3) := by decide +kernel
theorem dX3_divisor_34 : decode cX3_divisor 34 = .ok (.iload_n 2, 1) := by decide +kernel
theorem dX3_divisor_35 : decode cX3_divisor 35 = .ok (.invokestatic 25, 3) := by decide +kernel
theorem dX3_divisor_38 : decode cX3_divisor 38 = .ok (.ireturn, 1) := by decide +kernel
theorem dX4_init_0 : decode cX4_init 0 = .ok (.aload_n 0, 1) := by decide +kernel
theorem dX4_init_1 : decode cX4_init 1 = .ok (.invokespecial 3, 3) := by decide +kernel
theorem dX4_init_4 : decode cX4_init 4 = .ok (.aload_n 0, 1) := by decide +kernel
theorem dX4_init_5 : decode cX4_init 5 = .ok (.bipush 100, 2) := by decide +kernel
theorem dX4_init_7 : decode cX4_init 7 = .ok (.newarray .byte, 2) := by decide +kernel
theorem dX4_init_9 : decode cX4_init 9 = .ok (.putfield 9, 3) := by decide +kernel
theorem dX4_init_12 : decode cX4_init 12 = .ok (.aload_n 0, 1) := by decide +kernel
theorem dX4_init_13 : decode cX4_init 13 = .ok (.iconst 0, 1) := by decide +kernel
theorem dX4_init_14 : decode cX4_init 14 = .ok (.putfield 15, 3) := by decide +kernel
theorem dX4_init_17 : decode cX4_init 17 = .ok (.aload_n 0, 1) := by decide +kernel
theorem dX4_init_18 : decode cX4_init 18 = .ok (.iconst 0, 1) := by decide +kernel
theorem dX4_init_19 : decode cX4_init 19 = .ok (.putfield 19, 3) := by decide +kernel
theorem dX4_init_22 : decode cX4_init 22 = .ok (.return_, 1) := by decide +kernel
theorem dX4_renew_0 : decode cX4_renew 0 = .ok (.aload_n 0, 1) := by decide +kernel
theorem dX4_renew_1 : decode cX4_renew 1 = .ok (.iconst 0, 1) := by decide +kernel
theorem dX4_renew_2 : decode cX4_renew 2 = .ok (.iload_n 1, 1) := by decide +kernel
theorem dX4_renew_3 : decode cX4_renew 3 = .ok (.bipush 100, 2) := by decide +kernel
theorem dX4_renew_5 : decode cX4_renew 5 = .ok (.invokestatic 23, 3) := by decide +kernel
theorem dX4_renew_8 : decode cX4_renew 8 = .ok (.invokestatic 29, 3) := by decide +kernel
theorem dX4_renew_11 : decode cX4_renew 11 = .ok (.putfield 15, 3) := by decide +kernel
theorem dX4_renew_14 : decode cX4_renew 14 = .ok (.aload_n 0, 1) := by decide +kernel
theorem dX4_renew_15 : decode cX4_renew 15 = .ok (.iconst 1, 1) := by decide +kernel
theorem dX4_renew_16 : decode cX4_renew 16 = .ok (.putfield 19, 3) := by decide +kernel
theorem dX4_renew_19 : decode cX4_renew 19 = .ok (.iconst 0, 1) := by decide +kernel
theorem dX4_renew_20 : decode cX4_renew 20 = .ok (.istore_n 2, 1) := by decide +kernel
theorem dX4_renew_21 : decode cX4_renew 21 = .ok (.iload_n 2, 1) := by decide +kernel
theorem dX4_renew_22 : decode cX4_renew 22 = .ok (.aload_n 0, 1) := by decide +kernel
theorem dX4_renew_23 : decode cX4_renew 23 = .ok (.getfield 15, 3) := by decide +kernel
theorem dX4_renew_26 : decode cX4_renew 26 = .ok (.if_icmp .ge 17, 3) := by decide +kernel
theorem dX4_renew_29 : decode cX4_renew 29 = .ok (.aload_n 0, 1) := by decide +kernel
theorem dX4_renew_30 : decode cX4_renew 30 = .ok (.getfield 9, 3) := by decide +kernel
theorem dX4_renew_33 : decode cX4_renew 33 = .ok (.iload_n 2, 1) := by decide +kernel
theorem dX4_renew_34 : decode cX4_renew 34 = .ok (.bipush 32, 2) := by decide +kernel
theorem dX4_renew_36 : decode cX4_renew 36 = .ok (.bastore, 1) := by decide +kernel
theorem dX4_renew_37 : decode cX4_renew 37 = .ok (.iinc 2 1, 3) := by decide +kernel
theorem dX4_renew_40 : decode cX4_renew 40 = .ok (.goto (-19), 3) := by decide +kernel
theorem dX4_renew_43 : decode cX4_renew 43 = .ok (.return_, 1) := by decide +kernel
theorem dX4_has_0 : decode cX4_has 0 = .ok (.iload_n 1, 1) := by decide +kernel
theorem dX4_has_1 : decode cX4_has 1 = .ok (.ifCond .lt 15, 3) := by decide +kernel
theorem dX4_has_4 : decode cX4_has 4 = .ok (.iload_n 1, 1) := by decide +kernel
theorem dX4_has_5 : decode cX4_has 5 = .ok (.aload_n 0, 1) := by decide +kernel
theorem dX4_has_6 : decode cX4_has 6 = .ok (.getfield 15, 3) := by decide +kernel
theorem dX4_has_9 : decode cX4_has 9 = .ok (.if_icmp .ge 7, 3) := by decide +kernel
theorem dX4_has_12 : decode cX4_has 12 = .ok (.iconst 1, 1) := by decide +kernel
theorem dX4_has_13 : decode cX4_has 13 = .ok (.goto 4, 3) := by decide +kernel
theorem dX4_has_16 : decode cX4_has 16 = .ok (.iconst 0, 1) := by decide +kernel
theorem dX4_has_17 : decode cX4_has 17 = .ok (.ireturn, 1) := by decide +kernel
theorem dX4_mixInto_0 : decode cX4_mixInto 0 = .ok (.aload_n 0, 1) := by decide +kernel
theorem dX4_mixInto_1 : decode cX4_mixInto 1 = .ok (.getfield 19, 3) := by decide +kernel
theorem dX4_mixInto_4 : decode cX4_mixInto 4 = .ok (.ifCond .ne 11, 3) := by decide +kernel
theorem dX4_mixInto_7 : decode cX4_mixInto 7 = .ok (.lload_n 1, 1) := by decide +kernel
theorem dX4_mixInto_8 : decode cX4_mixInto 8 = .ok (.ldc2_w 32, 3) := by decide +kernel
theorem dX4_mixInto_11 : decode cX4_mixInto 11 = .ok (.invokestatic 34, 3) := by decide +kernel
theorem dX4_mixInto_14 : decode cX4_mixInto 14 = .ok (.lreturn, 1) := by decide +kernel
theorem dX4_mixInto_15 : decode cX4_mixInto 15 = .ok (.lload_n 1, 1) := by decide +kernel
theorem dX4_mixInto_16 : decode cX4_mixInto 16 = .ok (.aload_n 0, 1) := by decide +kernel
theorem dX4_mixInto_17 : decode cX4_mixInto 17 = .ok (.getfield 15, 3) := by decide +kernel
theorem dX4_mixInto_20 : decode cX4_mixInto 20 = .ok (.i2l, 1) := by decide +kernel
theorem dX4_mixInto_21 : decode cX4_mixInto 21 = .ok (.invokestatic 34, 3) := by decide +kernel
theorem dX4_mixInto_24 : decode cX4_mixInto 24 = .ok (.lstore_n 3, 1) := by decide +kernel
theorem dX4_mixInto_25 : decode cX4_mixInto 25 = .ok (.iconst 0, 1) := by decide +kernel
theorem dX4_mixInto_26 : decode cX4_mixInto 26 = .ok (.istore 5, 2) := by decide +kernel
theorem dX4_mixInto_28 : decode cX4_mixInto 28 = .ok (.iload 5, 2) := by decide +kernel
theorem dX4_mixInto_30 : decode cX4_mixInto 30 = .ok (.aload_n 0, 1) := by decide +kernel
theorem dX4_mixInto_31 : decode cX4_mixInto 31 = .ok (.getfield 15, 3) := by decide +kernel
theorem dX4_mixInto_34 : decode cX4_mixInto 34 = .ok (.if_icmp .ge 22, 3) := by decide +kernel
theorem dX4_mixInto_37 : decode cX4_mixInto 37 = .ok (.lload_n 3, 1) := by decide +kernel
theorem dX4_mixInto_38 : decode cX4_mixInto 38 = .ok (.aload_n 0, 1) := by decide +kernel
theorem dX4_mixInto_39 : decode cX4_mixInto 39 = .ok (.getfield 9, 3) := by decide +kernel
theorem dX4_mixInto_42 : decode cX4_mixInto 42 = .ok (.iload 5, 2) := by decide +kernel
theorem dX4_mixInto_44 : decode cX4_mixInto 44 = .ok (.baload, 1) := by decide +kernel
theorem dX4_mixInto_45 : decode cX4_mixInto 45 = .ok (.i2l, 1) := by decide +kernel
theorem dX4_mixInto_46 : decode cX4_mixInto 46 = .ok (.invokestatic 34, 3) := by decide +kernel
theorem dX4_mixInto_49 : decode cX4_mixInto 49 = .ok (.lstore_n 3, 1) := by decide +kernel
theorem dX4_mixInto_50 : decode cX4_mixInto 50 = .ok (.iinc 5 1, 3) := by decide +kernel
theorem dX4_mixInto_53 : decode cX4_mixInto 53 = .ok (.goto (-25), 3) := by decide +kernel
theorem dX4_mixInto_56 : decode cX4_mixInto 56 = .ok (.lload_n 3, 1) := by decide +kernel
theorem dX4_mixInto_57 : decode cX4_mixInto 57 = .ok (.lreturn, 1) := by decide +kernel
theorem dX5_init_0 : decode cX5_init 0 = .ok (.aload_n 0, 1) := by decide +kernel
theorem dX5_init_1 : decode cX5_init 1 = .ok (.invokespecial 3, 3) := by decide +kernel
theorem dX5_init_4 : decode cX5_init 4 = .ok (.aload_n 0, 1) := by decide +kernel
theorem dX5_init_5 : decode cX5_init 5 = .ok (.new 9, 3) := by decide +kernel
theorem dX5_init_8 : decode cX5_init 8 = .ok (.dup, 1) := by decide +kernel
theorem dX5_init_9 : decode cX5_init 9 = .ok (.invokespecial 11, 3) := by decide +kernel
theorem dX5_init_12 : decode cX5_init 12 = .ok (.putfield 12, 3) := by decide +kernel
theorem dX5_init_15 : decode cX5_init 15 = .ok (.aload_n 0, 1) := by decide +kernel
theorem dX5_init_16 : decode cX5_init 16 = .ok (.iconst 0, 1) := by decide +kernel
theorem dX5_init_17 : decode cX5_init 17 = .ok (.putfield 18, 3) := by decide +kernel
theorem dX5_init_20 : decode cX5_init 20 = .ok (.aload_n 0, 1) := by decide +kernel
theorem dX5_init_21 : decode cX5_init 21 = .ok (.iconst 0, 1) := by decide +kernel
theorem dX5_init_22 : decode cX5_init 22 = .ok (.putfield 22, 3) := by decide +kernel
theorem dX5_init_25 : decode cX5_init 25 = .ok (.aload_n 0, 1) := by decide +kernel
theorem dX5_init_26 : decode cX5_init 26 = .ok (.iconst 1, 1) := by decide +kernel
theorem dX5_init_27 : decode cX5_init 27 = .ok (.iload_n 1, 1) := by decide +kernel
theorem dX5_init_28 : decode cX5_init 28 = .ok (.invokestatic 26, 3) := by decide +kernel
theorem dX5_init_31 : decode cX5_init 31 = .ok (.anewarray 32, 3) := by decide +kernel
theorem dX5_init_34 : decode cX5_init 34 = .ok (.putfield 34, 3) := by decide +kernel
theorem dX5_init_37 : decode cX5_init 37 = .ok (.iconst 0, 1) := by decide +kernel
theorem dX5_init_38 : decode cX5_init 38 = .ok (.istore_n 2, 1) := by decide +kernel
theorem dX5_init_39 : decode cX5_init 39 = .ok (.iload_n 2, 1) := by decide +kernel
theorem dX5_init_40 : decode cX5_init 40 = .ok (.aload_n 0, 1) := by decide +kernel
theorem dX5_init_41 : decode cX5_init 41 = .ok (.getfield 34, 3) := by decide +kernel
theorem dX5_init_44 : decode cX5_init 44 = .ok (.arraylength, 1) := by decide +kernel
theorem dX5_init_45 : decode cX5_init 45 = .ok (.if_icmp .ge 22, 3) := by decide +kernel
theorem dX5_init_48 : decode cX5_init 48 = .ok (.aload_n 0, 1) := by decide +kernel
theorem dX5_init_49 : decode cX5_init 49 = .ok (.getfield 34, 3) := by decide +kernel
theorem dX5_init_52 : decode cX5_init 52 = .ok (.iload_n 2, 1) := by decide +kernel
theorem dX5_init_53 : decode cX5_init 53 = .ok (.new 32, 3) := by decide +kernel
theorem dX5_init_56 : decode cX5_init 56 = .ok (.dup, 1) := by decide +kernel
theorem dX5_init_57 : decode cX5_init 57 = .ok (.invokespecial 38, 3) := by decide +kernel
theorem dX5_init_60 : decode cX5_init 60 = .ok (.aastore, 1) := by decide +kernel
theorem dX5_init_61 : decode cX5_init 61 = .ok (.iinc 2 1, 3) := by decide +kernel
theorem dX5_init_64 : decode cX5_init 64 = .ok (.goto (-25), 3) := by decide +kernel
theorem dX5_init_67 : decode cX5_init 67 = .ok (.return_, 1) := by decide +kernel
theorem dX5_clear_0 : decode cX5_clear 0 = .ok (.aload_n 0, 1) := by decide +kernel
theorem dX5_clear_1 : decode cX5_clear 1 = .ok (.iconst 0, 1) := by decide +kernel
theorem dX5_clear_2 : decode cX5_clear 2 = .ok (.putfield 18, 3) := by decide +kernel
theorem dX5_clear_5 : decode cX5_clear 5 = .ok (.return_, 1) := by decide +kernel
theorem dX5_moor_0 : decode cX5_moor 0 = .ok (.aload_n 0, 1) := by decide +kernel
theorem dX5_moor_1 : decode cX5_moor 1 = .ok (.getfield 18, 3) := by decide +kernel
theorem dX5_moor_4 : decode cX5_moor 4 = .ok (.ifCond .lt 76, 3) := by decide +kernel
theorem dX5_moor_7 : decode cX5_moor 7 = .ok (.aload_n 0, 1) := by decide +kernel
theorem dX5_moor_8 : decode cX5_moor 8 = .ok (.getfield 18, 3) := by decide +kernel
theorem dX5_moor_11 : decode cX5_moor 11 = .ok (.aload_n 0, 1) := by decide +kernel
theorem dX5_moor_12 : decode cX5_moor 12 = .ok (.getfield 34, 3) := by decide +kernel
theorem dX5_moor_15 : decode cX5_moor 15 = .ok (.arraylength, 1) := by decide +kernel
theorem dX5_moor_16 : decode cX5_moor 16 = .ok (.if_icmp .ge 64, 3) := by decide +kernel
theorem dX5_moor_19 : decode cX5_moor 19 = .ok (.aload_n 0, 1) := by decide +kernel
theorem dX5_moor_20 : decode cX5_moor 20 = .ok (.getfield 34, 3) := by decide +kernel
theorem dX5_moor_23 : decode cX5_moor 23 = .ok (.aload_n 0, 1) := by decide +kernel
theorem dX5_moor_24 : decode cX5_moor 24 = .ok (.getfield 18, 3) := by decide +kernel
theorem dX5_moor_27 : decode cX5_moor 27 = .ok (.aaload, 1) := by decide +kernel
theorem dX5_moor_28 : decode cX5_moor 28 = .ok (.aload_n 1, 1) := by decide +kernel
theorem dX5_moor_29 : decode cX5_moor 29 = .ok (.invokevirtual 39, 3) := by decide +kernel
theorem dX5_moor_32 : decode cX5_moor 32 = .ok (.aload_n 0, 1) := by decide +kernel
theorem dX5_moor_33 : decode cX5_moor 33 = .ok (.getfield 34, 3) := by decide +kernel
theorem dX5_moor_36 : decode cX5_moor 36 = .ok (.aload_n 0, 1) := by decide +kernel
theorem dX5_moor_37 : decode cX5_moor 37 = .ok (.getfield 18, 3) := by decide +kernel
theorem dX5_moor_40 : decode cX5_moor 40 = .ok (.aaload, 1) := by decide +kernel
theorem dX5_moor_41 : decode cX5_moor 41 = .ok (.iload_n 2, 1) := by decide +kernel
theorem dX5_moor_42 : decode cX5_moor 42 = .ok (.putfield 43, 3) := by decide +kernel
theorem dX5_moor_45 : decode cX5_moor 45 = .ok (.aload_n 0, 1) := by decide +kernel
theorem dX5_moor_46 : decode cX5_moor 46 = .ok (.getfield 34, 3) := by decide +kernel
theorem dX5_moor_49 : decode cX5_moor 49 = .ok (.aload_n 0, 1) := by decide +kernel
theorem dX5_moor_50 : decode cX5_moor 50 = .ok (.getfield 18, 3) := by decide +kernel
theorem dX5_moor_53 : decode cX5_moor 53 = .ok (.aaload, 1) := by decide +kernel
theorem dX5_moor_54 : decode cX5_moor 54 = .ok (.iload_n 3, 1) := by decide +kernel
theorem dX5_moor_55 : decode cX5_moor 55 = .ok (.putfield 46, 3) := by decide +kernel
theorem dX5_moor_58 : decode cX5_moor 58 = .ok (.aload_n 0, 1) := by decide +kernel
theorem dX5_moor_59 : decode cX5_moor 59 = .ok (.getfield 34, 3) := by decide +kernel
theorem dX5_moor_62 : decode cX5_moor 62 = .ok (.aload_n 0, 1) := by decide +kernel
theorem dX5_moor_63 : decode cX5_moor 63 = .ok (.getfield 18, 3) := by decide +kernel
theorem dX5_moor_66 : decode cX5_moor 66 = .ok (.aaload, 1) := by decide +kernel
theorem dX5_moor_67 : decode cX5_moor 67 = .ok (.invokevirtual 49, 3) := by decide +kernel
theorem dX5_moor_70 : decode cX5_moor 70 = .ok (.aload_n 0, 1) := by decide +kernel
theorem dX5_moor_71 : decode cX5_moor 71 = .ok (.dup, 1) := by decide +kernel
theorem dX5_moor_72 : decode cX5_moor 72 = .ok (.getfield 18, 3) := by decide +kernel
theorem dX5_moor_75 : decode cX5_moor 75 = .ok (.iconst 1, 1) := by decide +kernel
theorem dX5_moor_76 : decode cX5_moor 76 = .ok (.iadd, 1) := by decide +kernel
theorem dX5_moor_77 : decode cX5_moor 77 = .ok (.putfield 18, 3) := by decide +kernel
theorem dX5_moor_80 : decode cX5_moor 80 = .ok (.return_, 1) := by decide +kernel
theorem dX5_has_0 : decode cX5_has 0 = .ok (.iload_n 1, 1) := by decide +kernel
theorem dX5_has_1 : decode cX5_has 1 = .ok (.ifCond .lt 36, 3) := by decide +kernel
theorem dX5_has_4 : decode cX5_has 4 = .ok (.iload_n 1, 1) := by decide +kernel
theorem dX5_has_5 : decode cX5_has 5 = .ok (.aload_n 0, 1) := by decide +kernel
theorem dX5_has_6 : decode cX5_has 6 = .ok (.getfield 18, 3) := by decide +kernel
theorem dX5_has_9 : decode cX5_has 9 = .ok (.if_icmp .ge 28, 3) := by decide +kernel
theorem dX5_has_12 : decode cX5_has 12 = .ok (.iload_n 1, 1) := by decide +kernel
theorem dX5_has_13 : decode cX5_has 13 = .ok (.aload_n 0, 1) := by decide +kernel
theorem dX5_has_14 : decode cX5_has 14 = .ok (.getfield 34, 3) := by decide +kernel
theorem dX5_has_17 : decode cX5_has 17 = .ok (.arraylength, 1) := by decide +kernel
theorem dX5_has_18 : decode cX5_has 18 = .ok (.if_icmp .ge 19, 3) := by decide +kernel
theorem dX5_has_21 : decode cX5_has 21 = .ok (.aload_n 0, 1) := by decide +kernel
theorem dX5_has_22 : decode cX5_has 22 = .ok (.getfield 34, 3) := by decide +kernel
theorem dX5_has_25 : decode cX5_has 25 = .ok (.iload_n 1, 1) := by decide +kernel
theorem dX5_has_26 : decode cX5_has 26 = .ok (.aaload, 1) := by decide +kernel
theorem dX5_has_27 : decode cX5_has 27 = .ok (.getfield 52, 3) := by decide +kernel
theorem dX5_has_30 : decode cX5_has 30 = .ok (.ifCond .eq 7, 3) := by decide +kernel
theorem dX5_has_33 : decode cX5_has 33 = .ok (.iconst 1, 1) := by decide +kernel
theorem dX5_has_34 : decode cX5_has 34 = .ok (.goto 4, 3) := by decide +kernel
theorem dX5_has_37 : decode cX5_has 37 = .ok (.iconst 0, 1) := by decide +kernel
theorem dX5_has_38 : decode cX5_has 38 = .ok (.ireturn, 1) := by decide +kernel
theorem dX5_begin_0 : decode cX5_begin 0 = .ok (.aload_n 0, 1) := by decide +kernel
theorem dX5_begin_1 : decode cX5_begin 1 = .ok (.iconst 1, 1) := by decide +kernel
theorem dX5_begin_2 : decode cX5_begin 2 = .ok (.putfield 22, 3) := by decide +kernel
theorem dX5_begin_5 : decode cX5_begin 5 = .ok (.aload_n 0, 1) := by decide +kernel
theorem dX5_begin_6 : decode cX5_begin 6 = .ok (.getfield 12, 3) := by decide +kernel
theorem dX5_begin_9 : decode cX5_begin 9 = .ok (.aload_n 1, 1) := by decide +kernel
theorem dX5_begin_10 : decode cX5_begin 10 = .ok (.aload_n 2, 1) := by decide +kernel
theorem dX5_begin_11 : decode cX5_begin 11 = .ok (.invokevirtual 53, 3) := by decide +kernel
theorem dX5_begin_14 : decode cX5_begin 14 = .ok (.return_, 1) := by decide +kernel
theorem dX5_pass_0 : decode cX5_pass 0 = .ok (.iconst 0, 1) := by decide +kernel
theorem dX5_pass_1 : decode cX5_pass 1 = .ok (.istore_n 2, 1) := by decide +kernel
theorem dX5_pass_2 : decode cX5_pass 2 = .ok (.iload_n 2, 1) := by decide +kernel
theorem dX5_pass_3 : decode cX5_pass 3 = .ok (.iload_n 1, 1) := by decide +kernel
theorem dX5_pass_4 : decode cX5_pass 4 = .ok (.if_icmp .ge 93, 3) := by decide +kernel
theorem dX5_pass_7 : decode cX5_pass 7 = .ok (.aload_n 0, 1) := by decide +kernel
theorem dX5_pass_8 : decode cX5_pass 8 = .ok (.getfield 12, 3) := by decide +kernel
theorem dX5_pass_11 : decode cX5_pass 11 = .ok (.getfield 57, 3) := by decide +kernel
theorem dX5_pass_14 : decode cX5_pass 14 = .ok (.istore_n 3, 1) := by decide +kernel
theorem dX5_pass_15 : decode cX5_pass 15 = .ok (.aload_n 0, 1) := by decide +kernel
theorem dX5_pass_16 : decode cX5_pass 16 = .ok (.getfield 12, 3) := by decide +kernel
theorem dX5_pass_19 : decode cX5_pass 19 = .ok (.invokevirtual 60, 3) := by decide +kernel
theorem dX5_pass_22 : decode cX5_pass 22 = .ok (.iconst 0, 1) := by decide +kernel
theorem dX5_pass_23 : decode cX5_pass 23 = .ok (.istore 4, 2) := by decide +kernel
theorem dX5_pass_25 : decode cX5_pass 25 = .ok (.iload 4, 2) := by decide +kernel
theorem dX5_pass_27 : decode cX5_pass 27 = .ok (.aload_n 0, 1) := by decide +kernel
theorem dX5_pass_28 : decode cX5_pass 28 = .ok (.getfield 18, 3) := by decide +kernel
theorem dX5_pass_31 : decode cX5_pass 31 = .ok (.if_icmp .ge 60, 3) := by decide +kernel
theorem dX5_pass_34 : decode cX5_pass 34 = .ok (.iload 4, 2) := by decide +kernel
theorem dX5_pass_36 : decode cX5_pass 36 = .ok (.aload_n 0, 1) := by decide +kernel
theorem dX5_pass_37 : decode cX5_pass 37 = .ok (.getfield 34, 3) := by decide +kernel
theorem dX5_pass_40 : decode cX5_pass 40 = .ok (.arraylength, 1) := by decide +kernel
theorem dX5_pass_41 : decode cX5_pass 41 = .ok (.if_icmp .ge 50, 3) := by decide +kernel
theorem dX5_pass_44 : decode cX5_pass 44 = .ok (.aload_n 0, 1) := by decide +kernel
theorem dX5_pass_45 : decode cX5_pass 45 = .ok (.getfield 34, 3) := by decide +kernel
theorem dX5_pass_48 : decode cX5_pass 48 = .ok (.iload 4, 2) := by decide +kernel
theorem dX5_pass_50 : decode cX5_pass 50 = .ok (.aaload, 1) := by decide +kernel
theorem dX5_pass_51 : decode cX5_pass 51 = .ok (.getfield 52, 3) := by decide +kernel
theorem dX5_pass_54 : decode cX5_pass 54 = .ok (.ifCond .eq 31, 3) := by decide +kernel
theorem dX5_pass_57 : decode cX5_pass 57 = .ok (.aload_n 0, 1) := by decide +kernel
theorem dX5_pass_58 : decode cX5_pass 58 = .ok (.getfield 34, 3) := by decide +kernel
theorem dX5_pass_61 : decode cX5_pass 61 = .ok (.iload 4, 2) := by decide +kernel
theorem dX5_pass_63 : decode cX5_pass 63 = .ok (.aaload, 1) := by decide +kernel
theorem dX5_pass_64 : decode cX5_pass 64 = .ok (.aload_n 0, 1) := by decide +kernel
theorem dX5_pass_65 : decode cX5_pass 65 = .ok (.getfield 12, 3) := by decide +kernel
theorem dX5_pass_68 : decode cX5_pass 68 = .ok (.aload_n 0, 1) := by decide +kernel
theorem dX5_pass_69 : decode cX5_pass 69 = .ok (.getfield 34, 3) := by decide +kernel
theorem dX5_pass_72 : decode cX5_pass 72 = .ok (.iload 4, 2) := by decide +kernel
theorem dX5_pass_74 : decode cX5_pass 74 = .ok (.aaload, 1) := by decide +kernel
theorem dX5_pass_75 : decode cX5_pass 75 = .ok (.getfield 43, 3) := by decide +kernel
theorem dX5_pass_78 : decode cX5_pass 78 = .ok (.invokevirtual 63, 3) := by decide +kernel
theorem dX5_pass_81 : decode cX5_pass 81 = .ok (.iload_n 3, 1) := by decide +kernel
theorem dX5_pass_82 : decode cX5_pass 82 = .ok (.invokevirtual 67, 3) := by decide +kernel
theorem dX5_pass_85 : decode cX5_pass 85 = .ok (.iinc 4 1, 3) := by decide +kernel
theorem dX5_pass_88 : decode cX5_pass 88 = .ok (.goto (-63), 3) := by decide +kernel
theorem dX5_pass_91 : decode cX5_pass 91 = .ok (.iinc 2 1, 3) := by decide +kernel
theorem dX5_pass_94 : decode cX5_pass 94 = .ok (.goto (-92), 3) := by decide +kernel
theorem dX5_pass_97 : decode cX5_pass 97 = .ok (.return_, 1) := by decide +kernel
theorem dX5_wake_0 : decode cX5_wake 0 = .ok (.aload_n 0, 1) := by decide +kernel
theorem dX5_wake_1 : decode cX5_wake 1 = .ok (.aload_n 1, 1) := by decide +kernel
theorem dX5_wake_2 : decode cX5_wake 2 = .ok (.aload_n 2, 1) := by decide +kernel
theorem dX5_wake_3 : decode cX5_wake 3 = .ok (.invokevirtual 71, 3) := by decide +kernel
theorem dX5_wake_6 : decode cX5_wake 6 = .ok (.aload_n 0, 1) := by decide +kernel
theorem dX5_wake_7 : decode cX5_wake 7 = .ok (.sipush 300, 3) := by decide +kernel
theorem dX5_wake_10 : decode cX5_wake 10 = .ok (.invokevirtual 72, 3) := by decide +kernel
theorem dX5_wake_13 : decode cX5_wake 13 = .ok (.return_, 1) := by decide +kernel
theorem dX5_pullOf_0 : decode cX5_pullOf 0 = .ok (.aload_n 0, 1) := by decide +kernel
theorem dX5_pullOf_1 : decode cX5_pullOf 1 = .ok (.iload_n 1, 1) := by decide +kernel
theorem dX5_pullOf_2 : decode cX5_pullOf 2 = .ok (.invokevirtual 75, 3) := by decide +kernel
theorem dX5_pullOf_5 : decode cX5_pullOf 5 = .ok (.ifCond .eq 15, 3) := by decide +kernel
theorem dX5_pullOf_8 : decode cX5_pullOf 8 = .ok (.aload_n 0, 1) := by decide +kernel
theorem dX5_pullOf_9 : decode cX5_pullOf 9 = .ok (.getfield 34, 3) := by decide +kernel
theorem dX5_pullOf_12 : decode cX5_pullOf 12 = .ok (.iload_n 1, 1) := by decide +kernel
theorem dX5_pullOf_13 : decode cX5_pullOf 13 = .ok (.aaload, 1) := by decide +kernel
theorem dX5_pullOf_14 : decode cX5_pullOf 14 = .ok (.getfield 79, 3) := by decide +kernel
theorem dX5_pullOf_17 : decode cX5_pullOf 17 = .ok (.goto 4, 3) := by decide +kernel
theorem dX5_pullOf_20 : decode cX5_pullOf 20 = .ok (.iconst 0, 1) := by decide +kernel
theorem dX5_pullOf_21 : decode cX5_pullOf 21 = .ok (.ireturn, 1) := by decide +kernel
theorem dX5_partedOf_0 : decode cX5_partedOf 0 = .ok (.aload_n 0, 1) := by decide +kernel
theorem dX5_partedOf_1 : decode cX5_partedOf 1 = .ok (.iload_n 1, 1) := by decide +kernel
theorem dX5_partedOf_2 : decode cX5_partedOf 2 = .ok (.invokevirtual 75, 3) := by decide +kernel
theorem dX5_partedOf_5 : decode cX5_partedOf 5 = .ok (.ifCond .eq 15, 3) := by decide +kernel
theorem dX5_partedOf_8 : decode cX5_partedOf 8 = .ok (.aload_n 0, 1) := by decide +kernel
theorem dX5_partedOf_9 : decode cX5_partedOf 9 = .ok (.getfield 34, 3) := by decide +kernel
theorem dX5_partedOf_12 : decode cX5_partedOf 12 = .ok (.iload_n 1, 1) := by decide +kernel
theorem dX5_partedOf_13 : decode cX5_partedOf 13 = .ok (.aaload, 1) := by decide +kernel
theorem dX5_partedOf_14 : decode cX5_partedOf 14 = .ok (.getfield 82, 3) := by decide +kernel
theorem dX5_partedOf_17 : decode cX5_partedOf 17 = .ok (.goto 5, 3) := by decide +kernel
theorem dX5_partedOf_20 : decode cX5_partedOf 20 = .ok (.bipush (-9), 2) := by decide +kernel
theorem dX5_partedOf_22 : decode cX5_partedOf 22 = .ok (.ireturn, 1) := by decide +kernel
theorem dX5_leastPulled_0 : decode cX5_leastPulled 0 = .ok (.iconst 0, 1) := by decide +kernel
theorem dX5_leastPulled_1 : decode cX5_leastPulled 1 = .ok (.istore_n 1, 1) := by decide +kernel
theorem dX5_leastPulled_2 : decode cX5_leastPulled 2 = .ok (.iconst 1, 1) := by decide +kernel
theorem dX5_leastPulled_3 : decode cX5_leastPulled 3 = .ok (.istore_n 2, 1) := by decide +kernel
theorem dX5_leastPulled_4 : decode cX5_leastPulled 4 = .ok (.iload_n 2, 1) := by decide +kernel
theorem dX5_leastPulled_5 : decode cX5_leastPulled 5 = .ok (.aload_n 0, 1) := by decide +kernel
theorem dX5_leastPulled_6 : decode cX5_leastPulled 6 = .ok (.getfield 18, 3) := by decide +kernel
theorem dX5_leastPulled_9 : decode cX5_leastPulled 9 = .ok (.if_icmp .ge 28, 3) := by decide +kernel
theorem dX5_leastPulled_12 : decode cX5_leastPulled 12 = .ok (.aload_n 0, 1) := by decide +kernel
theorem dX5_leastPulled_13 : decode cX5_leastPulled 13 = .ok (.iload_n 2, 1) := by decide +kernel
theorem dX5_leastPulled_14 : decode cX5_leastPulled 14 = .ok (.invokevirtual 85, 3) := by decide +kernel
theorem dX5_leastPulled_17 : decode cX5_leastPulled 17 = .ok (.aload_n 0, 1) := by decide +kernel
theorem dX5_leastPulled_18 : decode cX5_leastPulled 18 = .ok (.iload_n 1, 1) := by decide +kernel
theorem dX5_leastPulled_19 : decode cX5_leastPulled 19 = .ok (.invokevirtual 85, 3) := by decide +kernel
theorem dX5_leastPulled_22 : decode cX5_leastPulled 22 = .ok (.if_icmp .ge 7, 3) := by decide +kernel
theorem dX5_leastPulled_25 : decode cX5_leastPulled 25 = .ok (.iload_n 2, 1) := by decide +kernel
theorem dX5_leastPulled_26 : decode cX5_leastPulled 26 = .ok (.goto 4, 3) := by decide +kernel
theorem dX5_leastPulled_29 : decode cX5_leastPulled 29 = .ok (.iload_n 1, 1) := by decide +kernel
theorem dX5_leastPulled_30 : decode cX5_leastPulled 30 = .ok (.istore_n 1, 1) := by decide +kernel
theorem dX5_leastPulled_31 : decode cX5_leastPulled 31 = .ok (.iinc 2 1, 3) := by decide +kernel
theorem dX5_leastPulled_34 : decode cX5_leastPulled 34 = .ok (.goto (-30), 3) := by decide +kernel
theorem dX5_leastPulled_37 : decode cX5_leastPulled 37 = .ok (.iload_n 1, 1) := by decide +kernel
theorem dX5_leastPulled_38 : decode cX5_leastPulled 38 = .ok (.ireturn, 1) := by decide +kernel
theorem dX5_take_0 : decode cX5_take 0 = .ok (.aload_n 0, 1) := by decide +kernel
theorem dX5_take_1 : decode cX5_take 1 = .ok (.aload_n 1, 1) := by decide +kernel
theorem dX5_take_2 : decode cX5_take 2 = .ok (.getfield 22, 3) := by decide +kernel
theorem dX5_take_5 : decode cX5_take 5 = .ok (.putfield 22, 3) := by decide +kernel
theorem dX5_take_8 : decode cX5_take 8 = .ok (.aload_n 0, 1) := by decide +kernel
theorem dX5_take_9 : decode cX5_take 9 = .ok (.getfield 12, 3) := by decide +kernel
theorem dX5_take_12 : decode cX5_take 12 = .ok (.aload_n 1, 1) := by decide +kernel
theorem dX5_take_13 : decode cX5_take 13 = .ok (.getfield 12, 3) := by decide +kernel
theorem dX5_take_16 : decode cX5_take 16 = .ok (.invokevirtual 88, 3) := by decide +kernel
theorem dX5_take_19 : decode cX5_take 19 = .ok (.aload_n 0, 1) := by decide +kernel
theorem dX5_take_20 : decode cX5_take 20 = .ok (.aload_n 1, 1) := by decide +kernel
theorem dX5_take_21 : decode cX5_take 21 = .ok (.getfield 18, 3) := by decide +kernel
theorem dX5_take_24 : decode cX5_take 24 = .ok (.aload_n 0, 1) := by decide +kernel
theorem dX5_take_25 : decode cX5_take 25 = .ok (.getfield 34, 3) := by decide +kernel
theorem dX5_take_28 : decode cX5_take 28 = .ok (.arraylength, 1) := by decide +kernel
theorem dX5_take_29 : decode cX5_take 29 = .ok (.invokestatic 91, 3) := by decide +kernel
theorem dX5_take_32 : decode cX5_take 32 = .ok (.putfield 18, 3) := by decide +kernel
theorem dX5_take_35 : decode cX5_take 35 = .ok (.iconst 0, 1) := by decide +kernel
theorem dX5_take_36 : decode cX5_take 36 = .ok (.istore_n 2, 1) := by decide +kernel
theorem dX5_take_37 : decode cX5_take 37 = .ok (.iload_n 2, 1) := by decide +kernel
theorem dX5_take_38 : decode cX5_take 38 = .ok (.aload_n 0, 1) := by decide +kernel
theorem dX5_take_39 : decode cX5_take 39 = .ok (.getfield 18, 3) := by decide +kernel
theorem dX5_take_42 : decode cX5_take 42 = .ok (.if_icmp .ge 33, 3) := by decide +kernel
theorem dX5_take_45 : decode cX5_take 45 = .ok (.iload_n 2, 1) := by decide +kernel
theorem dX5_take_46 : decode cX5_take 46 = .ok (.aload_n 1, 1) := by decide +kernel
theorem dX5_take_47 : decode cX5_take 47 = .ok (.getfield 34, 3) := by decide +kernel
theorem dX5_take_50 : decode cX5_take 50 = .ok (.arraylength, 1) := by decide +kernel
theorem dX5_take_51 : decode cX5_take 51 = .ok (.if_icmp .ge 24, 3) := by decide +kernel
theorem dX5_take_54 : decode cX5_take 54 = .ok (.aload_n 0, 1) := by decide +kernel
theorem dX5_take_55 : decode cX5_take 55 = .ok (.getfield 34, 3) := by decide +kernel
theorem dX5_take_58 : decode cX5_take 58 = .ok (.iload_n 2, 1) := by decide +kernel
theorem dX5_take_59 : decode cX5_take 59 = .ok (.aaload, 1) := by decide +kernel
theorem dX5_take_60 : decode cX5_take 60 = .ok (.aload_n 1, 1) := by decide +kernel
theorem dX5_take_61 : decode cX5_take 61 = .ok (.getfield 34, 3) := by decide +kernel
theorem dX5_take_64 : decode cX5_take 64 = .ok (.iload_n 2, 1) := by decide +kernel
theorem dX5_take_65 : decode cX5_take 65 = .ok (.aaload, 1) := by decide +kernel
theorem dX5_take_66 : decode cX5_take 66 = .ok (.invokevirtual 39, 3) := by decide +kernel
theorem dX5_take_69 : decode cX5_take 69 = .ok (.iinc 2 1, 3) := by decide +kernel
theorem dX5_take_72 : decode cX5_take 72 = .ok (.goto (-35), 3) := by decide +kernel
theorem dX5_take_75 : decode cX5_take 75 = .ok (.return_, 1) := by decide +kernel
theorem dX5_mixInto_0 : decode cX5_mixInto 0 = .ok (.aload_n 0, 1) := by decide +kernel
theorem dX5_mixInto_1 : decode cX5_mixInto 1 = .ok (.getfield 22, 3) := by decide +kernel
theorem dX5_mixInto_4 : decode cX5_mixInto 4 = .ok (.ifCond .ne 11, 3) := by decide +kernel
theorem dX5_mixInto_7 : decode cX5_mixInto 7 = .ok (.lload_n 1, 1) := by decide +kernel
theorem dX5_mixInto_8 : decode cX5_mixInto 8 = .ok (.ldc2_w 94, 3) := by decide +kernel
theorem dX5_mixInto_11 : decode cX5_mixInto 11 = .ok (.invokestatic 96, 3) := by decide +kernel
theorem dX5_mixInto_14 : decode cX5_mixInto 14 = .ok (.lreturn, 1) := by decide +kernel
theorem dX5_mixInto_15 : decode cX5_mixInto 15 = .ok (.lload_n 1, 1) := by decide +kernel
theorem dX5_mixInto_16 : decode cX5_mixInto 16 = .ok (.lstore_n 3, 1) := by decide +kernel
theorem dX5_mixInto_17 : decode cX5_mixInto 17 = .ok (.iconst 0, 1) := by decide +kernel
theorem dX5_mixInto_18 : decode cX5_mixInto 18 = .ok (.istore 5, 2) := by decide +kernel
theorem dX5_mixInto_20 : decode cX5_mixInto 20 = .ok (.iload 5, 2) := by decide +kernel
theorem dX5_mixInto_22 : decode cX5_mixInto 22 = .ok (.aload_n 0, 1) := by decide +kernel
theorem dX5_mixInto_23 : decode cX5_mixInto 23 = .ok (.getfield 12, 3) := by decide +kernel
theorem dX5_mixInto_26 : decode cX5_mixInto 26 = .ok (.getfield 100, 3) := by decide +kernel
theorem dX5_mixInto_29 : decode cX5_mixInto 29 = .ok (.getfield 104, 3) := by decide +kernel
theorem dX5_mixInto_32 : decode cX5_mixInto 32 = .ok (.if_icmp .ge 39, 3) := by decide +kernel
theorem dX5_mixInto_35 : decode cX5_mixInto 35 = .ok (.lload_n 3, 1) := by decide +kernel
theorem dX5_mixInto_36 : decode cX5_mixInto 36 = .ok (.aload_n 0, 1) := by decide +kernel
theorem dX5_mixInto_37 : decode cX5_mixInto 37 = .ok (.getfield 12, 3) := by decide +kernel
theorem dX5_mixInto_40 : decode cX5_mixInto 40 = .ok (.iload 5, 2) := by decide +kernel
theorem dX5_mixInto_42 : decode cX5_mixInto 42 = .ok (.iconst 0, 1) := by decide +kernel
theorem dX5_mixInto_43 : decode cX5_mixInto 43 = .ok (.invokevirtual 109, 3) := by decide +kernel
theorem dX5_mixInto_46 : decode cX5_mixInto 46 = .ok (.i2l, 1) := by decide +kernel
theorem dX5_mixInto_47 : decode cX5_mixInto 47 = .ok (.invokestatic 96, 3) := by decide +kernel
theorem dX5_mixInto_50 : decode cX5_mixInto 50 = .ok (.aload_n 0, 1) := by decide +kernel
theorem dX5_mixInto_51 : decode cX5_mixInto 51 = .ok (.getfield 12, 3) := by decide +kernel
theorem dX5_mixInto_54 : decode cX5_mixInto 54 = .ok (.iload 5, 2) := by decide +kernel
theorem dX5_mixInto_56 : decode cX5_mixInto 56 = .ok (.iconst 1, 1) := by decide +kernel
theorem dX5_mixInto_57 : decode cX5_mixInto 57 = .ok (.invokevirtual 109, 3) := by decide +kernel
theorem dX5_mixInto_60 : decode cX5_mixInto 60 = .ok (.i2l, 1) := by decide +kernel
theorem dX5_mixInto_61 : decode cX5_mixInto 61 = .ok (.invokestatic 96, 3) := by decide +kernel
theorem dX5_mixInto_64 : decode cX5_mixInto 64 = .ok (.lstore_n 3, 1) := by decide +kernel
theorem dX5_mixInto_65 : decode cX5_mixInto 65 = .ok (.iinc 5 1, 3) := by decide +kernel
theorem dX5_mixInto_68 : decode cX5_mixInto 68 = .ok (.goto (-48), 3) := by decide +kernel
theorem dX5_mixInto_71 : decode cX5_mixInto 71 = .ok (.iconst 0, 1) := by decide +kernel
theorem dX5_mixInto_72 : decode cX5_mixInto 72 = .ok (.istore 5, 2) := by decide +kernel
theorem dX5_mixInto_74 : decode cX5_mixInto 74 = .ok (.iload 5, 2) := by decide +kernel
theorem dX5_mixInto_76 : decode cX5_mixInto 76 = .ok (.aload_n 0, 1) := by decide +kernel
theorem dX5_mixInto_77 : decode cX5_mixInto 77 = .ok (.getfield 18, 3) := by decide +kernel
theorem dX5_mixInto_80 : decode cX5_mixInto 80 = .ok (.if_icmp .ge 31, 3) := by decide +kernel
theorem dX5_mixInto_83 : decode cX5_mixInto 83 = .ok (.iload 5, 2) := by decide +kernel
theorem dX5_mixInto_85 : decode cX5_mixInto 85 = .ok (.aload_n 0, 1) := by decide +kernel
theorem dX5_mixInto_86 : decode cX5_mixInto 86 = .ok (.getfield 34, 3) := by decide +kernel
theorem dX5_mixInto_89 : decode cX5_mixInto 89 = .ok (.arraylength, 1) := by decide +kernel
theorem dX5_mixInto_90 : decode cX5_mixInto 90 = .ok (.if_icmp .ge 21, 3) := by decide +kernel
theorem dX5_mixInto_93 : decode cX5_mixInto 93 = .ok (.aload_n 0, 1) := by decide +kernel
theorem dX5_mixInto_94 : decode cX5_mixInto 94 = .ok (.getfield 34, 3) := by decide +kernel
theorem dX5_mixInto_97 : decode cX5_mixInto 97 = .ok (.iload 5, 2) := by decide +kernel
theorem dX5_mixInto_99 : decode cX5_mixInto 99 = .ok (.aaload, 1) := by decide +kernel
theorem dX5_mixInto_100 : decode cX5_mixInto 100 = .ok (.lload_n 3, 1) := by decide +kernel
theorem dX5_mixInto_101 : decode cX5_mixInto 101 = .ok (.invokevirtual 112, 3) := by decide +kernel
theorem dX5_mixInto_104 : decode cX5_mixInto 104 = .ok (.lstore_n 3, 1) := by decide +kernel
theorem dX5_mixInto_105 : decode cX5_mixInto 105 = .ok (.iinc 5 1, 3) := by decide +kernel
theorem dX5_mixInto_108 : decode cX5_mixInto 108 = .ok (.goto (-34), 3) := by decide +kernel
theorem dX5_mixInto_111 : decode cX5_mixInto 111 = .ok (.lload_n 3, 1) := by decide +kernel
theorem dX5_mixInto_112 : decode cX5_mixInto 112 = .ok (.lreturn, 1) := by decide +kernel
theorem dX6_init_0 : decode cX6_init 0 = .ok (.aload_n 0, 1) := by decide +kernel
theorem dX6_init_1 : decode cX6_init 1 = .ok (.invokespecial 3, 3) := by decide +kernel
theorem dX6_init_4 : decode cX6_init 4 = .ok (.aload_n 0, 1) := by decide +kernel
theorem dX6_init_5 : decode cX6_init 5 = .ok (.bipush 60, 2) := by decide +kernel
theorem dX6_init_7 : decode cX6_init 7 = .ok (.newarray .int, 2) := by decide +kernel
theorem dX6_init_9 : decode cX6_init 9 = .ok (.putfield 9, 3) := by decide +kernel
theorem dX6_init_12 : decode cX6_init 12 = .ok (.aload_n 0, 1) := by decide +kernel
theorem dX6_init_13 : decode cX6_init 13 = .ok (.iconst 0, 1) := by decide +kernel
theorem dX6_init_14 : decode cX6_init 14 = .ok (.putfield 15, 3) := by decide +kernel
theorem dX6_init_17 : decode cX6_init 17 = .ok (.aload_n 0, 1) := by decide +kernel
theorem dX6_init_18 : decode cX6_init 18 = .ok (.iconst 0, 1) := by decide +kernel
theorem dX6_init_19 : decode cX6_init 19 = .ok (.putfield 19, 3) := by decide +kernel
theorem dX6_init_22 : decode cX6_init 22 = .ok (.return_, 1) := by decide +kernel
theorem dX6_renew_0 : decode cX6_renew 0 = .ok (.aload_n 0, 1) := by decide +kernel
theorem dX6_renew_1 : decode cX6_renew 1 = .ok (.iconst 0, 1) := by decide +kernel
theorem dX6_renew_2 : decode cX6_renew 2 = .ok (.iload_n 1, 1) := by decide +kernel
theorem dX6_renew_3 : decode cX6_renew 3 = .ok (.bipush 60, 2) := by decide +kernel
theorem dX6_renew_5 : decode cX6_renew 5 = .ok (.invokestatic 23, 3) := by decide +kernel
theorem dX6_renew_8 : decode cX6_renew 8 = .ok (.invokestatic 29, 3) := by decide +kernel
theorem dX6_renew_11 : decode cX6_renew 11 = .ok (.putfield 15, 3) := by decide +kernel
theorem dX6_renew_14 : decode cX6_renew 14 = .ok (.aload_n 0, 1) := by decide +kernel
theorem dX6_renew_15 : decode cX6_renew 15 = .ok (.iconst 1, 1) := by decide +kernel
theorem dX6_renew_16 : decode cX6_renew 16 = .ok (.putfield 19, 3) := by decide +kernel
theorem dX6_renew_19 : decode cX6_renew 19 = .ok (.iconst 0, 1) := by decide +kernel
theorem dX6_renew_20 : decode cX6_renew 20 = .ok (.istore_n 2, 1) := by decide +kernel
theorem dX6_renew_21 : decode cX6_renew 21 = .ok (.iload_n 2, 1) := by decide +kernel
theorem dX6_renew_22 : decode cX6_renew 22 = .ok (.aload_n 0, 1) := by decide +kernel
theorem dX6_renew_23 : decode cX6_renew 23 = .ok (.getfield 15, 3) := by decide +kernel
theorem dX6_renew_26 : decode cX6_renew 26 = .ok (.if_icmp .ge 16, 3) := by decide +kernel
theorem dX6_renew_29 : decode cX6_renew 29 = .ok (.aload_n 0, 1) := by decide +kernel
theorem dX6_renew_30 : decode cX6_renew 30 = .ok (.getfield 9, 3) := by decide +kernel
theorem dX6_renew_33 : decode cX6_renew 33 = .ok (.iload_n 2, 1) := by decide +kernel
theorem dX6_renew_34 : decode cX6_renew 34 = .ok (.iconst 0, 1) := by decide +kernel
theorem dX6_renew_35 : decode cX6_renew 35 = .ok (.iastore, 1) := by decide +kernel
theorem dX6_renew_36 : decode cX6_renew 36 = .ok (.iinc 2 1, 3) := by decide +kernel
theorem dX6_renew_39 : decode cX6_renew 39 = .ok (.goto (-18), 3) := by decide +kernel
theorem dX6_renew_42 : decode cX6_renew 42 = .ok (.return_, 1) := by decide +kernel
theorem dX6_has_0 : decode cX6_has 0 = .ok (.iload_n 1, 1) := by decide +kernel
theorem dX6_has_1 : decode cX6_has 1 = .ok (.ifCond .lt 15, 3) := by decide +kernel
theorem dX6_has_4 : decode cX6_has 4 = .ok (.iload_n 1, 1) := by decide +kernel
theorem dX6_has_5 : decode cX6_has 5 = .ok (.aload_n 0, 1) := by decide +kernel
theorem dX6_has_6 : decode cX6_has 6 = .ok (.getfield 15, 3) := by decide +kernel
theorem dX6_has_9 : decode cX6_has 9 = .ok (.if_icmp .ge 7, 3) := by decide +kernel
theorem dX6_has_12 : decode cX6_has 12 = .ok (.iconst 1, 1) := by decide +kernel
theorem dX6_has_13 : decode cX6_has 13 = .ok (.goto 4, 3) := by decide +kernel
theorem dX6_has_16 : decode cX6_has 16 = .ok (.iconst 0, 1) := by decide +kernel
theorem dX6_has_17 : decode cX6_has 17 = .ok (.ireturn, 1) := by decide +kernel
theorem dX6_hasRun_0 : decode cX6_hasRun 0 = .ok (.iload_n 1, 1) := by decide +kernel
theorem dX6_hasRun_1 : decode cX6_hasRun 1 = .ok (.ifCond .lt 21, 3) := by decide +kernel
theorem dX6_hasRun_4 : decode cX6_hasRun 4 = .ok (.iload_n 2, 1) := by decide +kernel
theorem dX6_hasRun_5 : decode cX6_hasRun 5 = .ok (.ifCond .lt 17, 3) := by decide +kernel
theorem dX6_hasRun_8 : decode cX6_hasRun 8 = .ok (.iload_n 1, 1) := by decide +kernel
theorem dX6_hasRun_9 : decode cX6_hasRun 9 = .ok (.aload_n 0, 1) := by decide +kernel
theorem dX6_hasRun_10 : decode cX6_hasRun 10 = .ok (.getfield 15, 3) := by decide +kernel
theorem dX6_hasRun_13 : decode cX6_hasRun 13 = .ok (.iload_n 2, 1) := by decide +kernel
theorem dX6_hasRun_14 : decode cX6_hasRun 14 = .ok (.isub, 1) := by decide +kernel
theorem dX6_hasRun_15 : decode cX6_hasRun 15 = .ok (.if_icmp .gt 7, 3) := by decide +kernel
theorem dX6_hasRun_18 : decode cX6_hasRun 18 = .ok (.iconst 1, 1) := by decide +kernel
theorem dX6_hasRun_19 : decode cX6_hasRun 19 = .ok (.goto 4, 3) := by decide +kernel
theorem dX6_hasRun_22 : decode cX6_hasRun 22 = .ok (.iconst 0, 1) := by decide +kernel
theorem dX6_hasRun_23 : decode cX6_hasRun 23 = .ok (.ireturn, 1) := by decide +kernel
theorem dX6_allWithin_0 : decode cX6_allWithin 0 = .ok (.iconst 0, 1) := by decide +kernel
theorem dX6_allWithin_1 : decode cX6_allWithin 1 = .ok (.istore_n 3, 1) := by decide +kernel
theorem dX6_allWithin_2 : decode cX6_allWithin 2 = .ok (.iload_n 3, 1) := by decide +kernel
theorem dX6_allWithin_3 : decode cX6_allWithin 3 = .ok (.aload_n 0, 1) := by decide +kernel
theorem dX6_allWithin_4 : decode cX6_allWithin 4 = .ok (.getfield 15, 3) := by decide +kernel
theorem dX6_allWithin_7 : decode cX6_allWithin 7 = .ok (.if_icmp .ge 25, 3) := by decide +kernel
theorem dX6_allWithin_10 : decode cX6_allWithin 10 = .ok (.aload_n 0, 1) := by decide +kernel
theorem dX6_allWithin_11 : decode cX6_allWithin 11 = .ok (.getfield 9, 3) := by decide +kernel
theorem dX6_allWithin_14 : decode cX6_allWithin 14 = .ok (.iload_n 3, 1) := by decide +kernel
theorem dX6_allWithin_15 : decode cX6_allWithin 15 = .ok (.iaload, 1) := by decide +kernel
theorem dX6_allWithin_16 : decode cX6_allWithin 16 = .ok (.iload_n 1, 1) := by decide +kernel
theorem dX6_allWithin_17 : decode cX6_allWithin 17 = .ok (.iload_n 2, 1) := by decide +kernel
theorem dX6_allWithin_18 : decode cX6_allWithin 18 = .ok (.invokestatic 32, 3) := by decide +kernel
theorem dX6_allWithin_21 : decode cX6_allWithin 21 = .ok (.ifCond .ne 5, 3) := by decide +kernel
theorem dX6_allWithin_24 : decode cX6_allWithin 24 = .ok (.iconst 0, 1) := by decide +kernel
theorem dX6_allWithin_25 : decode cX6_allWithin 25 = .ok (.ireturn, 1) := by decide +kernel
theorem dX6_allWithin_26 : decode cX6_allWithin 26 = .ok (.iinc 3 1, 3) := by decide +kernel
theorem dX6_allWithin_29 : decode cX6_allWithin 29 = .ok (.goto (-27), 3) := by decide +kernel
theorem dX6_allWithin_32 : decode cX6_allWithin 32 = .ok (.iconst 1, 1) := by decide +kernel
theorem dX6_allWithin_33 : decode cX6_allWithin 33 = .ok (.ireturn, 1) := by decide +kernel
theorem dX6_sum_0 : decode cX6_sum 0 = .ok (.lconst 0, 1) := by decide +kernel
theorem dX6_sum_1 : decode cX6_sum 1 = .ok (.lstore_n 1, 1) := by decide +kernel
theorem dX6_sum_2 : decode cX6_sum 2 = .ok (.iconst 0, 1) := by decide +kernel
theorem dX6_sum_3 : decode cX6_sum 3 = .ok (.istore_n 3, 1) := by decide +kernel
theorem dX6_sum_4 : decode cX6_sum 4 = .ok (.iload_n 3, 1) := by decide +kernel
theorem dX6_sum_5 : decode cX6_sum 5 = .ok (.aload_n 0, 1) := by decide +kernel
theorem dX6_sum_6 : decode cX6_sum 6 = .ok (.getfield 15, 3) := by decide +kernel
theorem dX6_sum_9 : decode cX6_sum 9 = .ok (.if_icmp .ge 19, 3) := by decide +kernel
theorem dX6_sum_12 : decode cX6_sum 12 = .ok (.lload_n 1, 1) := by decide +kernel
theorem dX6_sum_13 : decode cX6_sum 13 = .ok (.aload_n 0, 1) := by decide +kernel
theorem dX6_sum_14 : decode cX6_sum 14 = .ok (.getfield 9, 3) := by decide +kernel
theorem dX6_sum_17 : decode cX6_sum 17 = .ok (.iload_n 3, 1) := by decide +kernel
theorem dX6_sum_18 : decode cX6_sum 18 = .ok (.iaload, 1) := by decide +kernel
theorem dX6_sum_19 : decode cX6_sum 19 = .ok (.i2l, 1) := by decide +kernel
theorem dX6_sum_20 : decode cX6_sum 20 = .ok (.ladd, 1) := by decide +kernel
theorem dX6_sum_21 : decode cX6_sum 21 = .ok (.lstore_n 1, 1) := by decide +kernel
theorem dX6_sum_22 : decode cX6_sum 22 = .ok (.iinc 3 1, 3) := by decide +kernel
theorem dX6_sum_25 : decode cX6_sum 25 = .ok (.goto (-21), 3) := by decide +kernel
theorem dX6_sum_28 : decode cX6_sum 28 = .ok (.lload_n 1, 1) := by decide +kernel
theorem dX6_sum_29 : decode cX6_sum 29 = .ok (.lreturn, 1) := by decide +kernel
theorem dX6_mixInto_0 : decode cX6_mixInto 0 = .ok (.aload_n 0, 1) := by decide +kernel
theorem dX6_mixInto_1 : decode cX6_mixInto 1 = .ok (.getfield 19, 3) := by decide +kernel
theorem dX6_mixInto_4 : decode cX6_mixInto 4 = .ok (.ifCond .ne 11, 3) := by decide +kernel
theorem dX6_mixInto_7 : decode cX6_mixInto 7 = .ok (.lload_n 1, 1) := by decide +kernel
theorem dX6_mixInto_8 : decode cX6_mixInto 8 = .ok (.ldc2_w 36, 3) := by decide +kernel
theorem dX6_mixInto_11 : decode cX6_mixInto 11 = .ok (.invokestatic 38, 3) := by decide +kernel
theorem dX6_mixInto_14 : decode cX6_mixInto 14 = .ok (.lreturn, 1) := by decide +kernel
theorem dX6_mixInto_15 : decode cX6_mixInto 15 = .ok (.lload_n 1, 1) := by decide +kernel
theorem dX6_mixInto_16 : decode cX6_mixInto 16 = .ok (.aload_n 0, 1) := by decide +kernel
theorem dX6_mixInto_17 : decode cX6_mixInto 17 = .ok (.getfield 15, 3) := by decide +kernel
theorem dX6_mixInto_20 : decode cX6_mixInto 20 = .ok (.i2l, 1) := by decide +kernel
theorem dX6_mixInto_21 : decode cX6_mixInto 21 = .ok (.invokestatic 38, 3) := by decide +kernel
theorem dX6_mixInto_24 : decode cX6_mixInto 24 = .ok (.lstore_n 3, 1) := by decide +kernel
theorem dX6_mixInto_25 : decode cX6_mixInto 25 = .ok (.iconst 0, 1) := by decide +kernel
theorem dX6_mixInto_26 : decode cX6_mixInto 26 = .ok (.istore 5, 2) := by decide +kernel
theorem dX6_mixInto_28 : decode cX6_mixInto 28 = .ok (.iload 5, 2) := by decide +kernel
theorem dX6_mixInto_30 : decode cX6_mixInto 30 = .ok (.aload_n 0, 1) := by decide +kernel
theorem dX6_mixInto_31 : decode cX6_mixInto 31 = .ok (.getfield 15, 3) := by decide +kernel
theorem dX6_mixInto_34 : decode cX6_mixInto 34 = .ok (.if_icmp .ge 22, 3) := by decide +kernel
theorem dX6_mixInto_37 : decode cX6_mixInto 37 = .ok (.lload_n 3, 1) := by decide +kernel
theorem dX6_mixInto_38 : decode cX6_mixInto 38 = .ok (.aload_n 0, 1) := by decide +kernel
theorem dX6_mixInto_39 : decode cX6_mixInto 39 = .ok (.getfield 9, 3) := by decide +kernel
theorem dX6_mixInto_42 : decode cX6_mixInto 42 = .ok (.iload 5, 2) := by decide +kernel
theorem dX6_mixInto_44 : decode cX6_mixInto 44 = .ok (.iaload, 1) := by decide +kernel
theorem dX6_mixInto_45 : decode cX6_mixInto 45 = .ok (.i2l, 1) := by decide +kernel
theorem dX6_mixInto_46 : decode cX6_mixInto 46 = .ok (.invokestatic 38, 3) := by decide +kernel
theorem dX6_mixInto_49 : decode cX6_mixInto 49 = .ok (.lstore_n 3, 1) := by decide +kernel
theorem dX6_mixInto_50 : decode cX6_mixInto 50 = .ok (.iinc 5 1, 3) := by decide +kernel
theorem dX6_mixInto_53 : decode cX6_mixInto 53 = .ok (.goto (-25), 3) := by decide +kernel
theorem dX6_mixInto_56 : decode cX6_mixInto 56 = .ok (.lload_n 3, 1) := by decide +kernel
theorem dX6_mixInto_57 : decode cX6_mixInto 57 = .ok (.lreturn, 1) := by decide +kernel
theorem dX7_init_0 : decode cX7_init 0 = .ok (.aload_n 0, 1) := by decide +kernel
theorem dX7_init_1 : decode cX7_init 1 = .ok (.invokespecial 3, 3) := by decide +kernel
theorem dX7_init_4 : decode cX7_init 4 = .ok (.aload_n 0, 1) := by decide +kernel
theorem dX7_init_5 : decode cX7_init 5 = .ok (.new 9, 3) := by decide +kernel
theorem dX7_init_8 : decode cX7_init 8 = .ok (.dup, 1) := by decide +kernel
theorem dX7_init_9 : decode cX7_init 9 = .ok (.invokespecial 11, 3) := by decide +kernel
theorem dX7_init_12 : decode cX7_init 12 = .ok (.putfield 12, 3) := by decide +kernel
theorem dX7_init_15 : decode cX7_init 15 = .ok (.aload_n 0, 1) := by decide +kernel
theorem dX7_init_16 : decode cX7_init 16 = .ok (.new 18, 3) := by decide +kernel
theorem dX7_init_19 : decode cX7_init 19 = .ok (.dup, 1) := by decide +kernel
theorem dX7_init_20 : decode cX7_init 20 = .ok (.invokespecial 20, 3) := by decide +kernel
theorem dX7_init_23 : decode cX7_init 23 = .ok (.putfield 21, 3) := by decide +kernel
theorem dX7_init_26 : decode cX7_init 26 = .ok (.aload_n 0, 1) := by decide +kernel
theorem dX7_init_27 : decode cX7_init 27 = .ok (.new 25, 3) := by decide +kernel
theorem dX7_init_30 : decode cX7_init 30 = .ok (.dup, 1) := by decide +kernel
theorem dX7_init_31 : decode cX7_init 31 = .ok (.invokespecial 27, 3) := by decide +kernel
theorem dX7_init_34 : decode cX7_init 34 = .ok (.putfield 28, 3) := by decide +kernel
theorem dX7_init_37 : decode cX7_init 37 = .ok (.aload_n 0, 1) := by decide +kernel
theorem dX7_init_38 : decode cX7_init 38 = .ok (.iconst 0, 1) := by decide +kernel
theorem dX7_init_39 : decode cX7_init 39 = .ok (.putfield 32, 3) := by decide +kernel
theorem dX7_init_42 : decode cX7_init 42 = .ok (.return_, 1) := by decide +kernel
theorem dX7_readHarbour_0 : decode cX7_readHarbour 0 = .ok (.aload_n 0, 1) := by decide +kernel
theorem dX7_readHarbour_1 : decode cX7_readHarbour 1 = .ok (.aload_n 1, 1) := by decide +kernel
theorem dX7_readHarbour_2 : decode cX7_readHarbour 2 = .ok (.invokevirtual 36, 3) := by decide +kernel
theorem dX7_readHarbour_5 : decode cX7_readHarbour 5 = .ok (.aload_n 0, 1) := by decide +kernel
theorem dX7_readHarbour_6 : decode cX7_readHarbour 6 = .ok (.getfield 12, 3) := by decide +kernel
theorem dX7_readHarbour_9 : decode cX7_readHarbour 9 = .ok (.invokevirtual 40, 3) := by decide +kernel
theorem dX7_readHarbour_12 : decode cX7_readHarbour 12 = .ok (.aload_n 0, 1) := by decide +kernel
theorem dX7_readHarbour_13 : decode cX7_readHarbour 13 = .ok (.invokevirtual 43, 3) := by decide +kernel
theorem dX7_readHarbour_16 : decode cX7_readHarbour 16 = .ok (.aload_n 0, 1) := by decide +kernel
theorem dX7_readHarbour_17 : decode cX7_readHarbour 17 = .ok (.bipush 99, 2) := by decide +kernel
theorem dX7_readHarbour_19 : decode cX7_readHarbour 19 = .ok (.invokevirtual 46, 3) := by decide +kernel
theorem dX7_readHarbour_22 : decode cX7_readHarbour 22 = .ok (.ifCond .ne 8, 3) := by decide +kernel
theorem dX7_readHarbour_25 : decode cX7_readHarbour 25 = .ok (.aload_n 0, 1) := by decide +kernel
theorem dX7_readHarbour_26 : decode cX7_readHarbour 26 = .ok (.getfield 32, 3) := by decide +kernel
theorem dX7_readHarbour_29 : decode cX7_readHarbour 29 = .ok (.ireturn, 1) := by decide +kernel
theorem dX7_readHarbour_30 : decode cX7_readHarbour 30 = .ok (.aload_n 0, 1) := by decide +kernel
theorem dX7_readHarbour_31 : decode cX7_readHarbour 31 = .ok (.iconst 3, 1) := by decide +kernel
theorem dX7_readHarbour_32 : decode cX7_readHarbour 32 = .ok (.bipush 16, 2) := by decide +kernel
theorem dX7_readHarbour_34 : decode cX7_readHarbour 34 = .ok (.invokevirtual 50, 3) := by decide +kernel
theorem dX7_readHarbour_37 : decode cX7_readHarbour 37 = .ok (.istore_n 2, 1) := by decide +kernel
theorem dX7_readHarbour_38 : decode cX7_readHarbour 38 = .ok (.iload_n 2, 1) := by decide +kernel
theorem dX7_readHarbour_39 : decode cX7_readHarbour 39 = .ok (.ifCond .ge 8, 3) := by decide +kernel
theorem dX7_readHarbour_42 : decode cX7_readHarbour 42 = .ok (.aload_n 0, 1) := by decide +kernel
theorem dX7_readHarbour_43 : decode cX7_readHarbour 43 = .ok (.getfield 32, 3) := by decide +kernel
theorem dX7_readHarbour_46 : decode cX7_readHarbour 46 = .ok (.ireturn, 1) := by decide +kernel
theorem dX7_readHarbour_47 : decode cX7_readHarbour 47 = .ok (.aload_n 0, 1) := by decide +kernel
theorem dX7_readHarbour_48 : decode cX7_readHarbour 48 = .ok (.getfield 12, 3) := by decide +kernel
theorem dX7_readHarbour_51 : decode cX7_readHarbour 51 = .ok (.iload_n 2, 1) := by decide +kernel
