theorem d_P_init_0 : decode b_P_init 0 = .ok (.aload_n 0, 1) := by decide +kernel
theorem d_P_init_1 : decode b_P_init 1 = .ok (.invokespecial 3, 3) := by decide +kernel
theorem d_P_init_4 : decode b_P_init 4 = .ok (.aload_n 0, 1) := by decide +kernel
theorem d_P_init_5 : decode b_P_init 5 = .ok (.bipush 32, 2) := by decide +kernel
theorem d_P_init_7 : decode b_P_init 7 = .ok (.newarray .int, 2) := by decide +kernel
theorem d_P_init_9 : decode b_P_init 9 = .ok (.putfield 9, 3) := by decide +kernel
theorem d_P_init_12 : decode b_P_init 12 = .ok (.return_, 1) := by decide +kernel
theorem d_P_has_0 : decode b_P_has 0 = .ok (.aload_n 0, 1) := by decide +kernel
theorem d_P_has_1 : decode b_P_has 1 = .ok (.getfield 9, 3) := by decide +kernel
theorem d_P_has_4 : decode b_P_has 4 = .ok (.iload_n 1, 1) := by decide +kernel
theorem d_P_has_5 : decode b_P_has 5 = .ok (.iaload, 1) := by decide +kernel
theorem d_P_has_6 : decode b_P_has 6 = .ok (.iload_n 2, 1) := by decide +kernel
theorem d_P_has_7 : decode b_P_has 7 = .ok (.invokestatic 15, 3) := by decide +kernel
theorem d_P_has_10 : decode b_P_has 10 = .ok (.ireturn, 1) := by decide +kernel
theorem d_P_put_0 : decode b_P_put 0 = .ok (.iload_n 3, 1) := by decide +kernel
theorem d_P_put_1 : decode b_P_put 1 = .ok (.ifCond .eq 18, 3) := by decide +kernel
theorem d_P_put_4 : decode b_P_put 4 = .ok (.aload_n 0, 1) := by decide +kernel
theorem d_P_put_5 : decode b_P_put 5 = .ok (.getfield 9, 3) := by decide +kernel
theorem d_P_put_8 : decode b_P_put 8 = .ok (.iload_n 1, 1) := by decide +kernel
theorem d_P_put_9 : decode b_P_put 9 = .ok (.dup2, 1) := by decide +kernel
theorem d_P_put_10 : decode b_P_put 10 = .ok (.iaload, 1) := by decide +kernel
theorem d_P_put_11 : decode b_P_put 11 = .ok (.iconst 1, 1) := by decide +kernel
theorem d_P_put_12 : decode b_P_put 12 = .ok (.iload_n 2, 1) := by decide +kernel
theorem d_P_put_13 : decode b_P_put 13 = .ok (.ishl, 1) := by decide +kernel
theorem d_P_put_14 : decode b_P_put 14 = .ok (.ior, 1) := by decide +kernel
theorem d_P_put_15 : decode b_P_put 15 = .ok (.iastore, 1) := by decide +kernel
theorem d_P_put_16 : decode b_P_put 16 = .ok (.goto 17, 3) := by decide +kernel
theorem d_P_put_19 : decode b_P_put 19 = .ok (.aload_n 0, 1) := by decide +kernel
theorem d_P_put_20 : decode b_P_put 20 = .ok (.getfield 9, 3) := by decide +kernel
theorem d_P_put_23 : decode b_P_put 23 = .ok (.iload_n 1, 1) := by decide +kernel
theorem d_P_put_24 : decode b_P_put 24 = .ok (.dup2, 1) := by decide +kernel
theorem d_P_put_25 : decode b_P_put 25 = .ok (.iaload, 1) := by decide +kernel
theorem d_P_put_26 : decode b_P_put 26 = .ok (.iconst 1, 1) := by decide +kernel
theorem d_P_put_27 : decode b_P_put 27 = .ok (.iload_n 2, 1) := by decide +kernel
theorem d_P_put_28 : decode b_P_put 28 = .ok (.ishl, 1) := by decide +kernel
theorem d_P_put_29 : decode b_P_put 29 = .ok (.iconst (-1), 1) := by decide +kernel
theorem d_P_put_30 : decode b_P_put 30 = .ok (.ixor, 1) := by decide +kernel
theorem d_P_put_31 : decode b_P_put 31 = .ok (.iand, 1) := by decide +kernel
theorem d_P_put_32 : decode b_P_put 32 = .ok (.iastore, 1) := by decide +kernel
theorem d_P_put_33 : decode b_P_put 33 = .ok (.return_, 1) := by decide +kernel
theorem d_P_copyFrom_0 : decode b_P_copyFrom 0 = .ok (.iconst 0, 1) := by decide +kernel
theorem d_P_copyFrom_1 : decode b_P_copyFrom 1 = .ok (.istore_n 2, 1) := by decide +kernel
theorem d_P_copyFrom_2 : decode b_P_copyFrom 2 = .ok (.iload_n 2, 1) := by decide +kernel
theorem d_P_copyFrom_3 : decode b_P_copyFrom 3 = .ok (.bipush 32, 2) := by decide +kernel
theorem d_P_copyFrom_5 : decode b_P_copyFrom 5 = .ok (.if_icmp .ge 21, 3) := by decide +kernel
theorem d_P_copyFrom_8 : decode b_P_copyFrom 8 = .ok (.aload_n 0, 1) := by decide +kernel
theorem d_P_copyFrom_9 : decode b_P_copyFrom 9 = .ok (.getfield 9, 3) := by decide +kernel
theorem d_P_copyFrom_12 : decode b_P_copyFrom 12 = .ok (.iload_n 2, 1) := by decide +kernel
theorem d_P_copyFrom_13 : decode b_P_copyFrom 13 = .ok (.aload_n 1, 1) := by decide +kernel
theorem d_P_copyFrom_14 : decode b_P_copyFrom 14 = .ok (.getfield 9, 3) := by decide +kernel
theorem d_P_copyFrom_17 : decode b_P_copyFrom 17 = .ok (.iload_n 2, 1) := by decide +kernel
theorem d_P_copyFrom_18 : decode b_P_copyFrom 18 = .ok (.iaload, 1) := by decide +kernel
theorem d_P_copyFrom_19 : decode b_P_copyFrom 19 = .ok (.iastore, 1) := by decide +kernel
theorem d_P_copyFrom_20 : decode b_P_copyFrom 20 = .ok (.iinc 2 1, 3) := by decide +kernel
theorem d_P_copyFrom_23 : decode b_P_copyFrom 23 = .ok (.goto (-21), 3) := by decide +kernel
theorem d_P_copyFrom_26 : decode b_P_copyFrom 26 = .ok (.return_, 1) := by decide +kernel
theorem d_P_becomeDifference_0 : decode b_P_becomeDifference 0 = .ok (.iconst 0, 1) := by decide +kernel
theorem d_P_becomeDifference_1 : decode b_P_becomeDifference 1 = .ok (.istore_n 3, 1) := by decide +kernel
theorem d_P_becomeDifference_2 : decode b_P_becomeDifference 2 = .ok (.iload_n 3, 1) := by decide +kernel
theorem d_P_becomeDifference_3 : decode b_P_becomeDifference 3 = .ok (.bipush 32, 2) := by decide +kernel
theorem d_P_becomeDifference_5 : decode b_P_becomeDifference 5 = .ok (.if_icmp .ge 30, 3) := by decide +kernel
theorem d_P_becomeDifference_8 : decode b_P_becomeDifference 8 = .ok (.aload_n 0, 1) := by decide +kernel
theorem d_P_becomeDifference_9 : decode b_P_becomeDifference 9 = .ok (.getfield 9, 3) := by decide +kernel
theorem d_P_becomeDifference_12 : decode b_P_becomeDifference 12 = .ok (.iload_n 3, 1) := by decide +kernel
theorem d_P_becomeDifference_13 : decode b_P_becomeDifference 13 = .ok (.aload_n 1, 1) := by decide +kernel
theorem d_P_becomeDifference_14 : decode b_P_becomeDifference 14 = .ok (.getfield 9, 3) := by decide +kernel
theorem d_P_becomeDifference_17 : decode b_P_becomeDifference 17 = .ok (.iload_n 3, 1) := by decide +kernel
theorem d_P_becomeDifference_18 : decode b_P_becomeDifference 18 = .ok (.iaload, 1) := by decide +kernel
theorem d_P_becomeDifference_19 : decode b_P_becomeDifference 19 = .ok (.aload_n 2, 1) := by decide +kernel
theorem d_P_becomeDifference_20 : decode b_P_becomeDifference 20 = .ok (.getfield 9, 3) := by decide +kernel
theorem d_P_becomeDifference_23 : decode b_P_becomeDifference 23 = .ok (.iload_n 3, 1) := by decide +kernel
theorem d_P_becomeDifference_24 : decode b_P_becomeDifference 24 = .ok (.iaload, 1) := by decide +kernel
theorem d_P_becomeDifference_25 : decode b_P_becomeDifference 25 = .ok (.iconst (-1), 1) := by decide +kernel
theorem d_P_becomeDifference_26 : decode b_P_becomeDifference 26 = .ok (.ixor, 1) := by decide +kernel
theorem d_P_becomeDifference_27 : decode b_P_becomeDifference 27 = .ok (.iand, 1) := by decide +kernel
theorem d_P_becomeDifference_28 : decode b_P_becomeDifference 28 = .ok (.iastore, 1) := by decide +kernel
theorem d_P_becomeDifference_29 : decode b_P_becomeDifference 29 = .ok (.iinc 3 1, 3) := by decide +kernel
theorem d_P_becomeDifference_32 : decode b_P_becomeDifference 32 = .ok (.goto (-30), 3) := by decide +kernel
theorem d_P_becomeDifference_35 : decode b_P_becomeDifference 35 = .ok (.return_, 1) := by decide +kernel
theorem d_P_size_0 : decode b_P_size 0 = .ok (.iconst 0, 1) := by decide +kernel
theorem d_P_size_1 : decode b_P_size 1 = .ok (.istore_n 1, 1) := by decide +kernel
theorem d_P_size_2 : decode b_P_size 2 = .ok (.iconst 0, 1) := by decide +kernel
theorem d_P_size_3 : decode b_P_size 3 = .ok (.istore_n 2, 1) := by decide +kernel
theorem d_P_size_4 : decode b_P_size 4 = .ok (.iload_n 2, 1) := by decide +kernel
theorem d_P_size_5 : decode b_P_size 5 = .ok (.bipush 32, 2) := by decide +kernel
theorem d_P_size_7 : decode b_P_size 7 = .ok (.if_icmp .ge 21, 3) := by decide +kernel
theorem d_P_size_10 : decode b_P_size 10 = .ok (.iload_n 1, 1) := by decide +kernel
theorem d_P_size_11 : decode b_P_size 11 = .ok (.aload_n 0, 1) := by decide +kernel
theorem d_P_size_12 : decode b_P_size 12 = .ok (.getfield 9, 3) := by decide +kernel
theorem d_P_size_15 : decode b_P_size 15 = .ok (.iload_n 2, 1) := by decide +kernel
theorem d_P_size_16 : decode b_P_size 16 = .ok (.iaload, 1) := by decide +kernel
theorem d_P_size_17 : decode b_P_size 17 = .ok (.invokestatic 19, 3) := by decide +kernel
theorem d_P_size_20 : decode b_P_size 20 = .ok (.iadd, 1) := by decide +kernel
theorem d_P_size_21 : decode b_P_size 21 = .ok (.istore_n 1, 1) := by decide +kernel
theorem d_P_size_22 : decode b_P_size 22 = .ok (.iinc 2 1, 3) := by decide +kernel
theorem d_P_size_25 : decode b_P_size 25 = .ok (.goto (-21), 3) := by decide +kernel
theorem d_P_size_28 : decode b_P_size 28 = .ok (.iload_n 1, 1) := by decide +kernel
theorem d_P_size_29 : decode b_P_size 29 = .ok (.ireturn, 1) := by decide +kernel
theorem d_P_pairAt_0 : decode b_P_pairAt 0 = .ok (.iload_n 1, 1) := by decide +kernel
theorem d_P_pairAt_1 : decode b_P_pairAt 1 = .ok (.ifCond .ge 5, 3) := by decide +kernel
theorem d_P_pairAt_4 : decode b_P_pairAt 4 = .ok (.iconst (-1), 1) := by decide +kernel
theorem d_P_pairAt_5 : decode b_P_pairAt 5 = .ok (.ireturn, 1) := by decide +kernel
theorem d_P_pairAt_6 : decode b_P_pairAt 6 = .ok (.iload_n 1, 1) := by decide +kernel
theorem d_P_pairAt_7 : decode b_P_pairAt 7 = .ok (.istore_n 2, 1) := by decide +kernel
theorem d_P_pairAt_8 : decode b_P_pairAt 8 = .ok (.iconst 0, 1) := by decide +kernel
theorem d_P_pairAt_9 : decode b_P_pairAt 9 = .ok (.istore_n 3, 1) := by decide +kernel
theorem d_P_pairAt_10 : decode b_P_pairAt 10 = .ok (.iload_n 3, 1) := by decide +kernel
theorem d_P_pairAt_11 : decode b_P_pairAt 11 = .ok (.bipush 32, 2) := by decide +kernel
theorem d_P_pairAt_13 : decode b_P_pairAt 13 = .ok (.if_icmp .ge 46, 3) := by decide +kernel
theorem d_P_pairAt_16 : decode b_P_pairAt 16 = .ok (.aload_n 0, 1) := by decide +kernel
theorem d_P_pairAt_17 : decode b_P_pairAt 17 = .ok (.getfield 9, 3) := by decide +kernel
theorem d_P_pairAt_20 : decode b_P_pairAt 20 = .ok (.iload_n 3, 1) := by decide +kernel
theorem d_P_pairAt_21 : decode b_P_pairAt 21 = .ok (.iaload, 1) := by decide +kernel
theorem d_P_pairAt_22 : decode b_P_pairAt 22 = .ok (.invokestatic 19, 3) := by decide +kernel
theorem d_P_pairAt_25 : decode b_P_pairAt 25 = .ok (.istore 4, 2) := by decide +kernel
theorem d_P_pairAt_27 : decode b_P_pairAt 27 = .ok (.iload_n 2, 1) := by decide +kernel
theorem d_P_pairAt_28 : decode b_P_pairAt 28 = .ok (.iload 4, 2) := by decide +kernel
theorem d_P_pairAt_30 : decode b_P_pairAt 30 = .ok (.if_icmp .ge 18, 3) := by decide +kernel
theorem d_P_pairAt_33 : decode b_P_pairAt 33 = .ok (.iload_n 3, 1) := by decide +kernel
theorem d_P_pairAt_34 : decode b_P_pairAt 34 = .ok (.aload_n 0, 1) := by decide +kernel
theorem d_P_pairAt_35 : decode b_P_pairAt 35 = .ok (.getfield 9, 3) := by decide +kernel
theorem d_P_pairAt_38 : decode b_P_pairAt 38 = .ok (.iload_n 3, 1) := by decide +kernel
theorem d_P_pairAt_39 : decode b_P_pairAt 39 = .ok (.iaload, 1) := by decide +kernel
theorem d_P_pairAt_40 : decode b_P_pairAt 40 = .ok (.iload_n 2, 1) := by decide +kernel
theorem d_P_pairAt_41 : decode b_P_pairAt 41 = .ok (.invokestatic 25, 3) := by decide +kernel
theorem d_P_pairAt_44 : decode b_P_pairAt 44 = .ok (.invokestatic 29, 3) := by decide +kernel
theorem d_P_pairAt_47 : decode b_P_pairAt 47 = .ok (.ireturn, 1) := by decide +kernel
theorem d_P_pairAt_48 : decode b_P_pairAt 48 = .ok (.iload_n 2, 1) := by decide +kernel
theorem d_P_pairAt_49 : decode b_P_pairAt 49 = .ok (.iload 4, 2) := by decide +kernel
theorem d_P_pairAt_51 : decode b_P_pairAt 51 = .ok (.isub, 1) := by decide +kernel
theorem d_P_pairAt_52 : decode b_P_pairAt 52 = .ok (.istore_n 2, 1) := by decide +kernel
theorem d_P_pairAt_53 : decode b_P_pairAt 53 = .ok (.iinc 3 1, 3) := by decide +kernel
theorem d_P_pairAt_56 : decode b_P_pairAt 56 = .ok (.goto (-46), 3) := by decide +kernel
theorem d_P_pairAt_59 : decode b_P_pairAt 59 = .ok (.iconst (-1), 1) := by decide +kernel
theorem d_P_pairAt_60 : decode b_P_pairAt 60 = .ok (.ireturn, 1) := by decide +kernel
theorem d_P_joinWays_0 : decode b_P_joinWays 0 = .ok (.iconst 0, 1) := by decide +kernel
theorem d_P_joinWays_1 : decode b_P_joinWays 1 = .ok (.istore_n 1, 1) := by decide +kernel
theorem d_P_joinWays_2 : decode b_P_joinWays 2 = .ok (.iload_n 1, 1) := by decide +kernel
theorem d_P_joinWays_3 : decode b_P_joinWays 3 = .ok (.bipush 32, 2) := by decide +kernel
theorem d_P_joinWays_5 : decode b_P_joinWays 5 = .ok (.if_icmp .ge 47, 3) := by decide +kernel
theorem d_P_joinWays_8 : decode b_P_joinWays 8 = .ok (.iconst 0, 1) := by decide +kernel
theorem d_P_joinWays_9 : decode b_P_joinWays 9 = .ok (.istore_n 2, 1) := by decide +kernel
theorem d_P_joinWays_10 : decode b_P_joinWays 10 = .ok (.iload_n 2, 1) := by decide +kernel
theorem d_P_joinWays_11 : decode b_P_joinWays 11 = .ok (.bipush 32, 2) := by decide +kernel
theorem d_P_joinWays_13 : decode b_P_joinWays 13 = .ok (.if_icmp .ge 33, 3) := by decide +kernel
theorem d_P_joinWays_16 : decode b_P_joinWays 16 = .ok (.aload_n 0, 1) := by decide +kernel
theorem d_P_joinWays_17 : decode b_P_joinWays 17 = .ok (.iload_n 2, 1) := by decide +kernel
theorem d_P_joinWays_18 : decode b_P_joinWays 18 = .ok (.iload_n 1, 1) := by decide +kernel
theorem d_P_joinWays_19 : decode b_P_joinWays 19 = .ok (.invokevirtual 32, 3) := by decide +kernel
theorem d_P_joinWays_22 : decode b_P_joinWays 22 = .ok (.ifCond .eq 18, 3) := by decide +kernel
theorem d_P_joinWays_25 : decode b_P_joinWays 25 = .ok (.aload_n 0, 1) := by decide +kernel
theorem d_P_joinWays_26 : decode b_P_joinWays 26 = .ok (.getfield 9, 3) := by decide +kernel
theorem d_P_joinWays_29 : decode b_P_joinWays 29 = .ok (.iload_n 2, 1) := by decide +kernel
theorem d_P_joinWays_30 : decode b_P_joinWays 30 = .ok (.dup2, 1) := by decide +kernel
theorem d_P_joinWays_31 : decode b_P_joinWays 31 = .ok (.iaload, 1) := by decide +kernel
theorem d_P_joinWays_32 : decode b_P_joinWays 32 = .ok (.aload_n 0, 1) := by decide +kernel
theorem d_P_joinWays_33 : decode b_P_joinWays 33 = .ok (.getfield 9, 3) := by decide +kernel
theorem d_P_joinWays_36 : decode b_P_joinWays 36 = .ok (.iload_n 1, 1) := by decide +kernel
theorem d_P_joinWays_37 : decode b_P_joinWays 37 = .ok (.iaload, 1) := by decide +kernel
theorem d_P_joinWays_38 : decode b_P_joinWays 38 = .ok (.ior, 1) := by decide +kernel
theorem d_P_joinWays_39 : decode b_P_joinWays 39 = .ok (.iastore, 1) := by decide +kernel
theorem d_P_joinWays_40 : decode b_P_joinWays 40 = .ok (.iinc 2 1, 3) := by decide +kernel
theorem d_P_joinWays_43 : decode b_P_joinWays 43 = .ok (.goto (-33), 3) := by decide +kernel
theorem d_P_joinWays_46 : decode b_P_joinWays 46 = .ok (.iinc 1 1, 3) := by decide +kernel
theorem d_P_joinWays_49 : decode b_P_joinWays 49 = .ok (.goto (-47), 3) := by decide +kernel
theorem d_P_joinWays_52 : decode b_P_joinWays 52 = .ok (.return_, 1) := by decide +kernel
theorem d_P_shortestWay_0 : decode b_P_shortestWay 0 = .ok (.aload_n 0, 1) := by decide +kernel
theorem d_P_shortestWay_1 : decode b_P_shortestWay 1 = .ok (.getfield 9, 3) := by decide +kernel
theorem d_P_shortestWay_4 : decode b_P_shortestWay 4 = .ok (.iload_n 1, 1) := by decide +kernel
theorem d_P_shortestWay_5 : decode b_P_shortestWay 5 = .ok (.iaload, 1) := by decide +kernel
theorem d_P_shortestWay_6 : decode b_P_shortestWay 6 = .ok (.istore_n 3, 1) := by decide +kernel
theorem d_P_shortestWay_7 : decode b_P_shortestWay 7 = .ok (.iconst 1, 1) := by decide +kernel
theorem d_P_shortestWay_8 : decode b_P_shortestWay 8 = .ok (.istore 4, 2) := by decide +kernel
theorem d_P_shortestWay_10 : decode b_P_shortestWay 10 = .ok (.iload 4, 2) := by decide +kernel
theorem d_P_shortestWay_12 : decode b_P_shortestWay 12 = .ok (.bipush 32, 2) := by decide +kernel
theorem d_P_shortestWay_14 : decode b_P_shortestWay 14 = .ok (.if_icmp .gt 28, 3) := by decide +kernel
theorem d_P_shortestWay_17 : decode b_P_shortestWay 17 = .ok (.iload_n 3, 1) := by decide +kernel
theorem d_P_shortestWay_18 : decode b_P_shortestWay 18 = .ok (.iload_n 2, 1) := by decide +kernel
theorem d_P_shortestWay_19 : decode b_P_shortestWay 19 = .ok (.invokestatic 15, 3) := by decide +kernel
theorem d_P_shortestWay_22 : decode b_P_shortestWay 22 = .ok (.ifCond .eq 6, 3) := by decide +kernel
theorem d_P_shortestWay_25 : decode b_P_shortestWay 25 = .ok (.iload 4, 2) := by decide +kernel
theorem d_P_shortestWay_27 : decode b_P_shortestWay 27 = .ok (.ireturn, 1) := by decide +kernel
theorem d_P_shortestWay_28 : decode b_P_shortestWay 28 = .ok (.iload_n 3, 1) := by decide +kernel
theorem d_P_shortestWay_29 : decode b_P_shortestWay 29 = .ok (.aload_n 0, 1) := by decide +kernel
theorem d_P_shortestWay_30 : decode b_P_shortestWay 30 = .ok (.iload_n 3, 1) := by decide +kernel
theorem d_P_shortestWay_31 : decode b_P_shortestWay 31 = .ok (.invokevirtual 35, 3) := by decide +kernel
theorem d_P_shortestWay_34 : decode b_P_shortestWay 34 = .ok (.ior, 1) := by decide +kernel
theorem d_P_shortestWay_35 : decode b_P_shortestWay 35 = .ok (.istore_n 3, 1) := by decide +kernel
theorem d_P_shortestWay_36 : decode b_P_shortestWay 36 = .ok (.iinc 4 1, 3) := by decide +kernel
theorem d_P_shortestWay_39 : decode b_P_shortestWay 39 = .ok (.goto (-29), 3) := by decide +kernel
theorem d_P_shortestWay_42 : decode b_P_shortestWay 42 = .ok (.iconst (-1), 1) := by decide +kernel
theorem d_P_shortestWay_43 : decode b_P_shortestWay 43 = .ok (.ireturn, 1) := by decide +kernel
theorem d_P_loops_0 : decode b_P_loops 0 = .ok (.iconst 0, 1) := by decide +kernel
theorem d_P_loops_1 : decode b_P_loops 1 = .ok (.istore_n 1, 1) := by decide +kernel
theorem d_P_loops_2 : decode b_P_loops 2 = .ok (.iconst 0, 1) := by decide +kernel
theorem d_P_loops_3 : decode b_P_loops 3 = .ok (.istore_n 2, 1) := by decide +kernel
theorem d_P_loops_4 : decode b_P_loops 4 = .ok (.iload_n 2, 1) := by decide +kernel
theorem d_P_loops_5 : decode b_P_loops 5 = .ok (.bipush 32, 2) := by decide +kernel
theorem d_P_loops_7 : decode b_P_loops 7 = .ok (.if_icmp .ge 21, 3) := by decide +kernel
theorem d_P_loops_10 : decode b_P_loops 10 = .ok (.aload_n 0, 1) := by decide +kernel
theorem d_P_loops_11 : decode b_P_loops 11 = .ok (.iload_n 2, 1) := by decide +kernel
theorem d_P_loops_12 : decode b_P_loops 12 = .ok (.iload_n 2, 1) := by decide +kernel
theorem d_P_loops_13 : decode b_P_loops 13 = .ok (.invokevirtual 32, 3) := by decide +kernel
theorem d_P_loops_16 : decode b_P_loops 16 = .ok (.ifCond .eq 6, 3) := by decide +kernel
theorem d_P_loops_19 : decode b_P_loops 19 = .ok (.iinc 1 1, 3) := by decide +kernel
theorem d_P_loops_22 : decode b_P_loops 22 = .ok (.iinc 2 1, 3) := by decide +kernel
theorem d_P_loops_25 : decode b_P_loops 25 = .ok (.goto (-21), 3) := by decide +kernel
theorem d_P_loops_28 : decode b_P_loops 28 = .ok (.iload_n 1, 1) := by decide +kernel
theorem d_P_loops_29 : decode b_P_loops 29 = .ok (.ireturn, 1) := by decide +kernel
theorem d_P_circles_0 : decode b_P_circles 0 = .ok (.iconst 0, 1) := by decide +kernel
theorem d_P_circles_1 : decode b_P_circles 1 = .ok (.istore_n 1, 1) := by decide +kernel
theorem d_P_circles_2 : decode b_P_circles 2 = .ok (.iconst 0, 1) := by decide +kernel
theorem d_P_circles_3 : decode b_P_circles 3 = .ok (.istore_n 2, 1) := by decide +kernel
theorem d_P_circles_4 : decode b_P_circles 4 = .ok (.iload_n 2, 1) := by decide +kernel
theorem d_P_circles_5 : decode b_P_circles 5 = .ok (.bipush 32, 2) := by decide +kernel
theorem d_P_circles_7 : decode b_P_circles 7 = .ok (.if_icmp .ge 29, 3) := by decide +kernel
theorem d_P_circles_10 : decode b_P_circles 10 = .ok (.aload_n 0, 1) := by decide +kernel
theorem d_P_circles_11 : decode b_P_circles 11 = .ok (.iload_n 2, 1) := by decide +kernel
theorem d_P_circles_12 : decode b_P_circles 12 = .ok (.iload_n 2, 1) := by decide +kernel
theorem d_P_circles_13 : decode b_P_circles 13 = .ok (.invokevirtual 32, 3) := by decide +kernel
theorem d_P_circles_16 : decode b_P_circles 16 = .ok (.ifCond .eq 14, 3) := by decide +kernel
theorem d_P_circles_19 : decode b_P_circles 19 = .ok (.aload_n 0, 1) := by decide +kernel
theorem d_P_circles_20 : decode b_P_circles 20 = .ok (.iload_n 2, 1) := by decide +kernel
theorem d_P_circles_21 : decode b_P_circles 21 = .ok (.invokevirtual 38, 3) := by decide +kernel
theorem d_P_circles_24 : decode b_P_circles 24 = .ok (.ifCond .ne 6, 3) := by decide +kernel
theorem d_P_circles_27 : decode b_P_circles 27 = .ok (.iinc 1 1, 3) := by decide +kernel
theorem d_P_circles_30 : decode b_P_circles 30 = .ok (.iinc 2 1, 3) := by decide +kernel
theorem d_P_circles_33 : decode b_P_circles 33 = .ok (.goto (-29), 3) := by decide +kernel
theorem d_P_circles_36 : decode b_P_circles 36 = .ok (.iload_n 1, 1) := by decide +kernel
theorem d_P_circles_37 : decode b_P_circles 37 = .ok (.ireturn, 1) := by decide +kernel
theorem d_P_hasLowerMate_0 : decode b_P_hasLowerMate 0 = .ok (.iconst 0, 1) := by decide +kernel
theorem d_P_hasLowerMate_1 : decode b_P_hasLowerMate 1 = .ok (.istore_n 2, 1) := by decide +kernel
theorem d_P_hasLowerMate_2 : decode b_P_hasLowerMate 2 = .ok (.iload_n 2, 1) := by decide +kernel
theorem d_P_hasLowerMate_3 : decode b_P_hasLowerMate 3 = .ok (.iload_n 1, 1) := by decide +kernel
theorem d_P_hasLowerMate_4 : decode b_P_hasLowerMate 4 = .ok (.if_icmp .ge 29, 3) := by decide +kernel
theorem d_P_hasLowerMate_7 : decode b_P_hasLowerMate 7 = .ok (.aload_n 0, 1) := by decide +kernel
theorem d_P_hasLowerMate_8 : decode b_P_hasLowerMate 8 = .ok (.iload_n 1, 1) := by decide +kernel
theorem d_P_hasLowerMate_9 : decode b_P_hasLowerMate 9 = .ok (.iload_n 2, 1) := by decide +kernel
theorem d_P_hasLowerMate_10 : decode b_P_hasLowerMate 10 = .ok (.invokevirtual 32, 3) := by decide +kernel
theorem d_P_hasLowerMate_13 : decode b_P_hasLowerMate 13 = .ok (.ifCond .eq 14, 3) := by decide +kernel
theorem d_P_hasLowerMate_16 : decode b_P_hasLowerMate 16 = .ok (.aload_n 0, 1) := by decide +kernel
theorem d_P_hasLowerMate_17 : decode b_P_hasLowerMate 17 = .ok (.iload_n 2, 1) := by decide +kernel
theorem d_P_hasLowerMate_18 : decode b_P_hasLowerMate 18 = .ok (.iload_n 1, 1) := by decide +kernel
theorem d_P_hasLowerMate_19 : decode b_P_hasLowerMate 19 = .ok (.invokevirtual 32, 3) := by decide +kernel
theorem d_P_hasLowerMate_22 : decode b_P_hasLowerMate 22 = .ok (.ifCond .eq 5, 3) := by decide +kernel
theorem d_P_hasLowerMate_25 : decode b_P_hasLowerMate 25 = .ok (.iconst 1, 1) := by decide +kernel
theorem d_P_hasLowerMate_26 : decode b_P_hasLowerMate 26 = .ok (.ireturn, 1) := by decide +kernel
theorem d_P_hasLowerMate_27 : decode b_P_hasLowerMate 27 = .ok (.iinc 2 1, 3) := by decide +kernel
theorem d_P_hasLowerMate_30 : decode b_P_hasLowerMate 30 = .ok (.goto (-28), 3) := by decide +kernel
theorem d_P_hasLowerMate_33 : decode b_P_hasLowerMate 33 = .ok (.iconst 0, 1) := by decide +kernel
theorem d_P_hasLowerMate_34 : decode b_P_hasLowerMate 34 = .ok (.ireturn, 1) := by decide +kernel
theorem d_P_oneStepFrom_0 : decode b_P_oneStepFrom 0 = .ok (.iconst 0, 1) := by decide +kernel
theorem d_P_oneStepFrom_1 : decode b_P_oneStepFrom 1 = .ok (.istore_n 2, 1) := by decide +kernel
theorem d_P_oneStepFrom_2 : decode b_P_oneStepFrom 2 = .ok (.iconst 0, 1) := by decide +kernel
theorem d_P_oneStepFrom_3 : decode b_P_oneStepFrom 3 = .ok (.istore_n 3, 1) := by decide +kernel
theorem d_P_oneStepFrom_4 : decode b_P_oneStepFrom 4 = .ok (.iload_n 3, 1) := by decide +kernel
theorem d_P_oneStepFrom_5 : decode b_P_oneStepFrom 5 = .ok (.bipush 32, 2) := by decide +kernel
theorem d_P_oneStepFrom_7 : decode b_P_oneStepFrom 7 = .ok (.if_icmp .ge 26, 3) := by decide +kernel
theorem d_P_oneStepFrom_10 : decode b_P_oneStepFrom 10 = .ok (.iload_n 1, 1) := by decide +kernel
theorem d_P_oneStepFrom_11 : decode b_P_oneStepFrom 11 = .ok (.iload_n 3, 1) := by decide +kernel
theorem d_P_oneStepFrom_12 : decode b_P_oneStepFrom 12 = .ok (.invokestatic 15, 3) := by decide +kernel
theorem d_P_oneStepFrom_15 : decode b_P_oneStepFrom 15 = .ok (.ifCond .eq 12, 3) := by decide +kernel
theorem d_P_oneStepFrom_18 : decode b_P_oneStepFrom 18 = .ok (.iload_n 2, 1) := by decide +kernel
theorem d_P_oneStepFrom_19 : decode b_P_oneStepFrom 19 = .ok (.aload_n 0, 1) := by decide +kernel
theorem d_P_oneStepFrom_20 : decode b_P_oneStepFrom 20 = .ok (.getfield 9, 3) := by decide +kernel
theorem d_P_oneStepFrom_23 : decode b_P_oneStepFrom 23 = .ok (.iload_n 3, 1) := by decide +kernel
theorem d_P_oneStepFrom_24 : decode b_P_oneStepFrom 24 = .ok (.iaload, 1) := by decide +kernel
theorem d_P_oneStepFrom_25 : decode b_P_oneStepFrom 25 = .ok (.ior, 1) := by decide +kernel
theorem d_P_oneStepFrom_26 : decode b_P_oneStepFrom 26 = .ok (.istore_n 2, 1) := by decide +kernel
theorem d_P_oneStepFrom_27 : decode b_P_oneStepFrom 27 = .ok (.iinc 3 1, 3) := by decide +kernel
theorem d_P_oneStepFrom_30 : decode b_P_oneStepFrom 30 = .ok (.goto (-26), 3) := by decide +kernel
theorem d_P_oneStepFrom_33 : decode b_P_oneStepFrom 33 = .ok (.iload_n 2, 1) := by decide +kernel
theorem d_P_oneStepFrom_34 : decode b_P_oneStepFrom 34 = .ok (.ireturn, 1) := by decide +kernel
theorem d_P_hasBit_0 : decode b_P_hasBit 0 = .ok (.iload_n 0, 1) := by decide +kernel
theorem d_P_hasBit_1 : decode b_P_hasBit 1 = .ok (.iload_n 1, 1) := by decide +kernel
theorem d_P_hasBit_2 : decode b_P_hasBit 2 = .ok (.iushr, 1) := by decide +kernel
theorem d_P_hasBit_3 : decode b_P_hasBit 3 = .ok (.iconst 1, 1) := by decide +kernel
theorem d_P_hasBit_4 : decode b_P_hasBit 4 = .ok (.iand, 1) := by decide +kernel
theorem d_P_hasBit_5 : decode b_P_hasBit 5 = .ok (.ifCond .eq 7, 3) := by decide +kernel
theorem d_P_hasBit_8 : decode b_P_hasBit 8 = .ok (.iconst 1, 1) := by decide +kernel
theorem d_P_hasBit_9 : decode b_P_hasBit 9 = .ok (.goto 4, 3) := by decide +kernel
theorem d_P_hasBit_12 : decode b_P_hasBit 12 = .ok (.iconst 0, 1) := by decide +kernel
theorem d_P_hasBit_13 : decode b_P_hasBit 13 = .ok (.ireturn, 1) := by decide +kernel
theorem d_P_bitAt_0 : decode b_P_bitAt 0 = .ok (.iload_n 1, 1) := by decide +kernel
theorem d_P_bitAt_1 : decode b_P_bitAt 1 = .ok (.istore_n 2, 1) := by decide +kernel
theorem d_P_bitAt_2 : decode b_P_bitAt 2 = .ok (.iconst 0, 1) := by decide +kernel
theorem d_P_bitAt_3 : decode b_P_bitAt 3 = .ok (.istore_n 3, 1) := by decide +kernel
theorem d_P_bitAt_4 : decode b_P_bitAt 4 = .ok (.iload_n 3, 1) := by decide +kernel
theorem d_P_bitAt_5 : decode b_P_bitAt 5 = .ok (.bipush 32, 2) := by decide +kernel
theorem d_P_bitAt_7 : decode b_P_bitAt 7 = .ok (.if_icmp .ge 26, 3) := by decide +kernel
theorem d_P_bitAt_10 : decode b_P_bitAt 10 = .ok (.iload_n 0, 1) := by decide +kernel
theorem d_P_bitAt_11 : decode b_P_bitAt 11 = .ok (.iload_n 3, 1) := by decide +kernel
theorem d_P_bitAt_12 : decode b_P_bitAt 12 = .ok (.invokestatic 15, 3) := by decide +kernel
theorem d_P_bitAt_15 : decode b_P_bitAt 15 = .ok (.ifCond .eq 12, 3) := by decide +kernel
theorem d_P_bitAt_18 : decode b_P_bitAt 18 = .ok (.iload_n 2, 1) := by decide +kernel
theorem d_P_bitAt_19 : decode b_P_bitAt 19 = .ok (.ifCond .ne 5, 3) := by decide +kernel
theorem d_P_bitAt_22 : decode b_P_bitAt 22 = .ok (.iload_n 3, 1) := by decide +kernel
theorem d_P_bitAt_23 : decode b_P_bitAt 23 = .ok (.ireturn, 1) := by decide +kernel
theorem d_P_bitAt_24 : decode b_P_bitAt 24 = .ok (.iinc 2 (-1), 3) := by decide +kernel
theorem d_P_bitAt_27 : decode b_P_bitAt 27 = .ok (.iinc 3 1, 3) := by decide +kernel
theorem d_P_bitAt_30 : decode b_P_bitAt 30 = .ok (.goto (-26), 3) := by decide +kernel
theorem d_P_bitAt_33 : decode b_P_bitAt 33 = .ok (.iconst (-1), 1) := by decide +kernel
theorem d_P_bitAt_34 : decode b_P_bitAt 34 = .ok (.ireturn, 1) := by decide +kernel
theorem d_JI_bitCount_0 : decode b_JI_bitCount 0 = .ok (.iload_n 0, 1) := by decide +kernel
theorem d_JI_bitCount_1 : decode b_JI_bitCount 1 = .ok (.iload_n 0, 1) := by decide +kernel
theorem d_JI_bitCount_2 : decode b_JI_bitCount 2 = .ok (.iconst 1, 1) := by decide +kernel
theorem d_JI_bitCount_3 : decode b_JI_bitCount 3 = .ok (.iushr, 1) := by decide +kernel
theorem d_JI_bitCount_4 : decode b_JI_bitCount 4 = .ok (.ldc_w 265, 3) := by decide +kernel
theorem d_JI_bitCount_7 : decode b_JI_bitCount 7 = .ok (.iand, 1) := by decide +kernel
theorem d_JI_bitCount_8 : decode b_JI_bitCount 8 = .ok (.isub, 1) := by decide +kernel
theorem d_JI_bitCount_9 : decode b_JI_bitCount 9 = .ok (.istore_n 0, 1) := by decide +kernel
theorem d_JI_bitCount_10 : decode b_JI_bitCount 10 = .ok (.iload_n 0, 1) := by decide +kernel
theorem d_JI_bitCount_11 : decode b_JI_bitCount 11 = .ok (.ldc_w 266, 3) := by decide +kernel
theorem d_JI_bitCount_14 : decode b_JI_bitCount 14 = .ok (.iand, 1) := by decide +kernel
theorem d_JI_bitCount_15 : decode b_JI_bitCount 15 = .ok (.iload_n 0, 1) := by decide +kernel
theorem d_JI_bitCount_16 : decode b_JI_bitCount 16 = .ok (.iconst 2, 1) := by decide +kernel
theorem d_JI_bitCount_17 : decode b_JI_bitCount 17 = .ok (.iushr, 1) := by decide +kernel
theorem d_JI_bitCount_18 : decode b_JI_bitCount 18 = .ok (.ldc_w 266, 3) := by decide +kernel
theorem d_JI_bitCount_21 : decode b_JI_bitCount 21 = .ok (.iand, 1) := by decide +kernel
theorem d_JI_bitCount_22 : decode b_JI_bitCount 22 = .ok (.iadd, 1) := by decide +kernel
theorem d_JI_bitCount_23 : decode b_JI_bitCount 23 = .ok (.istore_n 0, 1) := by decide +kernel
theorem d_JI_bitCount_24 : decode b_JI_bitCount 24 = .ok (.iload_n 0, 1) := by decide +kernel
theorem d_JI_bitCount_25 : decode b_JI_bitCount 25 = .ok (.iload_n 0, 1) := by decide +kernel
theorem d_JI_bitCount_26 : decode b_JI_bitCount 26 = .ok (.iconst 4, 1) := by decide +kernel
theorem d_JI_bitCount_27 : decode b_JI_bitCount 27 = .ok (.iushr, 1) := by decide +kernel
theorem d_JI_bitCount_28 : decode b_JI_bitCount 28 = .ok (.iadd, 1) := by decide +kernel
theorem d_JI_bitCount_29 : decode b_JI_bitCount 29 = .ok (.ldc_w 267, 3) := by decide +kernel
theorem d_JI_bitCount_32 : decode b_JI_bitCount 32 = .ok (.iand, 1) := by decide +kernel
theorem d_JI_bitCount_33 : decode b_JI_bitCount 33 = .ok (.istore_n 0, 1) := by decide +kernel
theorem d_JI_bitCount_34 : decode b_JI_bitCount 34 = .ok (.iload_n 0, 1) := by decide +kernel
theorem d_JI_bitCount_35 : decode b_JI_bitCount 35 = .ok (.iload_n 0, 1) := by decide +kernel
theorem d_JI_bitCount_36 : decode b_JI_bitCount 36 = .ok (.bipush 8, 2) := by decide +kernel
theorem d_JI_bitCount_38 : decode b_JI_bitCount 38 = .ok (.iushr, 1) := by decide +kernel
theorem d_JI_bitCount_39 : decode b_JI_bitCount 39 = .ok (.iadd, 1) := by decide +kernel
theorem d_JI_bitCount_40 : decode b_JI_bitCount 40 = .ok (.istore_n 0, 1) := by decide +kernel
theorem d_JI_bitCount_41 : decode b_JI_bitCount 41 = .ok (.iload_n 0, 1) := by decide +kernel
theorem d_JI_bitCount_42 : decode b_JI_bitCount 42 = .ok (.iload_n 0, 1) := by decide +kernel
theorem d_JI_bitCount_43 : decode b_JI_bitCount 43 = .ok (.bipush 16, 2) := by decide +kernel
theorem d_JI_bitCount_45 : decode b_JI_bitCount 45 = .ok (.iushr, 1) := by decide +kernel
theorem d_JI_bitCount_46 : decode b_JI_bitCount 46 = .ok (.iadd, 1) := by decide +kernel
theorem d_JI_bitCount_47 : decode b_JI_bitCount 47 = .ok (.istore_n 0, 1) := by decide +kernel
theorem d_JI_bitCount_48 : decode b_JI_bitCount 48 = .ok (.iload_n 0, 1) := by decide +kernel
theorem d_JI_bitCount_49 : decode b_JI_bitCount 49 = .ok (.bipush 63, 2) := by decide +kernel
theorem d_JI_bitCount_51 : decode b_JI_bitCount 51 = .ok (.iand, 1) := by decide +kernel
theorem d_JI_bitCount_52 : decode b_JI_bitCount 52 = .ok (.ireturn, 1) := by decide +kernel
