theorem d_K_init_0 : decode b_K_init 0 = .ok (.aload_n 0, 1) := by decide +kernel
theorem d_K_init_1 : decode b_K_init 1 = .ok (.invokespecial 1, 3) := by decide +kernel
theorem d_K_init_4 : decode b_K_init 4 = .ok (.aload_n 0, 1) := by decide +kernel
theorem d_K_init_5 : decode b_K_init 5 = .ok (.sipush 1024, 3) := by decide +kernel
theorem d_K_init_8 : decode b_K_init 8 = .ok (.newarray .int, 2) := by decide +kernel
theorem d_K_init_10 : decode b_K_init 10 = .ok (.putfield 9, 3) := by decide +kernel
theorem d_K_init_13 : decode b_K_init 13 = .ok (.aload_n 0, 1) := by decide +kernel
theorem d_K_init_14 : decode b_K_init 14 = .ok (.bipush 60, 2) := by decide +kernel
theorem d_K_init_16 : decode b_K_init 16 = .ok (.newarray .int, 2) := by decide +kernel
theorem d_K_init_18 : decode b_K_init 18 = .ok (.putfield 13, 3) := by decide +kernel
theorem d_K_init_21 : decode b_K_init 21 = .ok (.aload_n 0, 1) := by decide +kernel
theorem d_K_init_22 : decode b_K_init 22 = .ok (.sipush 1024, 3) := by decide +kernel
theorem d_K_init_25 : decode b_K_init 25 = .ok (.newarray .int, 2) := by decide +kernel
theorem d_K_init_27 : decode b_K_init 27 = .ok (.putfield 16, 3) := by decide +kernel
theorem d_K_init_30 : decode b_K_init 30 = .ok (.aload_n 0, 1) := by decide +kernel
theorem d_K_init_31 : decode b_K_init 31 = .ok (.iconst 0, 1) := by decide +kernel
theorem d_K_init_32 : decode b_K_init 32 = .ok (.putfield 19, 3) := by decide +kernel
theorem d_K_init_35 : decode b_K_init 35 = .ok (.aload_n 0, 1) := by decide +kernel
theorem d_K_init_36 : decode b_K_init 36 = .ok (.new 23, 3) := by decide +kernel
theorem d_K_init_39 : decode b_K_init 39 = .ok (.dup, 1) := by decide +kernel
theorem d_K_init_40 : decode b_K_init 40 = .ok (.invokespecial 25, 3) := by decide +kernel
theorem d_K_init_43 : decode b_K_init 43 = .ok (.putfield 26, 3) := by decide +kernel
theorem d_K_init_46 : decode b_K_init 46 = .ok (.aload_n 0, 1) := by decide +kernel
theorem d_K_init_47 : decode b_K_init 47 = .ok (.new 23, 3) := by decide +kernel
theorem d_K_init_50 : decode b_K_init 50 = .ok (.dup, 1) := by decide +kernel
theorem d_K_init_51 : decode b_K_init 51 = .ok (.invokespecial 25, 3) := by decide +kernel
theorem d_K_init_54 : decode b_K_init 54 = .ok (.putfield 30, 3) := by decide +kernel
theorem d_K_init_57 : decode b_K_init 57 = .ok (.aload_n 0, 1) := by decide +kernel
theorem d_K_init_58 : decode b_K_init 58 = .ok (.new 23, 3) := by decide +kernel
theorem d_K_init_61 : decode b_K_init 61 = .ok (.dup, 1) := by decide +kernel
theorem d_K_init_62 : decode b_K_init 62 = .ok (.invokespecial 25, 3) := by decide +kernel
theorem d_K_init_65 : decode b_K_init 65 = .ok (.putfield 33, 3) := by decide +kernel
theorem d_K_init_68 : decode b_K_init 68 = .ok (.aload_n 0, 1) := by decide +kernel
theorem d_K_init_69 : decode b_K_init 69 = .ok (.new 23, 3) := by decide +kernel
theorem d_K_init_72 : decode b_K_init 72 = .ok (.dup, 1) := by decide +kernel
theorem d_K_init_73 : decode b_K_init 73 = .ok (.invokespecial 25, 3) := by decide +kernel
theorem d_K_init_76 : decode b_K_init 76 = .ok (.putfield 36, 3) := by decide +kernel
theorem d_K_init_79 : decode b_K_init 79 = .ok (.aload_n 0, 1) := by decide +kernel
theorem d_K_init_80 : decode b_K_init 80 = .ok (.new 23, 3) := by decide +kernel
theorem d_K_init_83 : decode b_K_init 83 = .ok (.dup, 1) := by decide +kernel
theorem d_K_init_84 : decode b_K_init 84 = .ok (.invokespecial 25, 3) := by decide +kernel
theorem d_K_init_87 : decode b_K_init 87 = .ok (.putfield 39, 3) := by decide +kernel
theorem d_K_init_90 : decode b_K_init 90 = .ok (.return_, 1) := by decide +kernel
theorem d_K_change_0 : decode b_K_change 0 = .ok (.iload_n 1, 1) := by decide +kernel
theorem d_K_change_1 : decode b_K_change 1 = .ok (.iload_n 2, 1) := by decide +kernel
theorem d_K_change_2 : decode b_K_change 2 = .ok (.invokestatic 42, 3) := by decide +kernel
theorem d_K_change_5 : decode b_K_change 5 = .ok (.aload_n 0, 1) := by decide +kernel
theorem d_K_change_6 : decode b_K_change 6 = .ok (.getfield 19, 3) := by decide +kernel
theorem d_K_change_9 : decode b_K_change 9 = .ok (.bipush 60, 2) := by decide +kernel
theorem d_K_change_11 : decode b_K_change 11 = .ok (.if_icmp .lt 13, 3) := by decide +kernel
theorem d_K_change_14 : decode b_K_change 14 = .ok (.new 46, 3) := by decide +kernel
theorem d_K_change_17 : decode b_K_change 17 = .ok (.dup, 1) := by decide +kernel
theorem d_K_change_18 : decode b_K_change 18 = .ok (.ldc 48, 2) := by decide +kernel
theorem d_K_change_20 : decode b_K_change 20 = .ok (.invokespecial 50, 3) := by decide +kernel
theorem d_K_change_23 : decode b_K_change 23 = .ok (.athrow, 1) := by decide +kernel
theorem d_K_change_24 : decode b_K_change 24 = .ok (.iload_n 1, 1) := by decide +kernel
theorem d_K_change_25 : decode b_K_change 25 = .ok (.iload_n 2, 1) := by decide +kernel
theorem d_K_change_26 : decode b_K_change 26 = .ok (.invokestatic 53, 3) := by decide +kernel
theorem d_K_change_29 : decode b_K_change 29 = .ok (.istore 4, 2) := by decide +kernel
theorem d_K_change_31 : decode b_K_change 31 = .ok (.aload_n 0, 1) := by decide +kernel
theorem d_K_change_32 : decode b_K_change 32 = .ok (.getfield 13, 3) := by decide +kernel
theorem d_K_change_35 : decode b_K_change 35 = .ok (.aload_n 0, 1) := by decide +kernel
theorem d_K_change_36 : decode b_K_change 36 = .ok (.getfield 19, 3) := by decide +kernel
theorem d_K_change_39 : decode b_K_change 39 = .ok (.iload 4, 2) := by decide +kernel
theorem d_K_change_41 : decode b_K_change 41 = .ok (.iastore, 1) := by decide +kernel
theorem d_K_change_42 : decode b_K_change 42 = .ok (.aload_n 0, 1) := by decide +kernel
theorem d_K_change_43 : decode b_K_change 43 = .ok (.getfield 16, 3) := by decide +kernel
theorem d_K_change_46 : decode b_K_change 46 = .ok (.iload 4, 2) := by decide +kernel
theorem d_K_change_48 : decode b_K_change 48 = .ok (.dup2, 1) := by decide +kernel
theorem d_K_change_49 : decode b_K_change 49 = .ok (.iaload, 1) := by decide +kernel
theorem d_K_change_50 : decode b_K_change 50 = .ok (.iload_n 3, 1) := by decide +kernel
theorem d_K_change_51 : decode b_K_change 51 = .ok (.ifCond .eq 7, 3) := by decide +kernel
theorem d_K_change_54 : decode b_K_change 54 = .ok (.iconst 1, 1) := by decide +kernel
theorem d_K_change_55 : decode b_K_change 55 = .ok (.goto 4, 3) := by decide +kernel
theorem d_K_change_58 : decode b_K_change 58 = .ok (.iconst (-1), 1) := by decide +kernel
theorem d_K_change_59 : decode b_K_change 59 = .ok (.iadd, 1) := by decide +kernel
theorem d_K_change_60 : decode b_K_change 60 = .ok (.iastore, 1) := by decide +kernel
theorem d_K_change_61 : decode b_K_change 61 = .ok (.aload_n 0, 1) := by decide +kernel
theorem d_K_change_62 : decode b_K_change 62 = .ok (.dup, 1) := by decide +kernel
theorem d_K_change_63 : decode b_K_change 63 = .ok (.getfield 19, 3) := by decide +kernel
theorem d_K_change_66 : decode b_K_change 66 = .ok (.iconst 1, 1) := by decide +kernel
theorem d_K_change_67 : decode b_K_change 67 = .ok (.iadd, 1) := by decide +kernel
theorem d_K_change_68 : decode b_K_change 68 = .ok (.putfield 19, 3) := by decide +kernel
theorem d_K_change_71 : decode b_K_change 71 = .ok (.aload_n 0, 1) := by decide +kernel
theorem d_K_change_72 : decode b_K_change 72 = .ok (.getfield 19, 3) := by decide +kernel
theorem d_K_change_75 : decode b_K_change 75 = .ok (.ireturn, 1) := by decide +kernel
theorem d_K_forget_0 : decode b_K_forget 0 = .ok (.aload_n 0, 1) := by decide +kernel
theorem d_K_forget_1 : decode b_K_forget 1 = .ok (.getfield 19, 3) := by decide +kernel
theorem d_K_forget_4 : decode b_K_forget 4 = .ok (.istore_n 1, 1) := by decide +kernel
theorem d_K_forget_5 : decode b_K_forget 5 = .ok (.aload_n 0, 1) := by decide +kernel
theorem d_K_forget_6 : decode b_K_forget 6 = .ok (.invokevirtual 57, 3) := by decide +kernel
theorem d_K_forget_9 : decode b_K_forget 9 = .ok (.iload_n 1, 1) := by decide +kernel
theorem d_K_forget_10 : decode b_K_forget 10 = .ok (.ireturn, 1) := by decide +kernel
theorem d_K_apply_0 : decode b_K_apply 0 = .ok (.aload_n 0, 1) := by decide +kernel
theorem d_K_apply_1 : decode b_K_apply 1 = .ok (.invokevirtual 60, 3) := by decide +kernel
theorem d_K_apply_4 : decode b_K_apply 4 = .ok (.ifCond .eq 13, 3) := by decide +kernel
theorem d_K_apply_7 : decode b_K_apply 7 = .ok (.new 64, 3) := by decide +kernel
theorem d_K_apply_10 : decode b_K_apply 10 = .ok (.dup, 1) := by decide +kernel
theorem d_K_apply_11 : decode b_K_apply 11 = .ok (.ldc 66, 2) := by decide +kernel
theorem d_K_apply_13 : decode b_K_apply 13 = .ok (.invokespecial 68, 3) := by decide +kernel
theorem d_K_apply_16 : decode b_K_apply 16 = .ok (.athrow, 1) := by decide +kernel
theorem d_K_apply_17 : decode b_K_apply 17 = .ok (.aload_n 0, 1) := by decide +kernel
theorem d_K_apply_18 : decode b_K_apply 18 = .ok (.invokevirtual 69, 3) := by decide +kernel
theorem d_K_apply_21 : decode b_K_apply 21 = .ok (.aload_n 0, 1) := by decide +kernel
theorem d_K_apply_22 : decode b_K_apply 22 = .ok (.invokevirtual 57, 3) := by decide +kernel
theorem d_K_apply_25 : decode b_K_apply 25 = .ok (.aload_n 0, 1) := by decide +kernel
theorem d_K_apply_26 : decode b_K_apply 26 = .ok (.invokevirtual 72, 3) := by decide +kernel
theorem d_K_apply_29 : decode b_K_apply 29 = .ok (.aload_n 0, 1) := by decide +kernel
theorem d_K_apply_30 : decode b_K_apply 30 = .ok (.getfield 36, 3) := by decide +kernel
theorem d_K_apply_33 : decode b_K_apply 33 = .ok (.invokevirtual 75, 3) := by decide +kernel
theorem d_K_apply_36 : decode b_K_apply 36 = .ok (.aload_n 0, 1) := by decide +kernel
theorem d_K_apply_37 : decode b_K_apply 37 = .ok (.getfield 39, 3) := by decide +kernel
theorem d_K_apply_40 : decode b_K_apply 40 = .ok (.invokevirtual 75, 3) := by decide +kernel
theorem d_K_apply_43 : decode b_K_apply 43 = .ok (.iadd, 1) := by decide +kernel
theorem d_K_apply_44 : decode b_K_apply 44 = .ok (.ireturn, 1) := by decide +kernel
theorem d_K_holds_0 : decode b_K_holds 0 = .ok (.iload_n 1, 1) := by decide +kernel
theorem d_K_holds_1 : decode b_K_holds 1 = .ok (.iload_n 2, 1) := by decide +kernel
theorem d_K_holds_2 : decode b_K_holds 2 = .ok (.invokestatic 42, 3) := by decide +kernel
theorem d_K_holds_5 : decode b_K_holds 5 = .ok (.aload_n 0, 1) := by decide +kernel
theorem d_K_holds_6 : decode b_K_holds 6 = .ok (.getfield 30, 3) := by decide +kernel
theorem d_K_holds_9 : decode b_K_holds 9 = .ok (.iload_n 1, 1) := by decide +kernel
theorem d_K_holds_10 : decode b_K_holds 10 = .ok (.iload_n 2, 1) := by decide +kernel
theorem d_K_holds_11 : decode b_K_holds 11 = .ok (.invokevirtual 79, 3) := by decide +kernel
theorem d_K_holds_14 : decode b_K_holds 14 = .ok (.ireturn, 1) := by decide +kernel
theorem d_K_came_0 : decode b_K_came 0 = .ok (.aload_n 0, 1) := by decide +kernel
theorem d_K_came_1 : decode b_K_came 1 = .ok (.getfield 36, 3) := by decide +kernel
theorem d_K_came_4 : decode b_K_came 4 = .ok (.iload_n 1, 1) := by decide +kernel
theorem d_K_came_5 : decode b_K_came 5 = .ok (.invokevirtual 83, 3) := by decide +kernel
theorem d_K_came_8 : decode b_K_came 8 = .ok (.invokestatic 87, 3) := by decide +kernel
theorem d_K_came_11 : decode b_K_came 11 = .ok (.ireturn, 1) := by decide +kernel
theorem d_K_went_0 : decode b_K_went 0 = .ok (.aload_n 0, 1) := by decide +kernel
theorem d_K_went_1 : decode b_K_went 1 = .ok (.getfield 39, 3) := by decide +kernel
theorem d_K_went_4 : decode b_K_went 4 = .ok (.iload_n 1, 1) := by decide +kernel
theorem d_K_went_5 : decode b_K_went 5 = .ok (.invokevirtual 83, 3) := by decide +kernel
theorem d_K_went_8 : decode b_K_went 8 = .ok (.invokestatic 87, 3) := by decide +kernel
theorem d_K_went_11 : decode b_K_went 11 = .ok (.ireturn, 1) := by decide +kernel
theorem d_K_distance_0 : decode b_K_distance 0 = .ok (.iload_n 1, 1) := by decide +kernel
theorem d_K_distance_1 : decode b_K_distance 1 = .ok (.iload_n 2, 1) := by decide +kernel
theorem d_K_distance_2 : decode b_K_distance 2 = .ok (.invokestatic 42, 3) := by decide +kernel
theorem d_K_distance_5 : decode b_K_distance 5 = .ok (.aload_n 0, 1) := by decide +kernel
theorem d_K_distance_6 : decode b_K_distance 6 = .ok (.getfield 26, 3) := by decide +kernel
theorem d_K_distance_9 : decode b_K_distance 9 = .ok (.iload_n 1, 1) := by decide +kernel
theorem d_K_distance_10 : decode b_K_distance 10 = .ok (.iload_n 2, 1) := by decide +kernel
theorem d_K_distance_11 : decode b_K_distance 11 = .ok (.invokevirtual 90, 3) := by decide +kernel
theorem d_K_distance_14 : decode b_K_distance 14 = .ok (.istore_n 3, 1) := by decide +kernel
theorem d_K_distance_15 : decode b_K_distance 15 = .ok (.iload_n 3, 1) := by decide +kernel
theorem d_K_distance_16 : decode b_K_distance 16 = .ok (.iconst (-1), 1) := by decide +kernel
theorem d_K_distance_17 : decode b_K_distance 17 = .ok (.if_icmp .ne 13, 3) := by decide +kernel
theorem d_K_distance_20 : decode b_K_distance 20 = .ok (.new 93, 3) := by decide +kernel
theorem d_K_distance_23 : decode b_K_distance 23 = .ok (.dup, 1) := by decide +kernel
theorem d_K_distance_24 : decode b_K_distance 24 = .ok (.ldc 95, 2) := by decide +kernel
theorem d_K_distance_26 : decode b_K_distance 26 = .ok (.invokespecial 97, 3) := by decide +kernel
theorem d_K_distance_29 : decode b_K_distance 29 = .ok (.athrow, 1) := by decide +kernel
theorem d_K_distance_30 : decode b_K_distance 30 = .ok (.iload_n 3, 1) := by decide +kernel
theorem d_K_distance_31 : decode b_K_distance 31 = .ok (.ireturn, 1) := by decide +kernel
theorem d_K_times_0 : decode b_K_times 0 = .ok (.iload_n 1, 1) := by decide +kernel
theorem d_K_times_1 : decode b_K_times 1 = .ok (.iload_n 2, 1) := by decide +kernel
theorem d_K_times_2 : decode b_K_times 2 = .ok (.invokestatic 42, 3) := by decide +kernel
theorem d_K_times_5 : decode b_K_times 5 = .ok (.aload_n 0, 1) := by decide +kernel
theorem d_K_times_6 : decode b_K_times 6 = .ok (.getfield 9, 3) := by decide +kernel
theorem d_K_times_9 : decode b_K_times 9 = .ok (.iload_n 1, 1) := by decide +kernel
theorem d_K_times_10 : decode b_K_times 10 = .ok (.iload_n 2, 1) := by decide +kernel
theorem d_K_times_11 : decode b_K_times 11 = .ok (.invokestatic 53, 3) := by decide +kernel
theorem d_K_times_14 : decode b_K_times 14 = .ok (.iaload, 1) := by decide +kernel
theorem d_K_times_15 : decode b_K_times 15 = .ok (.ireturn, 1) := by decide +kernel
theorem d_K_count_0 : decode b_K_count 0 = .ok (.iload_n 1, 1) := by decide +kernel
theorem d_K_count_1 : decode b_K_count 1 = .ok (.tableswitch 105 0 7 #[47, 55, 60, 68, 73, 81, 89, 97], 47) := by decide +kernel
theorem d_K_count_48 : decode b_K_count 48 = .ok (.aload_n 0, 1) := by decide +kernel
theorem d_K_count_49 : decode b_K_count 49 = .ok (.getfield 26, 3) := by decide +kernel
theorem d_K_count_52 : decode b_K_count 52 = .ok (.invokevirtual 75, 3) := by decide +kernel
theorem d_K_count_55 : decode b_K_count 55 = .ok (.ireturn, 1) := by decide +kernel
theorem d_K_count_56 : decode b_K_count 56 = .ok (.aload_n 0, 1) := by decide +kernel
theorem d_K_count_57 : decode b_K_count 57 = .ok (.invokevirtual 98, 3) := by decide +kernel
theorem d_K_count_60 : decode b_K_count 60 = .ok (.ireturn, 1) := by decide +kernel
theorem d_K_count_61 : decode b_K_count 61 = .ok (.aload_n 0, 1) := by decide +kernel
theorem d_K_count_62 : decode b_K_count 62 = .ok (.getfield 30, 3) := by decide +kernel
theorem d_K_count_65 : decode b_K_count 65 = .ok (.invokevirtual 75, 3) := by decide +kernel
theorem d_K_count_68 : decode b_K_count 68 = .ok (.ireturn, 1) := by decide +kernel
theorem d_K_count_69 : decode b_K_count 69 = .ok (.aload_n 0, 1) := by decide +kernel
theorem d_K_count_70 : decode b_K_count 70 = .ok (.getfield 19, 3) := by decide +kernel
theorem d_K_count_73 : decode b_K_count 73 = .ok (.ireturn, 1) := by decide +kernel
theorem d_K_count_74 : decode b_K_count 74 = .ok (.aload_n 0, 1) := by decide +kernel
theorem d_K_count_75 : decode b_K_count 75 = .ok (.getfield 36, 3) := by decide +kernel
theorem d_K_count_78 : decode b_K_count 78 = .ok (.invokevirtual 75, 3) := by decide +kernel
theorem d_K_count_81 : decode b_K_count 81 = .ok (.ireturn, 1) := by decide +kernel
theorem d_K_count_82 : decode b_K_count 82 = .ok (.aload_n 0, 1) := by decide +kernel
theorem d_K_count_83 : decode b_K_count 83 = .ok (.getfield 39, 3) := by decide +kernel
theorem d_K_count_86 : decode b_K_count 86 = .ok (.invokevirtual 75, 3) := by decide +kernel
theorem d_K_count_89 : decode b_K_count 89 = .ok (.ireturn, 1) := by decide +kernel
theorem d_K_count_90 : decode b_K_count 90 = .ok (.aload_n 0, 1) := by decide +kernel
theorem d_K_count_91 : decode b_K_count 91 = .ok (.getfield 30, 3) := by decide +kernel
theorem d_K_count_94 : decode b_K_count 94 = .ok (.invokevirtual 101, 3) := by decide +kernel
theorem d_K_count_97 : decode b_K_count 97 = .ok (.ireturn, 1) := by decide +kernel
theorem d_K_count_98 : decode b_K_count 98 = .ok (.aload_n 0, 1) := by decide +kernel
theorem d_K_count_99 : decode b_K_count 99 = .ok (.getfield 30, 3) := by decide +kernel
theorem d_K_count_102 : decode b_K_count 102 = .ok (.invokevirtual 104, 3) := by decide +kernel
theorem d_K_count_105 : decode b_K_count 105 = .ok (.ireturn, 1) := by decide +kernel
theorem d_K_count_106 : decode b_K_count 106 = .ok (.iconst (-1), 1) := by decide +kernel
theorem d_K_count_107 : decode b_K_count 107 = .ok (.ireturn, 1) := by decide +kernel
theorem d_K_isVertex_0 : decode b_K_isVertex 0 = .ok (.iload_n 0, 1) := by decide +kernel
theorem d_K_isVertex_1 : decode b_K_isVertex 1 = .ok (.ifCond .lt 13, 3) := by decide +kernel
theorem d_K_isVertex_4 : decode b_K_isVertex 4 = .ok (.iload_n 0, 1) := by decide +kernel
theorem d_K_isVertex_5 : decode b_K_isVertex 5 = .ok (.bipush 32, 2) := by decide +kernel
theorem d_K_isVertex_7 : decode b_K_isVertex 7 = .ok (.if_icmp .ge 7, 3) := by decide +kernel
theorem d_K_isVertex_10 : decode b_K_isVertex 10 = .ok (.iconst 1, 1) := by decide +kernel
theorem d_K_isVertex_11 : decode b_K_isVertex 11 = .ok (.goto 4, 3) := by decide +kernel
theorem d_K_isVertex_14 : decode b_K_isVertex 14 = .ok (.iconst 0, 1) := by decide +kernel
theorem d_K_isVertex_15 : decode b_K_isVertex 15 = .ok (.ireturn, 1) := by decide +kernel
theorem d_K_requireVertices_0 : decode b_K_requireVertices 0 = .ok (.iload_n 0, 1) := by decide +kernel
theorem d_K_requireVertices_1 : decode b_K_requireVertices 1 = .ok (.invokestatic 107, 3) := by decide +kernel
theorem d_K_requireVertices_4 : decode b_K_requireVertices 4 = .ok (.ifCond .eq 10, 3) := by decide +kernel
theorem d_K_requireVertices_7 : decode b_K_requireVertices 7 = .ok (.iload_n 1, 1) := by decide +kernel
theorem d_K_requireVertices_8 : decode b_K_requireVertices 8 = .ok (.invokestatic 107, 3) := by decide +kernel
theorem d_K_requireVertices_11 : decode b_K_requireVertices 11 = .ok (.ifCond .ne 13, 3) := by decide +kernel
theorem d_K_requireVertices_14 : decode b_K_requireVertices 14 = .ok (.new 111, 3) := by decide +kernel
theorem d_K_requireVertices_17 : decode b_K_requireVertices 17 = .ok (.dup, 1) := by decide +kernel
theorem d_K_requireVertices_18 : decode b_K_requireVertices 18 = .ok (.ldc 113, 2) := by decide +kernel
theorem d_K_requireVertices_20 : decode b_K_requireVertices 20 = .ok (.invokespecial 115, 3) := by decide +kernel
theorem d_K_requireVertices_23 : decode b_K_requireVertices 23 = .ok (.athrow, 1) := by decide +kernel
theorem d_K_requireVertices_24 : decode b_K_requireVertices 24 = .ok (.return_, 1) := by decide +kernel
theorem d_K_requirePair_0 : decode b_K_requirePair 0 = .ok (.iload_n 0, 1) := by decide +kernel
theorem d_K_requirePair_1 : decode b_K_requirePair 1 = .ok (.iconst (-1), 1) := by decide +kernel
theorem d_K_requirePair_2 : decode b_K_requirePair 2 = .ok (.if_icmp .ne 13, 3) := by decide +kernel
theorem d_K_requirePair_5 : decode b_K_requirePair 5 = .ok (.new 93, 3) := by decide +kernel
theorem d_K_requirePair_8 : decode b_K_requirePair 8 = .ok (.dup, 1) := by decide +kernel
theorem d_K_requirePair_9 : decode b_K_requirePair 9 = .ok (.ldc 116, 2) := by decide +kernel
theorem d_K_requirePair_11 : decode b_K_requirePair 11 = .ok (.invokespecial 97, 3) := by decide +kernel
theorem d_K_requirePair_14 : decode b_K_requirePair 14 = .ok (.athrow, 1) := by decide +kernel
theorem d_K_requirePair_15 : decode b_K_requirePair 15 = .ok (.iload_n 0, 1) := by decide +kernel
theorem d_K_requirePair_16 : decode b_K_requirePair 16 = .ok (.ireturn, 1) := by decide +kernel
theorem d_K_numberOf_0 : decode b_K_numberOf 0 = .ok (.bipush 32, 2) := by decide +kernel
theorem d_K_numberOf_2 : decode b_K_numberOf 2 = .ok (.iload_n 0, 1) := by decide +kernel
theorem d_K_numberOf_3 : decode b_K_numberOf 3 = .ok (.imul, 1) := by decide +kernel
theorem d_K_numberOf_4 : decode b_K_numberOf 4 = .ok (.iload_n 1, 1) := by decide +kernel
theorem d_K_numberOf_5 : decode b_K_numberOf 5 = .ok (.iadd, 1) := by decide +kernel
theorem d_K_numberOf_6 : decode b_K_numberOf 6 = .ok (.ireturn, 1) := by decide +kernel
theorem d_K_gatheredConflicts_0 : decode b_K_gatheredConflicts 0 = .ok (.iconst 0, 1) := by decide +kernel
theorem d_K_gatheredConflicts_1 : decode b_K_gatheredConflicts 1 = .ok (.istore_n 1, 1) := by decide +kernel
theorem d_K_gatheredConflicts_2 : decode b_K_gatheredConflicts 2 = .ok (.iload_n 1, 1) := by decide +kernel
theorem d_K_gatheredConflicts_3 : decode b_K_gatheredConflicts 3 = .ok (.aload_n 0, 1) := by decide +kernel
theorem d_K_gatheredConflicts_4 : decode b_K_gatheredConflicts 4 = .ok (.getfield 19, 3) := by decide +kernel
theorem d_K_gatheredConflicts_7 : decode b_K_gatheredConflicts 7 = .ok (.if_icmp .ge 34, 3) := by decide +kernel
theorem d_K_gatheredConflicts_10 : decode b_K_gatheredConflicts 10 = .ok (.aload_n 0, 1) := by decide +kernel
theorem d_K_gatheredConflicts_11 : decode b_K_gatheredConflicts 11 = .ok (.getfield 13, 3) := by decide +kernel
theorem d_K_gatheredConflicts_14 : decode b_K_gatheredConflicts 14 = .ok (.iload_n 1, 1) := by decide +kernel
theorem d_K_gatheredConflicts_15 : decode b_K_gatheredConflicts 15 = .ok (.iaload, 1) := by decide +kernel
theorem d_K_gatheredConflicts_16 : decode b_K_gatheredConflicts 16 = .ok (.istore_n 2, 1) := by decide +kernel
theorem d_K_gatheredConflicts_17 : decode b_K_gatheredConflicts 17 = .ok (.aload_n 0, 1) := by decide +kernel
theorem d_K_gatheredConflicts_18 : decode b_K_gatheredConflicts 18 = .ok (.getfield 9, 3) := by decide +kernel
theorem d_K_gatheredConflicts_21 : decode b_K_gatheredConflicts 21 = .ok (.iload_n 2, 1) := by decide +kernel
theorem d_K_gatheredConflicts_22 : decode b_K_gatheredConflicts 22 = .ok (.iaload, 1) := by decide +kernel
theorem d_K_gatheredConflicts_23 : decode b_K_gatheredConflicts 23 = .ok (.aload_n 0, 1) := by decide +kernel
theorem d_K_gatheredConflicts_24 : decode b_K_gatheredConflicts 24 = .ok (.getfield 16, 3) := by decide +kernel
theorem d_K_gatheredConflicts_27 : decode b_K_gatheredConflicts 27 = .ok (.iload_n 2, 1) := by decide +kernel
theorem d_K_gatheredConflicts_28 : decode b_K_gatheredConflicts 28 = .ok (.iaload, 1) := by decide +kernel
theorem d_K_gatheredConflicts_29 : decode b_K_gatheredConflicts 29 = .ok (.iadd, 1) := by decide +kernel
theorem d_K_gatheredConflicts_30 : decode b_K_gatheredConflicts 30 = .ok (.ifCond .ge 5, 3) := by decide +kernel
theorem d_K_gatheredConflicts_33 : decode b_K_gatheredConflicts 33 = .ok (.iconst 1, 1) := by decide +kernel
theorem d_K_gatheredConflicts_34 : decode b_K_gatheredConflicts 34 = .ok (.ireturn, 1) := by decide +kernel
theorem d_K_gatheredConflicts_35 : decode b_K_gatheredConflicts 35 = .ok (.iinc 1 1, 3) := by decide +kernel
theorem d_K_gatheredConflicts_38 : decode b_K_gatheredConflicts 38 = .ok (.goto (-36), 3) := by decide +kernel
theorem d_K_gatheredConflicts_41 : decode b_K_gatheredConflicts 41 = .ok (.iconst 0, 1) := by decide +kernel
theorem d_K_gatheredConflicts_42 : decode b_K_gatheredConflicts 42 = .ok (.ireturn, 1) := by decide +kernel
theorem d_K_addGatheredToCounts_0 : decode b_K_addGatheredToCounts 0 = .ok (.iconst 0, 1) := by decide +kernel
theorem d_K_addGatheredToCounts_1 : decode b_K_addGatheredToCounts 1 = .ok (.istore_n 1, 1) := by decide +kernel
theorem d_K_addGatheredToCounts_2 : decode b_K_addGatheredToCounts 2 = .ok (.iload_n 1, 1) := by decide +kernel
theorem d_K_addGatheredToCounts_3 : decode b_K_addGatheredToCounts 3 = .ok (.aload_n 0, 1) := by decide +kernel
theorem d_K_addGatheredToCounts_4 : decode b_K_addGatheredToCounts 4 = .ok (.getfield 19, 3) := by decide +kernel
theorem d_K_addGatheredToCounts_7 : decode b_K_addGatheredToCounts 7 = .ok (.if_icmp .ge 67, 3) := by decide +kernel
theorem d_K_addGatheredToCounts_10 : decode b_K_addGatheredToCounts 10 = .ok (.aload_n 0, 1) := by decide +kernel
theorem d_K_addGatheredToCounts_11 : decode b_K_addGatheredToCounts 11 = .ok (.getfield 13, 3) := by decide +kernel
theorem d_K_addGatheredToCounts_14 : decode b_K_addGatheredToCounts 14 = .ok (.iload_n 1, 1) := by decide +kernel
theorem d_K_addGatheredToCounts_15 : decode b_K_addGatheredToCounts 15 = .ok (.iaload, 1) := by decide +kernel
theorem d_K_addGatheredToCounts_16 : decode b_K_addGatheredToCounts 16 = .ok (.istore_n 2, 1) := by decide +kernel
theorem d_K_addGatheredToCounts_17 : decode b_K_addGatheredToCounts 17 = .ok (.aload_n 0, 1) := by decide +kernel
theorem d_K_addGatheredToCounts_18 : decode b_K_addGatheredToCounts 18 = .ok (.getfield 9, 3) := by decide +kernel
theorem d_K_addGatheredToCounts_21 : decode b_K_addGatheredToCounts 21 = .ok (.iload_n 2, 1) := by decide +kernel
theorem d_K_addGatheredToCounts_22 : decode b_K_addGatheredToCounts 22 = .ok (.dup2, 1) := by decide +kernel
theorem d_K_addGatheredToCounts_23 : decode b_K_addGatheredToCounts 23 = .ok (.iaload, 1) := by decide +kernel
theorem d_K_addGatheredToCounts_24 : decode b_K_addGatheredToCounts 24 = .ok (.aload_n 0, 1) := by decide +kernel
theorem d_K_addGatheredToCounts_25 : decode b_K_addGatheredToCounts 25 = .ok (.getfield 16, 3) := by decide +kernel
theorem d_K_addGatheredToCounts_28 : decode b_K_addGatheredToCounts 28 = .ok (.iload_n 2, 1) := by decide +kernel
theorem d_K_addGatheredToCounts_29 : decode b_K_addGatheredToCounts 29 = .ok (.iaload, 1) := by decide +kernel
theorem d_K_addGatheredToCounts_30 : decode b_K_addGatheredToCounts 30 = .ok (.iadd, 1) := by decide +kernel
theorem d_K_addGatheredToCounts_31 : decode b_K_addGatheredToCounts 31 = .ok (.iastore, 1) := by decide +kernel
theorem d_K_addGatheredToCounts_32 : decode b_K_addGatheredToCounts 32 = .ok (.aload_n 0, 1) := by decide +kernel
theorem d_K_addGatheredToCounts_33 : decode b_K_addGatheredToCounts 33 = .ok (.getfield 16, 3) := by decide +kernel
theorem d_K_addGatheredToCounts_36 : decode b_K_addGatheredToCounts 36 = .ok (.iload_n 2, 1) := by decide +kernel
theorem d_K_addGatheredToCounts_37 : decode b_K_addGatheredToCounts 37 = .ok (.iconst 0, 1) := by decide +kernel
theorem d_K_addGatheredToCounts_38 : decode b_K_addGatheredToCounts 38 = .ok (.iastore, 1) := by decide +kernel
theorem d_K_addGatheredToCounts_39 : decode b_K_addGatheredToCounts 39 = .ok (.aload_n 0, 1) := by decide +kernel
theorem d_K_addGatheredToCounts_40 : decode b_K_addGatheredToCounts 40 = .ok (.getfield 26, 3) := by decide +kernel
theorem d_K_addGatheredToCounts_43 : decode b_K_addGatheredToCounts 43 = .ok (.iload_n 2, 1) := by decide +kernel
theorem d_K_addGatheredToCounts_44 : decode b_K_addGatheredToCounts 44 = .ok (.bipush 32, 2) := by decide +kernel
theorem d_K_addGatheredToCounts_46 : decode b_K_addGatheredToCounts 46 = .ok (.idiv, 1) := by decide +kernel
theorem d_K_addGatheredToCounts_47 : decode b_K_addGatheredToCounts 47 = .ok (.iload_n 2, 1) := by decide +kernel
theorem d_K_addGatheredToCounts_48 : decode b_K_addGatheredToCounts 48 = .ok (.bipush 32, 2) := by decide +kernel
theorem d_K_addGatheredToCounts_50 : decode b_K_addGatheredToCounts 50 = .ok (.irem, 1) := by decide +kernel
theorem d_K_addGatheredToCounts_51 : decode b_K_addGatheredToCounts 51 = .ok (.aload_n 0, 1) := by decide +kernel
theorem d_K_addGatheredToCounts_52 : decode b_K_addGatheredToCounts 52 = .ok (.getfield 9, 3) := by decide +kernel
theorem d_K_addGatheredToCounts_55 : decode b_K_addGatheredToCounts 55 = .ok (.iload_n 2, 1) := by decide +kernel
theorem d_K_addGatheredToCounts_56 : decode b_K_addGatheredToCounts 56 = .ok (.iaload, 1) := by decide +kernel
theorem d_K_addGatheredToCounts_57 : decode b_K_addGatheredToCounts 57 = .ok (.ifCond .le 7, 3) := by decide +kernel
theorem d_K_addGatheredToCounts_60 : decode b_K_addGatheredToCounts 60 = .ok (.iconst 1, 1) := by decide +kernel
theorem d_K_addGatheredToCounts_61 : decode b_K_addGatheredToCounts 61 = .ok (.goto 4, 3) := by decide +kernel
theorem d_K_addGatheredToCounts_64 : decode b_K_addGatheredToCounts 64 = .ok (.iconst 0, 1) := by decide +kernel
theorem d_K_addGatheredToCounts_65 : decode b_K_addGatheredToCounts 65 = .ok (.invokevirtual 118, 3) := by decide +kernel
theorem d_K_addGatheredToCounts_68 : decode b_K_addGatheredToCounts 68 = .ok (.iinc 1 1, 3) := by decide +kernel
theorem d_K_addGatheredToCounts_71 : decode b_K_addGatheredToCounts 71 = .ok (.goto (-69), 3) := by decide +kernel
theorem d_K_addGatheredToCounts_74 : decode b_K_addGatheredToCounts 74 = .ok (.return_, 1) := by decide +kernel
theorem d_K_clearGathered_0 : decode b_K_clearGathered 0 = .ok (.iconst 0, 1) := by decide +kernel
theorem d_K_clearGathered_1 : decode b_K_clearGathered 1 = .ok (.istore_n 1, 1) := by decide +kernel
theorem d_K_clearGathered_2 : decode b_K_clearGathered 2 = .ok (.iload_n 1, 1) := by decide +kernel
theorem d_K_clearGathered_3 : decode b_K_clearGathered 3 = .ok (.aload_n 0, 1) := by decide +kernel
theorem d_K_clearGathered_4 : decode b_K_clearGathered 4 = .ok (.getfield 19, 3) := by decide +kernel
theorem d_K_clearGathered_7 : decode b_K_clearGathered 7 = .ok (.if_icmp .ge 21, 3) := by decide +kernel
theorem d_K_clearGathered_10 : decode b_K_clearGathered 10 = .ok (.aload_n 0, 1) := by decide +kernel
theorem d_K_clearGathered_11 : decode b_K_clearGathered 11 = .ok (.getfield 16, 3) := by decide +kernel
theorem d_K_clearGathered_14 : decode b_K_clearGathered 14 = .ok (.aload_n 0, 1) := by decide +kernel
theorem d_K_clearGathered_15 : decode b_K_clearGathered 15 = .ok (.getfield 13, 3) := by decide +kernel
theorem d_K_clearGathered_18 : decode b_K_clearGathered 18 = .ok (.iload_n 1, 1) := by decide +kernel
theorem d_K_clearGathered_19 : decode b_K_clearGathered 19 = .ok (.iaload, 1) := by decide +kernel
theorem d_K_clearGathered_20 : decode b_K_clearGathered 20 = .ok (.iconst 0, 1) := by decide +kernel
theorem d_K_clearGathered_21 : decode b_K_clearGathered 21 = .ok (.iastore, 1) := by decide +kernel
theorem d_K_clearGathered_22 : decode b_K_clearGathered 22 = .ok (.iinc 1 1, 3) := by decide +kernel
theorem d_K_clearGathered_25 : decode b_K_clearGathered 25 = .ok (.goto (-23), 3) := by decide +kernel
theorem d_K_clearGathered_28 : decode b_K_clearGathered 28 = .ok (.aload_n 0, 1) := by decide +kernel
theorem d_K_clearGathered_29 : decode b_K_clearGathered 29 = .ok (.iconst 0, 1) := by decide +kernel
theorem d_K_clearGathered_30 : decode b_K_clearGathered 30 = .ok (.putfield 19, 3) := by decide +kernel
theorem d_K_clearGathered_33 : decode b_K_clearGathered 33 = .ok (.return_, 1) := by decide +kernel
theorem d_K_followEdges_0 : decode b_K_followEdges 0 = .ok (.aload_n 0, 1) := by decide +kernel
theorem d_K_followEdges_1 : decode b_K_followEdges 1 = .ok (.getfield 33, 3) := by decide +kernel
theorem d_K_followEdges_4 : decode b_K_followEdges 4 = .ok (.aload_n 0, 1) := by decide +kernel
theorem d_K_followEdges_5 : decode b_K_followEdges 5 = .ok (.getfield 30, 3) := by decide +kernel
theorem d_K_followEdges_8 : decode b_K_followEdges 8 = .ok (.invokevirtual 122, 3) := by decide +kernel
theorem d_K_followEdges_11 : decode b_K_followEdges 11 = .ok (.aload_n 0, 1) := by decide +kernel
theorem d_K_followEdges_12 : decode b_K_followEdges 12 = .ok (.getfield 30, 3) := by decide +kernel
theorem d_K_followEdges_15 : decode b_K_followEdges 15 = .ok (.aload_n 0, 1) := by decide +kernel
theorem d_K_followEdges_16 : decode b_K_followEdges 16 = .ok (.getfield 26, 3) := by decide +kernel
theorem d_K_followEdges_19 : decode b_K_followEdges 19 = .ok (.invokevirtual 122, 3) := by decide +kernel
theorem d_K_followEdges_22 : decode b_K_followEdges 22 = .ok (.aload_n 0, 1) := by decide +kernel
theorem d_K_followEdges_23 : decode b_K_followEdges 23 = .ok (.getfield 30, 3) := by decide +kernel
theorem d_K_followEdges_26 : decode b_K_followEdges 26 = .ok (.invokevirtual 126, 3) := by decide +kernel
theorem d_K_followEdges_29 : decode b_K_followEdges 29 = .ok (.aload_n 0, 1) := by decide +kernel
theorem d_K_followEdges_30 : decode b_K_followEdges 30 = .ok (.getfield 36, 3) := by decide +kernel
theorem d_K_followEdges_33 : decode b_K_followEdges 33 = .ok (.aload_n 0, 1) := by decide +kernel
theorem d_K_followEdges_34 : decode b_K_followEdges 34 = .ok (.getfield 30, 3) := by decide +kernel
theorem d_K_followEdges_37 : decode b_K_followEdges 37 = .ok (.aload_n 0, 1) := by decide +kernel
theorem d_K_followEdges_38 : decode b_K_followEdges 38 = .ok (.getfield 33, 3) := by decide +kernel
theorem d_K_followEdges_41 : decode b_K_followEdges 41 = .ok (.invokevirtual 129, 3) := by decide +kernel
theorem d_K_followEdges_44 : decode b_K_followEdges 44 = .ok (.aload_n 0, 1) := by decide +kernel
theorem d_K_followEdges_45 : decode b_K_followEdges 45 = .ok (.getfield 39, 3) := by decide +kernel
theorem d_K_followEdges_48 : decode b_K_followEdges 48 = .ok (.aload_n 0, 1) := by decide +kernel
theorem d_K_followEdges_49 : decode b_K_followEdges 49 = .ok (.getfield 33, 3) := by decide +kernel
theorem d_K_followEdges_52 : decode b_K_followEdges 52 = .ok (.aload_n 0, 1) := by decide +kernel
theorem d_K_followEdges_53 : decode b_K_followEdges 53 = .ok (.getfield 30, 3) := by decide +kernel
theorem d_K_followEdges_56 : decode b_K_followEdges 56 = .ok (.invokevirtual 129, 3) := by decide +kernel
theorem d_K_followEdges_59 : decode b_K_followEdges 59 = .ok (.return_, 1) := by decide +kernel
theorem d_K_sumOfCounts_0 : decode b_K_sumOfCounts 0 = .ok (.iconst 0, 1) := by decide +kernel
theorem d_K_sumOfCounts_1 : decode b_K_sumOfCounts 1 = .ok (.istore_n 1, 1) := by decide +kernel
theorem d_K_sumOfCounts_2 : decode b_K_sumOfCounts 2 = .ok (.iconst 0, 1) := by decide +kernel
theorem d_K_sumOfCounts_3 : decode b_K_sumOfCounts 3 = .ok (.istore_n 2, 1) := by decide +kernel
theorem d_K_sumOfCounts_4 : decode b_K_sumOfCounts 4 = .ok (.iload_n 2, 1) := by decide +kernel
theorem d_K_sumOfCounts_5 : decode b_K_sumOfCounts 5 = .ok (.aload_n 0, 1) := by decide +kernel
theorem d_K_sumOfCounts_6 : decode b_K_sumOfCounts 6 = .ok (.getfield 9, 3) := by decide +kernel
theorem d_K_sumOfCounts_9 : decode b_K_sumOfCounts 9 = .ok (.arraylength, 1) := by decide +kernel
theorem d_K_sumOfCounts_10 : decode b_K_sumOfCounts 10 = .ok (.if_icmp .ge 18, 3) := by decide +kernel
theorem d_K_sumOfCounts_13 : decode b_K_sumOfCounts 13 = .ok (.iload_n 1, 1) := by decide +kernel
theorem d_K_sumOfCounts_14 : decode b_K_sumOfCounts 14 = .ok (.aload_n 0, 1) := by decide +kernel
theorem d_K_sumOfCounts_15 : decode b_K_sumOfCounts 15 = .ok (.getfield 9, 3) := by decide +kernel
theorem d_K_sumOfCounts_18 : decode b_K_sumOfCounts 18 = .ok (.iload_n 2, 1) := by decide +kernel
theorem d_K_sumOfCounts_19 : decode b_K_sumOfCounts 19 = .ok (.iaload, 1) := by decide +kernel
theorem d_K_sumOfCounts_20 : decode b_K_sumOfCounts 20 = .ok (.iadd, 1) := by decide +kernel
theorem d_K_sumOfCounts_21 : decode b_K_sumOfCounts 21 = .ok (.istore_n 1, 1) := by decide +kernel
theorem d_K_sumOfCounts_22 : decode b_K_sumOfCounts 22 = .ok (.iinc 2 1, 3) := by decide +kernel
theorem d_K_sumOfCounts_25 : decode b_K_sumOfCounts 25 = .ok (.goto (-21), 3) := by decide +kernel
theorem d_K_sumOfCounts_28 : decode b_K_sumOfCounts 28 = .ok (.iload_n 1, 1) := by decide +kernel
theorem d_K_sumOfCounts_29 : decode b_K_sumOfCounts 29 = .ok (.ireturn, 1) := by decide +kernel
