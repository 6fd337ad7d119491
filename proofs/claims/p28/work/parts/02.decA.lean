theorem dX0_init_0 : decode cX0_init 0 = .ok (.aload_n 0, 1) := by decide +kernel
theorem dX0_init_1 : decode cX0_init 1 = .ok (.invokespecial 3, 3) := by decide +kernel
theorem dX0_init_4 : decode cX0_init 4 = .ok (.aload_n 0, 1) := by decide +kernel
theorem dX0_init_5 : decode cX0_init 5 = .ok (.bipush 8, 2) := by decide +kernel
theorem dX0_init_7 : decode cX0_init 7 = .ok (.newarray .int, 2) := by decide +kernel
theorem dX0_init_9 : decode cX0_init 9 = .ok (.putfield 9, 3) := by decide +kernel
theorem dX0_init_12 : decode cX0_init 12 = .ok (.aload_n 0, 1) := by decide +kernel
theorem dX0_init_13 : decode cX0_init 13 = .ok (.bipush 8, 2) := by decide +kernel
theorem dX0_init_15 : decode cX0_init 15 = .ok (.newarray .int, 2) := by decide +kernel
theorem dX0_init_17 : decode cX0_init 17 = .ok (.putfield 15, 3) := by decide +kernel
theorem dX0_init_20 : decode cX0_init 20 = .ok (.aload_n 0, 1) := by decide +kernel
theorem dX0_init_21 : decode cX0_init 21 = .ok (.iconst 4, 1) := by decide +kernel
theorem dX0_init_22 : decode cX0_init 22 = .ok (.newarray .int, 2) := by decide +kernel
theorem dX0_init_24 : decode cX0_init 24 = .ok (.putfield 18, 3) := by decide +kernel
theorem dX0_init_27 : decode cX0_init 27 = .ok (.aload_n 0, 1) := by decide +kernel
theorem dX0_init_28 : decode cX0_init 28 = .ok (.iconst 1, 1) := by decide +kernel
theorem dX0_init_29 : decode cX0_init 29 = .ok (.putfield 21, 3) := by decide +kernel
theorem dX0_init_32 : decode cX0_init 32 = .ok (.return_, 1) := by decide +kernel
theorem dX0_copyFrom_0 : decode cX0_copyFrom 0 = .ok (.aload_n 0, 1) := by decide +kernel
theorem dX0_copyFrom_1 : decode cX0_copyFrom 1 = .ok (.getfield 9, 3) := by decide +kernel
theorem dX0_copyFrom_4 : decode cX0_copyFrom 4 = .ok (.aload_n 1, 1) := by decide +kernel
theorem dX0_copyFrom_5 : decode cX0_copyFrom 5 = .ok (.getfield 9, 3) := by decide +kernel
theorem dX0_copyFrom_8 : decode cX0_copyFrom 8 = .ok (.invokestatic 25, 3) := by decide +kernel
theorem dX0_copyFrom_11 : decode cX0_copyFrom 11 = .ok (.aload_n 0, 1) := by decide +kernel
theorem dX0_copyFrom_12 : decode cX0_copyFrom 12 = .ok (.getfield 15, 3) := by decide +kernel
theorem dX0_copyFrom_15 : decode cX0_copyFrom 15 = .ok (.aload_n 1, 1) := by decide +kernel
theorem dX0_copyFrom_16 : decode cX0_copyFrom 16 = .ok (.getfield 15, 3) := by decide +kernel
theorem dX0_copyFrom_19 : decode cX0_copyFrom 19 = .ok (.invokestatic 25, 3) := by decide +kernel
theorem dX0_copyFrom_22 : decode cX0_copyFrom 22 = .ok (.aload_n 0, 1) := by decide +kernel
theorem dX0_copyFrom_23 : decode cX0_copyFrom 23 = .ok (.getfield 18, 3) := by decide +kernel
theorem dX0_copyFrom_26 : decode cX0_copyFrom 26 = .ok (.aload_n 1, 1) := by decide +kernel
theorem dX0_copyFrom_27 : decode cX0_copyFrom 27 = .ok (.getfield 18, 3) := by decide +kernel
theorem dX0_copyFrom_30 : decode cX0_copyFrom 30 = .ok (.invokestatic 25, 3) := by decide +kernel
theorem dX0_copyFrom_33 : decode cX0_copyFrom 33 = .ok (.aload_n 0, 1) := by decide +kernel
theorem dX0_copyFrom_34 : decode cX0_copyFrom 34 = .ok (.aload_n 1, 1) := by decide +kernel
theorem dX0_copyFrom_35 : decode cX0_copyFrom 35 = .ok (.getfield 21, 3) := by decide +kernel
theorem dX0_copyFrom_38 : decode cX0_copyFrom 38 = .ok (.putfield 21, 3) := by decide +kernel
theorem dX0_copyFrom_41 : decode cX0_copyFrom 41 = .ok (.return_, 1) := by decide +kernel
theorem dX0_has_0 : decode cX0_has 0 = .ok (.iload_n 1, 1) := by decide +kernel
theorem dX0_has_1 : decode cX0_has 1 = .ok (.ifCond .lt 15, 3) := by decide +kernel
theorem dX0_has_4 : decode cX0_has 4 = .ok (.iload_n 1, 1) := by decide +kernel
theorem dX0_has_5 : decode cX0_has 5 = .ok (.aload_n 0, 1) := by decide +kernel
theorem dX0_has_6 : decode cX0_has 6 = .ok (.getfield 21, 3) := by decide +kernel
theorem dX0_has_9 : decode cX0_has 9 = .ok (.if_icmp .ge 7, 3) := by decide +kernel
theorem dX0_has_12 : decode cX0_has 12 = .ok (.iconst 1, 1) := by decide +kernel
theorem dX0_has_13 : decode cX0_has 13 = .ok (.goto 4, 3) := by decide +kernel
theorem dX0_has_16 : decode cX0_has 16 = .ok (.iconst 0, 1) := by decide +kernel
theorem dX0_has_17 : decode cX0_has 17 = .ok (.ireturn, 1) := by decide +kernel
theorem dX0_add_0 : decode cX0_add 0 = .ok (.aload_n 0, 1) := by decide +kernel
theorem dX0_add_1 : decode cX0_add 1 = .ok (.iload_n 1, 1) := by decide +kernel
theorem dX0_add_2 : decode cX0_add 2 = .ok (.invokevirtual 29, 3) := by decide +kernel
theorem dX0_add_5 : decode cX0_add 5 = .ok (.ifCond .ne 6, 3) := by decide +kernel
theorem dX0_add_8 : decode cX0_add 8 = .ok (.ldc 33, 2) := by decide +kernel
theorem dX0_add_10 : decode cX0_add 10 = .ok (.ireturn, 1) := by decide +kernel
theorem dX0_add_11 : decode cX0_add 11 = .ok (.aload_n 0, 1) := by decide +kernel
theorem dX0_add_12 : decode cX0_add 12 = .ok (.getfield 21, 3) := by decide +kernel
theorem dX0_add_15 : decode cX0_add 15 = .ok (.bipush 8, 2) := by decide +kernel
theorem dX0_add_17 : decode cX0_add 17 = .ok (.if_icmp .lt 6, 3) := by decide +kernel
theorem dX0_add_20 : decode cX0_add 20 = .ok (.ldc 34, 2) := by decide +kernel
theorem dX0_add_22 : decode cX0_add 22 = .ok (.ireturn, 1) := by decide +kernel
theorem dX0_add_23 : decode cX0_add 23 = .ok (.aload_n 0, 1) := by decide +kernel
theorem dX0_add_24 : decode cX0_add 24 = .ok (.getfield 9, 3) := by decide +kernel
theorem dX0_add_27 : decode cX0_add 27 = .ok (.aload_n 0, 1) := by decide +kernel
theorem dX0_add_28 : decode cX0_add 28 = .ok (.getfield 21, 3) := by decide +kernel
theorem dX0_add_31 : decode cX0_add 31 = .ok (.iload_n 1, 1) := by decide +kernel
theorem dX0_add_32 : decode cX0_add 32 = .ok (.iastore, 1) := by decide +kernel
theorem dX0_add_33 : decode cX0_add 33 = .ok (.aload_n 0, 1) := by decide +kernel
theorem dX0_add_34 : decode cX0_add 34 = .ok (.dup, 1) := by decide +kernel
theorem dX0_add_35 : decode cX0_add 35 = .ok (.getfield 21, 3) := by decide +kernel
theorem dX0_add_38 : decode cX0_add 38 = .ok (.iconst 1, 1) := by decide +kernel
theorem dX0_add_39 : decode cX0_add 39 = .ok (.iadd, 1) := by decide +kernel
theorem dX0_add_40 : decode cX0_add 40 = .ok (.putfield 21, 3) := by decide +kernel
theorem dX0_add_43 : decode cX0_add 43 = .ok (.aload_n 0, 1) := by decide +kernel
theorem dX0_add_44 : decode cX0_add 44 = .ok (.getfield 21, 3) := by decide +kernel
theorem dX0_add_47 : decode cX0_add 47 = .ok (.iconst 1, 1) := by decide +kernel
theorem dX0_add_48 : decode cX0_add 48 = .ok (.isub, 1) := by decide +kernel
theorem dX0_add_49 : decode cX0_add 49 = .ok (.ireturn, 1) := by decide +kernel
theorem dX0_assign_0 : decode cX0_assign 0 = .ok (.iload_n 1, 1) := by decide +kernel
theorem dX0_assign_1 : decode cX0_assign 1 = .ok (.invokestatic 35, 3) := by decide +kernel
theorem dX0_assign_4 : decode cX0_assign 4 = .ok (.ifCond .eq 11, 3) := by decide +kernel
theorem dX0_assign_7 : decode cX0_assign 7 = .ok (.aload_n 0, 1) := by decide +kernel
theorem dX0_assign_8 : decode cX0_assign 8 = .ok (.iload_n 2, 1) := by decide +kernel
theorem dX0_assign_9 : decode cX0_assign 9 = .ok (.invokevirtual 29, 3) := by decide +kernel
theorem dX0_assign_12 : decode cX0_assign 12 = .ok (.ifCond .ne 6, 3) := by decide +kernel
theorem dX0_assign_15 : decode cX0_assign 15 = .ok (.ldc 33, 2) := by decide +kernel
theorem dX0_assign_17 : decode cX0_assign 17 = .ok (.ireturn, 1) := by decide +kernel
theorem dX0_assign_18 : decode cX0_assign 18 = .ok (.aload_n 0, 1) := by decide +kernel
theorem dX0_assign_19 : decode cX0_assign 19 = .ok (.getfield 18, 3) := by decide +kernel
theorem dX0_assign_22 : decode cX0_assign 22 = .ok (.iload_n 1, 1) := by decide +kernel
theorem dX0_assign_23 : decode cX0_assign 23 = .ok (.iaload, 1) := by decide +kernel
theorem dX0_assign_24 : decode cX0_assign 24 = .ok (.istore_n 3, 1) := by decide +kernel
theorem dX0_assign_25 : decode cX0_assign 25 = .ok (.aload_n 0, 1) := by decide +kernel
theorem dX0_assign_26 : decode cX0_assign 26 = .ok (.getfield 18, 3) := by decide +kernel
theorem dX0_assign_29 : decode cX0_assign 29 = .ok (.iload_n 1, 1) := by decide +kernel
theorem dX0_assign_30 : decode cX0_assign 30 = .ok (.iload_n 2, 1) := by decide +kernel
theorem dX0_assign_31 : decode cX0_assign 31 = .ok (.iastore, 1) := by decide +kernel
theorem dX0_assign_32 : decode cX0_assign 32 = .ok (.iload_n 3, 1) := by decide +kernel
theorem dX0_assign_33 : decode cX0_assign 33 = .ok (.ireturn, 1) := by decide +kernel
theorem dX0_enter_0 : decode cX0_enter 0 = .ok (.aload_n 0, 1) := by decide +kernel
theorem dX0_enter_1 : decode cX0_enter 1 = .ok (.getfield 15, 3) := by decide +kernel
theorem dX0_enter_4 : decode cX0_enter 4 = .ok (.aload_n 0, 1) := by decide +kernel
theorem dX0_enter_5 : decode cX0_enter 5 = .ok (.getfield 18, 3) := by decide +kernel
theorem dX0_enter_8 : decode cX0_enter 8 = .ok (.iload_n 1, 1) := by decide +kernel
theorem dX0_enter_9 : decode cX0_enter 9 = .ok (.iaload, 1) := by decide +kernel
theorem dX0_enter_10 : decode cX0_enter 10 = .ok (.dup2, 1) := by decide +kernel
theorem dX0_enter_11 : decode cX0_enter 11 = .ok (.iaload, 1) := by decide +kernel
theorem dX0_enter_12 : decode cX0_enter 12 = .ok (.iload_n 2, 1) := by decide +kernel
theorem dX0_enter_13 : decode cX0_enter 13 = .ok (.iadd, 1) := by decide +kernel
theorem dX0_enter_14 : decode cX0_enter 14 = .ok (.iastore, 1) := by decide +kernel
theorem dX0_enter_15 : decode cX0_enter 15 = .ok (.return_, 1) := by decide +kernel
theorem dX0_isUnder_0 : decode cX0_isUnder 0 = .ok (.iload_n 1, 1) := by decide +kernel
theorem dX0_isUnder_1 : decode cX0_isUnder 1 = .ok (.istore_n 3, 1) := by decide +kernel
theorem dX0_isUnder_2 : decode cX0_isUnder 2 = .ok (.iconst 0, 1) := by decide +kernel
theorem dX0_isUnder_3 : decode cX0_isUnder 3 = .ok (.istore 4, 2) := by decide +kernel
theorem dX0_isUnder_5 : decode cX0_isUnder 5 = .ok (.iload 4, 2) := by decide +kernel
theorem dX0_isUnder_7 : decode cX0_isUnder 7 = .ok (.bipush 8, 2) := by decide +kernel
theorem dX0_isUnder_9 : decode cX0_isUnder 9 = .ok (.if_icmp .ge 21, 3) := by decide +kernel
theorem dX0_isUnder_12 : decode cX0_isUnder 12 = .ok (.iload_n 3, 1) := by decide +kernel
theorem dX0_isUnder_13 : decode cX0_isUnder 13 = .ok (.iload_n 2, 1) := by decide +kernel
theorem dX0_isUnder_14 : decode cX0_isUnder 14 = .ok (.if_icmp .le 16, 3) := by decide +kernel
theorem dX0_isUnder_17 : decode cX0_isUnder 17 = .ok (.aload_n 0, 1) := by decide +kernel
theorem dX0_isUnder_18 : decode cX0_isUnder 18 = .ok (.getfield 9, 3) := by decide +kernel
theorem dX0_isUnder_21 : decode cX0_isUnder 21 = .ok (.iload_n 3, 1) := by decide +kernel
theorem dX0_isUnder_22 : decode cX0_isUnder 22 = .ok (.iaload, 1) := by decide +kernel
theorem dX0_isUnder_23 : decode cX0_isUnder 23 = .ok (.istore_n 3, 1) := by decide +kernel
theorem dX0_isUnder_24 : decode cX0_isUnder 24 = .ok (.iinc 4 1, 3) := by decide +kernel
theorem dX0_isUnder_27 : decode cX0_isUnder 27 = .ok (.goto (-22), 3) := by decide +kernel
theorem dX0_isUnder_30 : decode cX0_isUnder 30 = .ok (.iload_n 3, 1) := by decide +kernel
theorem dX0_isUnder_31 : decode cX0_isUnder 31 = .ok (.iload_n 2, 1) := by decide +kernel
theorem dX0_isUnder_32 : decode cX0_isUnder 32 = .ok (.if_icmp .ne 12, 3) := by decide +kernel
theorem dX0_isUnder_35 : decode cX0_isUnder 35 = .ok (.iload_n 1, 1) := by decide +kernel
theorem dX0_isUnder_36 : decode cX0_isUnder 36 = .ok (.iload_n 2, 1) := by decide +kernel
theorem dX0_isUnder_37 : decode cX0_isUnder 37 = .ok (.if_icmp .eq 7, 3) := by decide +kernel
theorem dX0_isUnder_40 : decode cX0_isUnder 40 = .ok (.iconst 1, 1) := by decide +kernel
theorem dX0_isUnder_41 : decode cX0_isUnder 41 = .ok (.goto 4, 3) := by decide +kernel
theorem dX0_isUnder_44 : decode cX0_isUnder 44 = .ok (.iconst 0, 1) := by decide +kernel
theorem dX0_isUnder_45 : decode cX0_isUnder 45 = .ok (.ireturn, 1) := by decide +kernel
theorem dX0_massWithAllUnder_0 : decode cX0_massWithAllUnder 0 = .ok (.aload_n 0, 1) := by decide +kernel
theorem dX0_massWithAllUnder_1 : decode cX0_massWithAllUnder 1 = .ok (.getfield 15, 3) := by decide +kernel
theorem dX0_massWithAllUnder_4 : decode cX0_massWithAllUnder 4 = .ok (.iload_n 1, 1) := by decide +kernel
theorem dX0_massWithAllUnder_5 : decode cX0_massWithAllUnder 5 = .ok (.iaload, 1) := by decide +kernel
theorem dX0_massWithAllUnder_6 : decode cX0_massWithAllUnder 6 = .ok (.istore_n 2, 1) := by decide +kernel
theorem dX0_massWithAllUnder_7 : decode cX0_massWithAllUnder 7 = .ok (.iload_n 1, 1) := by decide +kernel
theorem dX0_massWithAllUnder_8 : decode cX0_massWithAllUnder 8 = .ok (.iconst 1, 1) := by decide +kernel
theorem dX0_massWithAllUnder_9 : decode cX0_massWithAllUnder 9 = .ok (.iadd, 1) := by decide +kernel
theorem dX0_massWithAllUnder_10 : decode cX0_massWithAllUnder 10 = .ok (.istore_n 3, 1) := by decide +kernel
theorem dX0_massWithAllUnder_11 : decode cX0_massWithAllUnder 11 = .ok (.iload_n 3, 1) := by decide +kernel
theorem dX0_massWithAllUnder_12 : decode cX0_massWithAllUnder 12 = .ok (.aload_n 0, 1) := by decide +kernel
theorem dX0_massWithAllUnder_13 : decode cX0_massWithAllUnder 13 = .ok (.getfield 21, 3) := by decide +kernel
theorem dX0_massWithAllUnder_16 : decode cX0_massWithAllUnder 16 = .ok (.if_icmp .ge 27, 3) := by decide +kernel
theorem dX0_massWithAllUnder_19 : decode cX0_massWithAllUnder 19 = .ok (.aload_n 0, 1) := by decide +kernel
theorem dX0_massWithAllUnder_20 : decode cX0_massWithAllUnder 20 = .ok (.iload_n 3, 1) := by decide +kernel
theorem dX0_massWithAllUnder_21 : decode cX0_massWithAllUnder 21 = .ok (.iload_n 1, 1) := by decide +kernel
theorem dX0_massWithAllUnder_22 : decode cX0_massWithAllUnder 22 = .ok (.invokevirtual 38, 3) := by decide +kernel
theorem dX0_massWithAllUnder_25 : decode cX0_massWithAllUnder 25 = .ok (.ifCond .eq 12, 3) := by decide +kernel
theorem dX0_massWithAllUnder_28 : decode cX0_massWithAllUnder 28 = .ok (.iload_n 2, 1) := by decide +kernel
theorem dX0_massWithAllUnder_29 : decode cX0_massWithAllUnder 29 = .ok (.aload_n 0, 1) := by decide +kernel
theorem dX0_massWithAllUnder_30 : decode cX0_massWithAllUnder 30 = .ok (.getfield 15, 3) := by decide +kernel
theorem dX0_massWithAllUnder_33 : decode cX0_massWithAllUnder 33 = .ok (.iload_n 3, 1) := by decide +kernel
theorem dX0_massWithAllUnder_34 : decode cX0_massWithAllUnder 34 = .ok (.iaload, 1) := by decide +kernel
theorem dX0_massWithAllUnder_35 : decode cX0_massWithAllUnder 35 = .ok (.iadd, 1) := by decide +kernel
theorem dX0_massWithAllUnder_36 : decode cX0_massWithAllUnder 36 = .ok (.istore_n 2, 1) := by decide +kernel
theorem dX0_massWithAllUnder_37 : decode cX0_massWithAllUnder 37 = .ok (.iinc 3 1, 3) := by decide +kernel
theorem dX0_massWithAllUnder_40 : decode cX0_massWithAllUnder 40 = .ok (.goto (-29), 3) := by decide +kernel
theorem dX0_massWithAllUnder_43 : decode cX0_massWithAllUnder 43 = .ok (.iload_n 2, 1) := by decide +kernel
theorem dX0_massWithAllUnder_44 : decode cX0_massWithAllUnder 44 = .ok (.ireturn, 1) := by decide +kernel
theorem dX0_countUnder_0 : decode cX0_countUnder 0 = .ok (.iconst 0, 1) := by decide +kernel
theorem dX0_countUnder_1 : decode cX0_countUnder 1 = .ok (.istore_n 2, 1) := by decide +kernel
theorem dX0_countUnder_2 : decode cX0_countUnder 2 = .ok (.iload_n 1, 1) := by decide +kernel
theorem dX0_countUnder_3 : decode cX0_countUnder 3 = .ok (.iconst 1, 1) := by decide +kernel
theorem dX0_countUnder_4 : decode cX0_countUnder 4 = .ok (.iadd, 1) := by decide +kernel
theorem dX0_countUnder_5 : decode cX0_countUnder 5 = .ok (.istore_n 3, 1) := by decide +kernel
theorem dX0_countUnder_6 : decode cX0_countUnder 6 = .ok (.iload_n 3, 1) := by decide +kernel
theorem dX0_countUnder_7 : decode cX0_countUnder 7 = .ok (.aload_n 0, 1) := by decide +kernel
theorem dX0_countUnder_8 : decode cX0_countUnder 8 = .ok (.getfield 21, 3) := by decide +kernel
theorem dX0_countUnder_11 : decode cX0_countUnder 11 = .ok (.if_icmp .ge 21, 3) := by decide +kernel
theorem dX0_countUnder_14 : decode cX0_countUnder 14 = .ok (.aload_n 0, 1) := by decide +kernel
theorem dX0_countUnder_15 : decode cX0_countUnder 15 = .ok (.iload_n 3, 1) := by decide +kernel
theorem dX0_countUnder_16 : decode cX0_countUnder 16 = .ok (.iload_n 1, 1) := by decide +kernel
theorem dX0_countUnder_17 : decode cX0_countUnder 17 = .ok (.invokevirtual 38, 3) := by decide +kernel
theorem dX0_countUnder_20 : decode cX0_countUnder 20 = .ok (.ifCond .eq 6, 3) := by decide +kernel
theorem dX0_countUnder_23 : decode cX0_countUnder 23 = .ok (.iinc 2 1, 3) := by decide +kernel
theorem dX0_countUnder_26 : decode cX0_countUnder 26 = .ok (.iinc 3 1, 3) := by decide +kernel
theorem dX0_countUnder_29 : decode cX0_countUnder 29 = .ok (.goto (-23), 3) := by decide +kernel
theorem dX0_countUnder_32 : decode cX0_countUnder 32 = .ok (.iload_n 2, 1) := by decide +kernel
theorem dX0_countUnder_33 : decode cX0_countUnder 33 = .ok (.ireturn, 1) := by decide +kernel
theorem dX0_depth_0 : decode cX0_depth 0 = .ok (.iconst 0, 1) := by decide +kernel
theorem dX0_depth_1 : decode cX0_depth 1 = .ok (.istore_n 2, 1) := by decide +kernel
theorem dX0_depth_2 : decode cX0_depth 2 = .ok (.iload_n 1, 1) := by decide +kernel
theorem dX0_depth_3 : decode cX0_depth 3 = .ok (.istore_n 3, 1) := by decide +kernel
theorem dX0_depth_4 : decode cX0_depth 4 = .ok (.iconst 0, 1) := by decide +kernel
theorem dX0_depth_5 : decode cX0_depth 5 = .ok (.istore 4, 2) := by decide +kernel
theorem dX0_depth_7 : decode cX0_depth 7 = .ok (.iload 4, 2) := by decide +kernel
theorem dX0_depth_9 : decode cX0_depth 9 = .ok (.bipush 8, 2) := by decide +kernel
theorem dX0_depth_11 : decode cX0_depth 11 = .ok (.if_icmp .ge 23, 3) := by decide +kernel
theorem dX0_depth_14 : decode cX0_depth 14 = .ok (.iload_n 3, 1) := by decide +kernel
theorem dX0_depth_15 : decode cX0_depth 15 = .ok (.ifCond .le 19, 3) := by decide +kernel
theorem dX0_depth_18 : decode cX0_depth 18 = .ok (.aload_n 0, 1) := by decide +kernel
theorem dX0_depth_19 : decode cX0_depth 19 = .ok (.getfield 9, 3) := by decide +kernel
theorem dX0_depth_22 : decode cX0_depth 22 = .ok (.iload_n 3, 1) := by decide +kernel
theorem dX0_depth_23 : decode cX0_depth 23 = .ok (.iaload, 1) := by decide +kernel
theorem dX0_depth_24 : decode cX0_depth 24 = .ok (.istore_n 3, 1) := by decide +kernel
theorem dX0_depth_25 : decode cX0_depth 25 = .ok (.iinc 2 1, 3) := by decide +kernel
theorem dX0_depth_28 : decode cX0_depth 28 = .ok (.iinc 4 1, 3) := by decide +kernel
theorem dX0_depth_31 : decode cX0_depth 31 = .ok (.goto (-24), 3) := by decide +kernel
theorem dX0_depth_34 : decode cX0_depth 34 = .ok (.iload_n 2, 1) := by decide +kernel
theorem dX0_depth_35 : decode cX0_depth 35 = .ok (.ireturn, 1) := by decide +kernel
theorem dX1_init_0 : decode cX1_init 0 = .ok (.aload_n 0, 1) := by decide +kernel
theorem dX1_init_1 : decode cX1_init 1 = .ok (.invokespecial 3, 3) := by decide +kernel
theorem dX1_init_4 : decode cX1_init 4 = .ok (.aload_n 0, 1) := by decide +kernel
theorem dX1_init_5 : decode cX1_init 5 = .ok (.bipush 48, 2) := by decide +kernel
theorem dX1_init_7 : decode cX1_init 7 = .ok (.newarray .int, 2) := by decide +kernel
theorem dX1_init_9 : decode cX1_init 9 = .ok (.putfield 9, 3) := by decide +kernel
theorem dX1_init_12 : decode cX1_init 12 = .ok (.return_, 1) := by decide +kernel
theorem dX1_copyFrom_0 : decode cX1_copyFrom 0 = .ok (.aload_n 0, 1) := by decide +kernel
theorem dX1_copyFrom_1 : decode cX1_copyFrom 1 = .ok (.getfield 9, 3) := by decide +kernel
theorem dX1_copyFrom_4 : decode cX1_copyFrom 4 = .ok (.aload_n 1, 1) := by decide +kernel
theorem dX1_copyFrom_5 : decode cX1_copyFrom 5 = .ok (.getfield 9, 3) := by decide +kernel
theorem dX1_copyFrom_8 : decode cX1_copyFrom 8 = .ok (.invokestatic 15, 3) := by decide +kernel
theorem dX1_copyFrom_11 : decode cX1_copyFrom 11 = .ok (.aload_n 0, 1) := by decide +kernel
theorem dX1_copyFrom_12 : decode cX1_copyFrom 12 = .ok (.aload_n 1, 1) := by decide +kernel
theorem dX1_copyFrom_13 : decode cX1_copyFrom 13 = .ok (.getfield 19, 3) := by decide +kernel
theorem dX1_copyFrom_16 : decode cX1_copyFrom 16 = .ok (.putfield 19, 3) := by decide +kernel
theorem dX1_copyFrom_19 : decode cX1_copyFrom 19 = .ok (.aload_n 0, 1) := by decide +kernel
theorem dX1_copyFrom_20 : decode cX1_copyFrom 20 = .ok (.aload_n 1, 1) := by decide +kernel
theorem dX1_copyFrom_21 : decode cX1_copyFrom 21 = .ok (.getfield 23, 3) := by decide +kernel
theorem dX1_copyFrom_24 : decode cX1_copyFrom 24 = .ok (.putfield 23, 3) := by decide +kernel
theorem dX1_copyFrom_27 : decode cX1_copyFrom 27 = .ok (.return_, 1) := by decide +kernel
theorem dX1_mass_0 : decode cX1_mass 0 = .ok (.aload_n 0, 1) := by decide +kernel
theorem dX1_mass_1 : decode cX1_mass 1 = .ok (.getfield 9, 3) := by decide +kernel
theorem dX1_mass_4 : decode cX1_mass 4 = .ok (.aload_n 0, 1) := by decide +kernel
theorem dX1_mass_5 : decode cX1_mass 5 = .ok (.getfield 19, 3) := by decide +kernel
theorem dX1_mass_8 : decode cX1_mass 8 = .ok (.iload_n 1, 1) := by decide +kernel
theorem dX1_mass_9 : decode cX1_mass 9 = .ok (.iadd, 1) := by decide +kernel
theorem dX1_mass_10 : decode cX1_mass 10 = .ok (.bipush 12, 2) := by decide +kernel
theorem dX1_mass_12 : decode cX1_mass 12 = .ok (.irem, 1) := by decide +kernel
theorem dX1_mass_13 : decode cX1_mass 13 = .ok (.iconst 4, 1) := by decide +kernel
theorem dX1_mass_14 : decode cX1_mass 14 = .ok (.imul, 1) := by decide +kernel
theorem dX1_mass_15 : decode cX1_mass 15 = .ok (.iload_n 2, 1) := by decide +kernel
theorem dX1_mass_16 : decode cX1_mass 16 = .ok (.iadd, 1) := by decide +kernel
theorem dX1_mass_17 : decode cX1_mass 17 = .ok (.iaload, 1) := by decide +kernel
theorem dX1_mass_18 : decode cX1_mass 18 = .ok (.ireturn, 1) := by decide +kernel
theorem dX1_take_0 : decode cX1_take 0 = .ok (.aload_n 0, 1) := by decide +kernel
theorem dX1_take_1 : decode cX1_take 1 = .ok (.getfield 9, 3) := by decide +kernel
theorem dX1_take_4 : decode cX1_take 4 = .ok (.aload_n 0, 1) := by decide +kernel
theorem dX1_take_5 : decode cX1_take 5 = .ok (.getfield 19, 3) := by decide +kernel
theorem dX1_take_8 : decode cX1_take 8 = .ok (.iload_n 1, 1) := by decide +kernel
theorem dX1_take_9 : decode cX1_take 9 = .ok (.iadd, 1) := by decide +kernel
theorem dX1_take_10 : decode cX1_take 10 = .ok (.bipush 12, 2) := by decide +kernel
theorem dX1_take_12 : decode cX1_take 12 = .ok (.irem, 1) := by decide +kernel
theorem dX1_take_13 : decode cX1_take 13 = .ok (.iconst 4, 1) := by decide +kernel
theorem dX1_take_14 : decode cX1_take 14 = .ok (.imul, 1) := by decide +kernel
theorem dX1_take_15 : decode cX1_take 15 = .ok (.iload_n 2, 1) := by decide +kernel
theorem dX1_take_16 : decode cX1_take 16 = .ok (.iadd, 1) := by decide +kernel
theorem dX1_take_17 : decode cX1_take 17 = .ok (.dup2, 1) := by decide +kernel
theorem dX1_take_18 : decode cX1_take 18 = .ok (.iaload, 1) := by decide +kernel
theorem dX1_take_19 : decode cX1_take 19 = .ok (.iload_n 3, 1) := by decide +kernel
theorem dX1_take_20 : decode cX1_take 20 = .ok (.isub, 1) := by decide +kernel
theorem dX1_take_21 : decode cX1_take 21 = .ok (.iastore, 1) := by decide +kernel
theorem dX1_take_22 : decode cX1_take 22 = .ok (.aload_n 0, 1) := by decide +kernel
theorem dX1_take_23 : decode cX1_take 23 = .ok (.dup, 1) := by decide +kernel
theorem dX1_take_24 : decode cX1_take 24 = .ok (.getfield 23, 3) := by decide +kernel
theorem dX1_take_27 : decode cX1_take 27 = .ok (.iload_n 3, 1) := by decide +kernel
theorem dX1_take_28 : decode cX1_take 28 = .ok (.isub, 1) := by decide +kernel
theorem dX1_take_29 : decode cX1_take 29 = .ok (.putfield 23, 3) := by decide +kernel
theorem dX1_take_32 : decode cX1_take 32 = .ok (.return_, 1) := by decide +kernel
theorem dX1_putAtStart_0 : decode cX1_putAtStart 0 = .ok (.aload_n 0, 1) := by decide +kernel
theorem dX1_putAtStart_1 : decode cX1_putAtStart 1 = .ok (.getfield 9, 3) := by decide +kernel
theorem dX1_putAtStart_4 : decode cX1_putAtStart 4 = .ok (.aload_n 0, 1) := by decide +kernel
theorem dX1_putAtStart_5 : decode cX1_putAtStart 5 = .ok (.getfield 19, 3) := by decide +kernel
theorem dX1_putAtStart_8 : decode cX1_putAtStart 8 = .ok (.iconst 4, 1) := by decide +kernel
theorem dX1_putAtStart_9 : decode cX1_putAtStart 9 = .ok (.imul, 1) := by decide +kernel
theorem dX1_putAtStart_10 : decode cX1_putAtStart 10 = .ok (.iload_n 1, 1) := by decide +kernel
theorem dX1_putAtStart_11 : decode cX1_putAtStart 11 = .ok (.iadd, 1) := by decide +kernel
theorem dX1_putAtStart_12 : decode cX1_putAtStart 12 = .ok (.dup2, 1) := by decide +kernel
theorem dX1_putAtStart_13 : decode cX1_putAtStart 13 = .ok (.iaload, 1) := by decide +kernel
theorem dX1_putAtStart_14 : decode cX1_putAtStart 14 = .ok (.iload_n 2, 1) := by decide +kernel
theorem dX1_putAtStart_15 : decode cX1_putAtStart 15 = .ok (.iadd, 1) := by decide +kernel
theorem dX1_putAtStart_16 : decode cX1_putAtStart 16 = .ok (.iastore, 1) := by decide +kernel
theorem dX1_putAtStart_17 : decode cX1_putAtStart 17 = .ok (.aload_n 0, 1) := by decide +kernel
theorem dX1_putAtStart_18 : decode cX1_putAtStart 18 = .ok (.dup, 1) := by decide +kernel
theorem dX1_putAtStart_19 : decode cX1_putAtStart 19 = .ok (.getfield 23, 3) := by decide +kernel
theorem dX1_putAtStart_22 : decode cX1_putAtStart 22 = .ok (.iload_n 2, 1) := by decide +kernel
theorem dX1_putAtStart_23 : decode cX1_putAtStart 23 = .ok (.iadd, 1) := by decide +kernel
theorem dX1_putAtStart_24 : decode cX1_putAtStart 24 = .ok (.putfield 23, 3) := by decide +kernel
theorem dX1_putAtStart_27 : decode cX1_putAtStart 27 = .ok (.return_, 1) := by decide +kernel
theorem dX1_goOn_0 : decode cX1_goOn 0 = .ok (.aload_n 0, 1) := by decide +kernel
theorem dX1_goOn_1 : decode cX1_goOn 1 = .ok (.aload_n 0, 1) := by decide +kernel
theorem dX1_goOn_2 : decode cX1_goOn 2 = .ok (.getfield 19, 3) := by decide +kernel
theorem dX1_goOn_5 : decode cX1_goOn 5 = .ok (.bipush 12, 2) := by decide +kernel
theorem dX1_goOn_7 : decode cX1_goOn 7 = .ok (.iadd, 1) := by decide +kernel
theorem dX1_goOn_8 : decode cX1_goOn 8 = .ok (.iconst 1, 1) := by decide +kernel
theorem dX1_goOn_9 : decode cX1_goOn 9 = .ok (.isub, 1) := by decide +kernel
theorem dX1_goOn_10 : decode cX1_goOn 10 = .ok (.bipush 12, 2) := by decide +kernel
theorem dX1_goOn_12 : decode cX1_goOn 12 = .ok (.irem, 1) := by decide +kernel
theorem dX1_goOn_13 : decode cX1_goOn 13 = .ok (.putfield 19, 3) := by decide +kernel
theorem dX1_goOn_16 : decode cX1_goOn 16 = .ok (.return_, 1) := by decide +kernel
theorem dX1_massOfPlace_0 : decode cX1_massOfPlace 0 = .ok (.aload_n 0, 1) := by decide +kernel
theorem dX1_massOfPlace_1 : decode cX1_massOfPlace 1 = .ok (.getfield 19, 3) := by decide +kernel
theorem dX1_massOfPlace_4 : decode cX1_massOfPlace 4 = .ok (.iload_n 1, 1) := by decide +kernel
theorem dX1_massOfPlace_5 : decode cX1_massOfPlace 5 = .ok (.iadd, 1) := by decide +kernel
theorem dX1_massOfPlace_6 : decode cX1_massOfPlace 6 = .ok (.bipush 12, 2) := by decide +kernel
theorem dX1_massOfPlace_8 : decode cX1_massOfPlace 8 = .ok (.irem, 1) := by decide +kernel
theorem dX1_massOfPlace_9 : decode cX1_massOfPlace 9 = .ok (.iconst 4, 1) := by decide +kernel
theorem dX1_massOfPlace_10 : decode cX1_massOfPlace 10 = .ok (.imul, 1) := by decide +kernel
theorem dX1_massOfPlace_11 : decode cX1_massOfPlace 11 = .ok (.istore_n 2, 1) := by decide +kernel
theorem dX1_massOfPlace_12 : decode cX1_massOfPlace 12 = .ok (.iconst 0, 1) := by decide +kernel
theorem dX1_massOfPlace_13 : decode cX1_massOfPlace 13 = .ok (.istore_n 3, 1) := by decide +kernel
theorem dX1_massOfPlace_14 : decode cX1_massOfPlace 14 = .ok (.iconst 0, 1) := by decide +kernel
theorem dX1_massOfPlace_15 : decode cX1_massOfPlace 15 = .ok (.istore 4, 2) := by decide +kernel
theorem dX1_massOfPlace_17 : decode cX1_massOfPlace 17 = .ok (.iload 4, 2) := by decide +kernel
theorem dX1_massOfPlace_19 : decode cX1_massOfPlace 19 = .ok (.iconst 4, 1) := by decide +kernel
theorem dX1_massOfPlace_20 : decode cX1_massOfPlace 20 = .ok (.if_icmp .ge 21, 3) := by decide +kernel
theorem dX1_massOfPlace_23 : decode cX1_massOfPlace 23 = .ok (.iload_n 3, 1) := by decide +kernel
theorem dX1_massOfPlace_24 : decode cX1_massOfPlace 24 = .ok (.aload_n 0, 1) := by decide +kernel
theorem dX1_massOfPlace_25 : decode cX1_massOfPlace 25 = .ok (.getfield 9, 3) := by decide +kernel
theorem dX1_massOfPlace_28 : decode cX1_massOfPlace 28 = .ok (.iload_n 2, 1) := by decide +kernel
theorem dX1_massOfPlace_29 : decode cX1_massOfPlace 29 = .ok (.iload 4, 2) := by decide +kernel
theorem dX1_massOfPlace_31 : decode cX1_massOfPlace 31 = .ok (.iadd, 1) := by decide +kernel
theorem dX1_massOfPlace_32 : decode cX1_massOfPlace 32 = .ok (.iaload, 1) := by decide +kernel
theorem dX1_massOfPlace_33 : decode cX1_massOfPlace 33 = .ok (.iadd, 1) := by decide +kernel
theorem dX1_massOfPlace_34 : decode cX1_massOfPlace 34 = .ok (.istore_n 3, 1) := by decide +kernel
theorem dX1_massOfPlace_35 : decode cX1_massOfPlace 35 = .ok (.iinc 4 1, 3) := by decide +kernel
theorem dX1_massOfPlace_38 : decode cX1_massOfPlace 38 = .ok (.goto (-21), 3) := by decide +kernel
theorem dX1_massOfPlace_41 : decode cX1_massOfPlace 41 = .ok (.iload_n 3, 1) := by decide +kernel
theorem dX1_massOfPlace_42 : decode cX1_massOfPlace 42 = .ok (.ireturn, 1) := by decide +kernel
theorem dX1_massSeen_0 : decode cX1_massSeen 0 = .ok (.iconst 0, 1) := by decide +kernel
theorem dX1_massSeen_1 : decode cX1_massSeen 1 = .ok (.istore_n 1, 1) := by decide +kernel
theorem dX1_massSeen_2 : decode cX1_massSeen 2 = .ok (.iconst 0, 1) := by decide +kernel
theorem dX1_massSeen_3 : decode cX1_massSeen 3 = .ok (.istore_n 2, 1) := by decide +kernel
theorem dX1_massSeen_4 : decode cX1_massSeen 4 = .ok (.iload_n 2, 1) := by decide +kernel
theorem dX1_massSeen_5 : decode cX1_massSeen 5 = .ok (.iconst 4, 1) := by decide +kernel
theorem dX1_massSeen_6 : decode cX1_massSeen 6 = .ok (.if_icmp .ge 19, 3) := by decide +kernel
theorem dX1_massSeen_9 : decode cX1_massSeen 9 = .ok (.iload_n 1, 1) := by decide +kernel
theorem dX1_massSeen_10 : decode cX1_massSeen 10 = .ok (.aload_n 0, 1) := by decide +kernel
theorem dX1_massSeen_11 : decode cX1_massSeen 11 = .ok (.iconst 4, 1) := by decide +kernel
theorem dX1_massSeen_12 : decode cX1_massSeen 12 = .ok (.iload_n 2, 1) := by decide +kernel
theorem dX1_massSeen_13 : decode cX1_massSeen 13 = .ok (.iadd, 1) := by decide +kernel
theorem dX1_massSeen_14 : decode cX1_massSeen 14 = .ok (.invokevirtual 26, 3) := by decide +kernel
theorem dX1_massSeen_17 : decode cX1_massSeen 17 = .ok (.iadd, 1) := by decide +kernel
theorem dX1_massSeen_18 : decode cX1_massSeen 18 = .ok (.istore_n 1, 1) := by decide +kernel
theorem dX1_massSeen_19 : decode cX1_massSeen 19 = .ok (.iinc 2 1, 3) := by decide +kernel
theorem dX1_massSeen_22 : decode cX1_massSeen 22 = .ok (.goto (-18), 3) := by decide +kernel
theorem dX1_massSeen_25 : decode cX1_massSeen 25 = .ok (.iload_n 1, 1) := by decide +kernel
theorem dX1_massSeen_26 : decode cX1_massSeen 26 = .ok (.ireturn, 1) := by decide +kernel
theorem dX2_init_0 : decode cX2_init 0 = .ok (.aload_n 0, 1) := by decide +kernel
theorem dX2_init_1 : decode cX2_init 1 = .ok (.invokespecial 3, 3) := by decide +kernel
theorem dX2_init_4 : decode cX2_init 4 = .ok (.aload_n 0, 1) := by decide +kernel
theorem dX2_init_5 : decode cX2_init 5 = .ok (.bipush 32, 2) := by decide +kernel
theorem dX2_init_7 : decode cX2_init 7 = .ok (.newarray .int, 2) := by decide +kernel
theorem dX2_init_9 : decode cX2_init 9 = .ok (.putfield 9, 3) := by decide +kernel
theorem dX2_init_12 : decode cX2_init 12 = .ok (.aload_n 0, 1) := by decide +kernel
theorem dX2_init_13 : decode cX2_init 13 = .ok (.bipush 8, 2) := by decide +kernel
theorem dX2_init_15 : decode cX2_init 15 = .ok (.newarray .int, 2) := by decide +kernel
theorem dX2_init_17 : decode cX2_init 17 = .ok (.putfield 15, 3) := by decide +kernel
theorem dX2_init_20 : decode cX2_init 20 = .ok (.aload_n 0, 1) := by decide +kernel
theorem dX2_init_21 : decode cX2_init 21 = .ok (.bipush 8, 2) := by decide +kernel
theorem dX2_init_23 : decode cX2_init 23 = .ok (.newarray .int, 2) := by decide +kernel
theorem dX2_init_25 : decode cX2_init 25 = .ok (.putfield 18, 3) := by decide +kernel
theorem dX2_init_28 : decode cX2_init 28 = .ok (.return_, 1) := by decide +kernel
theorem dX2_copyFrom_0 : decode cX2_copyFrom 0 = .ok (.aload_n 0, 1) := by decide +kernel
theorem dX2_copyFrom_1 : decode cX2_copyFrom 1 = .ok (.getfield 9, 3) := by decide +kernel
theorem dX2_copyFrom_4 : decode cX2_copyFrom 4 = .ok (.aload_n 1, 1) := by decide +kernel
theorem dX2_copyFrom_5 : decode cX2_copyFrom 5 = .ok (.getfield 9, 3) := by decide +kernel
theorem dX2_copyFrom_8 : decode cX2_copyFrom 8 = .ok (.invokestatic 21, 3) := by decide +kernel
theorem dX2_copyFrom_11 : decode cX2_copyFrom 11 = .ok (.aload_n 0, 1) := by decide +kernel
theorem dX2_copyFrom_12 : decode cX2_copyFrom 12 = .ok (.getfield 15, 3) := by decide +kernel
theorem dX2_copyFrom_15 : decode cX2_copyFrom 15 = .ok (.aload_n 1, 1) := by decide +kernel
theorem dX2_copyFrom_16 : decode cX2_copyFrom 16 = .ok (.getfield 15, 3) := by decide +kernel
theorem dX2_copyFrom_19 : decode cX2_copyFrom 19 = .ok (.invokestatic 21, 3) := by decide +kernel
theorem dX2_copyFrom_22 : decode cX2_copyFrom 22 = .ok (.aload_n 0, 1) := by decide +kernel
theorem dX2_copyFrom_23 : decode cX2_copyFrom 23 = .ok (.getfield 18, 3) := by decide +kernel
theorem dX2_copyFrom_26 : decode cX2_copyFrom 26 = .ok (.aload_n 1, 1) := by decide +kernel
theorem dX2_copyFrom_27 : decode cX2_copyFrom 27 = .ok (.getfield 18, 3) := by decide +kernel
theorem dX2_copyFrom_30 : decode cX2_copyFrom 30 = .ok (.invokestatic 21, 3) := by decide +kernel
theorem dX2_copyFrom_33 : decode cX2_copyFrom 33 = .ok (.aload_n 0, 1) := by decide +kernel
theorem dX2_copyFrom_34 : decode cX2_copyFrom 34 = .ok (.aload_n 1, 1) := by decide +kernel
theorem dX2_copyFrom_35 : decode cX2_copyFrom 35 = .ok (.getfield 25, 3) := by decide +kernel
theorem dX2_copyFrom_38 : decode cX2_copyFrom 38 = .ok (.putfield 25, 3) := by decide +kernel
theorem dX2_copyFrom_41 : decode cX2_copyFrom 41 = .ok (.return_, 1) := by decide +kernel
theorem dX2_has_0 : decode cX2_has 0 = .ok (.iload_n 1, 1) := by decide +kernel
theorem dX2_has_1 : decode cX2_has 1 = .ok (.ifCond .lt 15, 3) := by decide +kernel
theorem dX2_has_4 : decode cX2_has 4 = .ok (.iload_n 1, 1) := by decide +kernel
theorem dX2_has_5 : decode cX2_has 5 = .ok (.aload_n 0, 1) := by decide +kernel
theorem dX2_has_6 : decode cX2_has 6 = .ok (.getfield 25, 3) := by decide +kernel
theorem dX2_has_9 : decode cX2_has 9 = .ok (.if_icmp .ge 7, 3) := by decide +kernel
theorem dX2_has_12 : decode cX2_has 12 = .ok (.iconst 1, 1) := by decide +kernel
theorem dX2_has_13 : decode cX2_has 13 = .ok (.goto 4, 3) := by decide +kernel
theorem dX2_has_16 : decode cX2_has 16 = .ok (.iconst 0, 1) := by decide +kernel
theorem dX2_has_17 : decode cX2_has 17 = .ok (.ireturn, 1) := by decide +kernel
theorem dX2_addToPresent_0 : decode cX2_addToPresent 0 = .ok (.aload_n 0, 1) := by decide +kernel
theorem dX2_addToPresent_1 : decode cX2_addToPresent 1 = .ok (.getfield 25, 3) := by decide +kernel
theorem dX2_addToPresent_4 : decode cX2_addToPresent 4 = .ok (.ifCond .le 22, 3) := by decide +kernel
theorem dX2_addToPresent_7 : decode cX2_addToPresent 7 = .ok (.aload_n 0, 1) := by decide +kernel
theorem dX2_addToPresent_8 : decode cX2_addToPresent 8 = .ok (.getfield 9, 3) := by decide +kernel
theorem dX2_addToPresent_11 : decode cX2_addToPresent 11 = .ok (.aload_n 0, 1) := by decide +kernel
theorem dX2_addToPresent_12 : decode cX2_addToPresent 12 = .ok (.getfield 25, 3) := by decide +kernel
theorem dX2_addToPresent_15 : decode cX2_addToPresent 15 = .ok (.iconst 1, 1) := by decide +kernel
theorem dX2_addToPresent_16 : decode cX2_addToPresent 16 = .ok (.isub, 1) := by decide +kernel
theorem dX2_addToPresent_17 : decode cX2_addToPresent 17 = .ok (.iconst 4, 1) := by decide +kernel
theorem dX2_addToPresent_18 : decode cX2_addToPresent 18 = .ok (.imul, 1) := by decide +kernel
theorem dX2_addToPresent_19 : decode cX2_addToPresent 19 = .ok (.iload_n 1, 1) := by decide +kernel
theorem dX2_addToPresent_20 : decode cX2_addToPresent 20 = .ok (.iadd, 1) := by decide +kernel
theorem dX2_addToPresent_21 : decode cX2_addToPresent 21 = .ok (.dup2, 1) := by decide +kernel
theorem dX2_addToPresent_22 : decode cX2_addToPresent 22 = .ok (.iaload, 1) := by decide +kernel
theorem dX2_addToPresent_23 : decode cX2_addToPresent 23 = .ok (.iload_n 2, 1) := by decide +kernel
theorem dX2_addToPresent_24 : decode cX2_addToPresent 24 = .ok (.iadd, 1) := by decide +kernel
theorem dX2_addToPresent_25 : decode cX2_addToPresent 25 = .ok (.iastore, 1) := by decide +kernel
theorem dX2_addToPresent_26 : decode cX2_addToPresent 26 = .ok (.return_, 1) := by decide +kernel
theorem dX2_growPresent_0 : decode cX2_growPresent 0 = .ok (.aload_n 0, 1) := by decide +kernel
theorem dX2_growPresent_1 : decode cX2_growPresent 1 = .ok (.getfield 25, 3) := by decide +kernel
theorem dX2_growPresent_4 : decode cX2_growPresent 4 = .ok (.ifCond .le 18, 3) := by decide +kernel
theorem dX2_growPresent_7 : decode cX2_growPresent 7 = .ok (.aload_n 0, 1) := by decide +kernel
theorem dX2_growPresent_8 : decode cX2_growPresent 8 = .ok (.getfield 15, 3) := by decide +kernel
theorem dX2_growPresent_11 : decode cX2_growPresent 11 = .ok (.aload_n 0, 1) := by decide +kernel
theorem dX2_growPresent_12 : decode cX2_growPresent 12 = .ok (.getfield 25, 3) := by decide +kernel
theorem dX2_growPresent_15 : decode cX2_growPresent 15 = .ok (.iconst 1, 1) := by decide +kernel
theorem dX2_growPresent_16 : decode cX2_growPresent 16 = .ok (.isub, 1) := by decide +kernel
theorem dX2_growPresent_17 : decode cX2_growPresent 17 = .ok (.dup2, 1) := by decide +kernel
theorem dX2_growPresent_18 : decode cX2_growPresent 18 = .ok (.iaload, 1) := by decide +kernel
theorem dX2_growPresent_19 : decode cX2_growPresent 19 = .ok (.iload_n 1, 1) := by decide +kernel
theorem dX2_growPresent_20 : decode cX2_growPresent 20 = .ok (.iadd, 1) := by decide +kernel
theorem dX2_growPresent_21 : decode cX2_growPresent 21 = .ok (.iastore, 1) := by decide +kernel
theorem dX2_growPresent_22 : decode cX2_growPresent 22 = .ok (.return_, 1) := by decide +kernel
theorem dX2_countFilledTick_0 : decode cX2_countFilledTick 0 = .ok (.aload_n 0, 1) := by decide +kernel
theorem dX2_countFilledTick_1 : decode cX2_countFilledTick 1 = .ok (.getfield 25, 3) := by decide +kernel
theorem dX2_countFilledTick_4 : decode cX2_countFilledTick 4 = .ok (.ifCond .le 18, 3) := by decide +kernel
theorem dX2_countFilledTick_7 : decode cX2_countFilledTick 7 = .ok (.aload_n 0, 1) := by decide +kernel
theorem dX2_countFilledTick_8 : decode cX2_countFilledTick 8 = .ok (.getfield 18, 3) := by decide +kernel
theorem dX2_countFilledTick_11 : decode cX2_countFilledTick 11 = .ok (.aload_n 0, 1) := by decide +kernel
theorem dX2_countFilledTick_12 : decode cX2_countFilledTick 12 = .ok (.getfield 25, 3) := by decide +kernel
theorem dX2_countFilledTick_15 : decode cX2_countFilledTick 15 = .ok (.iconst 1, 1) := by decide +kernel
theorem dX2_countFilledTick_16 : decode cX2_countFilledTick 16 = .ok (.isub, 1) := by decide +kernel
theorem dX2_countFilledTick_17 : decode cX2_countFilledTick 17 = .ok (.dup2, 1) := by decide +kernel
theorem dX2_countFilledTick_18 : decode cX2_countFilledTick 18 = .ok (.iaload, 1) := by decide +kernel
theorem dX2_countFilledTick_19 : decode cX2_countFilledTick 19 = .ok (.iconst 1, 1) := by decide +kernel
theorem dX2_countFilledTick_20 : decode cX2_countFilledTick 20 = .ok (.iadd, 1) := by decide +kernel
theorem dX2_countFilledTick_21 : decode cX2_countFilledTick 21 = .ok (.iastore, 1) := by decide +kernel
theorem dX2_countFilledTick_22 : decode cX2_countFilledTick 22 = .ok (.return_, 1) := by decide +kernel
theorem dX2_massOf_0 : decode cX2_massOf 0 = .ok (.iconst 0, 1) := by decide +kernel
theorem dX2_massOf_1 : decode cX2_massOf 1 = .ok (.istore_n 2, 1) := by decide +kernel
theorem dX2_massOf_2 : decode cX2_massOf 2 = .ok (.iconst 0, 1) := by decide +kernel
theorem dX2_massOf_3 : decode cX2_massOf 3 = .ok (.istore_n 3, 1) := by decide +kernel
theorem dX2_massOf_4 : decode cX2_massOf 4 = .ok (.iload_n 3, 1) := by decide +kernel
theorem dX2_massOf_5 : decode cX2_massOf 5 = .ok (.iconst 4, 1) := by decide +kernel
theorem dX2_massOf_6 : decode cX2_massOf 6 = .ok (.if_icmp .ge 22, 3) := by decide +kernel
theorem dX2_massOf_9 : decode cX2_massOf 9 = .ok (.iload_n 2, 1) := by decide +kernel
theorem dX2_massOf_10 : decode cX2_massOf 10 = .ok (.aload_n 0, 1) := by decide +kernel
theorem dX2_massOf_11 : decode cX2_massOf 11 = .ok (.getfield 9, 3) := by decide +kernel
theorem dX2_massOf_14 : decode cX2_massOf 14 = .ok (.iload_n 1, 1) := by decide +kernel
theorem dX2_massOf_15 : decode cX2_massOf 15 = .ok (.iconst 4, 1) := by decide +kernel
theorem dX2_massOf_16 : decode cX2_massOf 16 = .ok (.imul, 1) := by decide +kernel
theorem dX2_massOf_17 : decode cX2_massOf 17 = .ok (.iload_n 3, 1) := by decide +kernel
theorem dX2_massOf_18 : decode cX2_massOf 18 = .ok (.iadd, 1) := by decide +kernel
theorem dX2_massOf_19 : decode cX2_massOf 19 = .ok (.iaload, 1) := by decide +kernel
theorem dX2_massOf_20 : decode cX2_massOf 20 = .ok (.iadd, 1) := by decide +kernel
theorem dX2_massOf_21 : decode cX2_massOf 21 = .ok (.istore_n 2, 1) := by decide +kernel
theorem dX2_massOf_22 : decode cX2_massOf 22 = .ok (.iinc 3 1, 3) := by decide +kernel
theorem dX2_massOf_25 : decode cX2_massOf 25 = .ok (.goto (-21), 3) := by decide +kernel
theorem dX2_massOf_28 : decode cX2_massOf 28 = .ok (.iload_n 2, 1) := by decide +kernel
theorem dX2_massOf_29 : decode cX2_massOf 29 = .ok (.ireturn, 1) := by decide +kernel
theorem dX2_massOfAll_0 : decode cX2_massOfAll 0 = .ok (.iconst 0, 1) := by decide +kernel
theorem dX2_massOfAll_1 : decode cX2_massOfAll 1 = .ok (.istore_n 1, 1) := by decide +kernel
theorem dX2_massOfAll_2 : decode cX2_massOfAll 2 = .ok (.iconst 0, 1) := by decide +kernel
theorem dX2_massOfAll_3 : decode cX2_massOfAll 3 = .ok (.istore_n 2, 1) := by decide +kernel
theorem dX2_massOfAll_4 : decode cX2_massOfAll 4 = .ok (.iload_n 2, 1) := by decide +kernel
theorem dX2_massOfAll_5 : decode cX2_massOfAll 5 = .ok (.aload_n 0, 1) := by decide +kernel
theorem dX2_massOfAll_6 : decode cX2_massOfAll 6 = .ok (.getfield 9, 3) := by decide +kernel
theorem dX2_massOfAll_9 : decode cX2_massOfAll 9 = .ok (.arraylength, 1) := by decide +kernel
theorem dX2_massOfAll_10 : decode cX2_massOfAll 10 = .ok (.if_icmp .ge 18, 3) := by decide +kernel
theorem dX2_massOfAll_13 : decode cX2_massOfAll 13 = .ok (.iload_n 1, 1) := by decide +kernel
theorem dX2_massOfAll_14 : decode cX2_massOfAll 14 = .ok (.aload_n 0, 1) := by decide +kernel
theorem dX2_massOfAll_15 : decode cX2_massOfAll 15 = .ok (.getfield 9, 3) := by decide +kernel
theorem dX2_massOfAll_18 : decode cX2_massOfAll 18 = .ok (.iload_n 2, 1) := by decide +kernel
theorem dX2_massOfAll_19 : decode cX2_massOfAll 19 = .ok (.iaload, 1) := by decide +kernel
theorem dX2_massOfAll_20 : decode cX2_massOfAll 20 = .ok (.iadd, 1) := by decide +kernel
theorem dX2_massOfAll_21 : decode cX2_massOfAll 21 = .ok (.istore_n 1, 1) := by decide +kernel
theorem dX2_massOfAll_22 : decode cX2_massOfAll 22 = .ok (.iinc 2 1, 3) := by decide +kernel
theorem dX2_massOfAll_25 : decode cX2_massOfAll 25 = .ok (.goto (-21), 3) := by decide +kernel
theorem dX2_massOfAll_28 : decode cX2_massOfAll 28 = .ok (.iload_n 1, 1) := by decide +kernel
theorem dX2_massOfAll_29 : decode cX2_massOfAll 29 = .ok (.ireturn, 1) := by decide +kernel
theorem dX3_init_0 : decode cX3_init 0 = .ok (.aload_n 0, 1) := by decide +kernel
theorem dX3_init_1 : decode cX3_init 1 = .ok (.invokespecial 3, 3) := by decide +kernel
theorem dX3_init_4 : decode cX3_init 4 = .ok (.return_, 1) := by decide +kernel
theorem dX4_init_0 : decode cX4_init 0 = .ok (.aload_n 0, 1) := by decide +kernel
theorem dX4_init_1 : decode cX4_init 1 = .ok (.invokespecial 3, 3) := by decide +kernel
theorem dX4_init_4 : decode cX4_init 4 = .ok (.aload_n 0, 1) := by decide +kernel
theorem dX4_init_5 : decode cX4_init 5 = .ok (.new 9, 3) := by decide +kernel
theorem dX4_init_8 : decode cX4_init 8 = .ok (.dup, 1) := by decide +kernel
theorem dX4_init_9 : decode cX4_init 9 = .ok (.invokespecial 11, 3) := by decide +kernel
theorem dX4_init_12 : decode cX4_init 12 = .ok (.putfield 12, 3) := by decide +kernel
theorem dX4_init_15 : decode cX4_init 15 = .ok (.aload_n 0, 1) := by decide +kernel
theorem dX4_init_16 : decode cX4_init 16 = .ok (.new 9, 3) := by decide +kernel
theorem dX4_init_19 : decode cX4_init 19 = .ok (.dup, 1) := by decide +kernel
theorem dX4_init_20 : decode cX4_init 20 = .ok (.invokespecial 11, 3) := by decide +kernel
theorem dX4_init_23 : decode cX4_init 23 = .ok (.putfield 18, 3) := by decide +kernel
theorem dX4_init_26 : decode cX4_init 26 = .ok (.aload_n 0, 1) := by decide +kernel
theorem dX4_init_27 : decode cX4_init 27 = .ok (.new 9, 3) := by decide +kernel
theorem dX4_init_30 : decode cX4_init 30 = .ok (.dup, 1) := by decide +kernel
theorem dX4_init_31 : decode cX4_init 31 = .ok (.invokespecial 11, 3) := by decide +kernel
theorem dX4_init_34 : decode cX4_init 34 = .ok (.putfield 21, 3) := by decide +kernel
theorem dX4_init_37 : decode cX4_init 37 = .ok (.aload_n 0, 1) := by decide +kernel
theorem dX4_init_38 : decode cX4_init 38 = .ok (.new 9, 3) := by decide +kernel
theorem dX4_init_41 : decode cX4_init 41 = .ok (.dup, 1) := by decide +kernel
theorem dX4_init_42 : decode cX4_init 42 = .ok (.invokespecial 11, 3) := by decide +kernel
theorem dX4_init_45 : decode cX4_init 45 = .ok (.putfield 24, 3) := by decide +kernel
theorem dX4_init_48 : decode cX4_init 48 = .ok (.return_, 1) := by decide +kernel
theorem dX4_push_0 : decode cX4_push 0 = .ok (.aload_n 0, 1) := by decide +kernel
theorem dX4_push_1 : decode cX4_push 1 = .ok (.getfield 24, 3) := by decide +kernel
theorem dX4_push_4 : decode cX4_push 4 = .ok (.astore_n 2, 1) := by decide +kernel
theorem dX4_push_5 : decode cX4_push 5 = .ok (.aload_n 0, 1) := by decide +kernel
theorem dX4_push_6 : decode cX4_push 6 = .ok (.aload_n 0, 1) := by decide +kernel
theorem dX4_push_7 : decode cX4_push 7 = .ok (.getfield 21, 3) := by decide +kernel
theorem dX4_push_10 : decode cX4_push 10 = .ok (.putfield 24, 3) := by decide +kernel
theorem dX4_push_13 : decode cX4_push 13 = .ok (.aload_n 0, 1) := by decide +kernel
theorem dX4_push_14 : decode cX4_push 14 = .ok (.aload_n 0, 1) := by decide +kernel
theorem dX4_push_15 : decode cX4_push 15 = .ok (.getfield 18, 3) := by decide +kernel
theorem dX4_push_18 : decode cX4_push 18 = .ok (.putfield 21, 3) := by decide +kernel
theorem dX4_push_21 : decode cX4_push 21 = .ok (.aload_n 0, 1) := by decide +kernel
theorem dX4_push_22 : decode cX4_push 22 = .ok (.aload_n 0, 1) := by decide +kernel
theorem dX4_push_23 : decode cX4_push 23 = .ok (.getfield 12, 3) := by decide +kernel
theorem dX4_push_26 : decode cX4_push 26 = .ok (.putfield 18, 3) := by decide +kernel
theorem dX4_push_29 : decode cX4_push 29 = .ok (.aload_n 0, 1) := by decide +kernel
theorem dX4_push_30 : decode cX4_push 30 = .ok (.aload_n 2, 1) := by decide +kernel
theorem dX4_push_31 : decode cX4_push 31 = .ok (.putfield 12, 3) := by decide +kernel
theorem dX4_push_34 : decode cX4_push 34 = .ok (.aload_n 0, 1) := by decide +kernel
theorem dX4_push_35 : decode cX4_push 35 = .ok (.getfield 12, 3) := by decide +kernel
theorem dX4_push_38 : decode cX4_push 38 = .ok (.aload_n 1, 1) := by decide +kernel
theorem dX4_push_39 : decode cX4_push 39 = .ok (.invokevirtual 27, 3) := by decide +kernel
theorem dX4_push_42 : decode cX4_push 42 = .ok (.aload_n 0, 1) := by decide +kernel
theorem dX4_push_43 : decode cX4_push 43 = .ok (.aload_n 0, 1) := by decide +kernel
theorem dX4_push_44 : decode cX4_push 44 = .ok (.getfield 31, 3) := by decide +kernel
theorem dX4_push_47 : decode cX4_push 47 = .ok (.iconst 1, 1) := by decide +kernel
theorem dX4_push_48 : decode cX4_push 48 = .ok (.iadd, 1) := by decide +kernel
theorem dX4_push_49 : decode cX4_push 49 = .ok (.iconst 4, 1) := by decide +kernel
theorem dX4_push_50 : decode cX4_push 50 = .ok (.invokestatic 35, 3) := by decide +kernel
theorem dX4_push_53 : decode cX4_push 53 = .ok (.putfield 31, 3) := by decide +kernel
theorem dX4_push_56 : decode cX4_push 56 = .ok (.return_, 1) := by decide +kernel
theorem dX5_init_0 : decode cX5_init 0 = .ok (.aload_n 0, 1) := by decide +kernel
theorem dX5_init_1 : decode cX5_init 1 = .ok (.invokespecial 3, 3) := by decide +kernel
theorem dX5_init_4 : decode cX5_init 4 = .ok (.aload_n 0, 1) := by decide +kernel
theorem dX5_init_5 : decode cX5_init 5 = .ok (.bipush 6, 2) := by decide +kernel
theorem dX5_init_7 : decode cX5_init 7 = .ok (.newarray .int, 2) := by decide +kernel
theorem dX5_init_9 : decode cX5_init 9 = .ok (.putfield 9, 3) := by decide +kernel
theorem dX5_init_12 : decode cX5_init 12 = .ok (.aload_n 0, 1) := by decide +kernel
theorem dX5_init_13 : decode cX5_init 13 = .ok (.bipush 6, 2) := by decide +kernel
theorem dX5_init_15 : decode cX5_init 15 = .ok (.newarray .int, 2) := by decide +kernel
theorem dX5_init_17 : decode cX5_init 17 = .ok (.putfield 15, 3) := by decide +kernel
theorem dX5_init_20 : decode cX5_init 20 = .ok (.return_, 1) := by decide +kernel
theorem dX5_copyFrom_0 : decode cX5_copyFrom 0 = .ok (.aload_n 0, 1) := by decide +kernel
theorem dX5_copyFrom_1 : decode cX5_copyFrom 1 = .ok (.getfield 9, 3) := by decide +kernel
theorem dX5_copyFrom_4 : decode cX5_copyFrom 4 = .ok (.aload_n 1, 1) := by decide +kernel
theorem dX5_copyFrom_5 : decode cX5_copyFrom 5 = .ok (.getfield 9, 3) := by decide +kernel
theorem dX5_copyFrom_8 : decode cX5_copyFrom 8 = .ok (.invokestatic 18, 3) := by decide +kernel
theorem dX5_copyFrom_11 : decode cX5_copyFrom 11 = .ok (.aload_n 0, 1) := by decide +kernel
theorem dX5_copyFrom_12 : decode cX5_copyFrom 12 = .ok (.getfield 15, 3) := by decide +kernel
theorem dX5_copyFrom_15 : decode cX5_copyFrom 15 = .ok (.aload_n 1, 1) := by decide +kernel
theorem dX5_copyFrom_16 : decode cX5_copyFrom 16 = .ok (.getfield 15, 3) := by decide +kernel
theorem dX5_copyFrom_19 : decode cX5_copyFrom 19 = .ok (.invokestatic 18, 3) := by decide +kernel
theorem dX5_copyFrom_22 : decode cX5_copyFrom 22 = .ok (.aload_n 0, 1) := by decide +kernel
theorem dX5_copyFrom_23 : decode cX5_copyFrom 23 = .ok (.aload_n 1, 1) := by decide +kernel
theorem dX5_copyFrom_24 : decode cX5_copyFrom 24 = .ok (.getfield 22, 3) := by decide +kernel
theorem dX5_copyFrom_27 : decode cX5_copyFrom 27 = .ok (.putfield 22, 3) := by decide +kernel
theorem dX5_copyFrom_30 : decode cX5_copyFrom 30 = .ok (.aload_n 0, 1) := by decide +kernel
theorem dX5_copyFrom_31 : decode cX5_copyFrom 31 = .ok (.aload_n 1, 1) := by decide +kernel
theorem dX5_copyFrom_32 : decode cX5_copyFrom 32 = .ok (.getfield 26, 3) := by decide +kernel
theorem dX5_copyFrom_35 : decode cX5_copyFrom 35 = .ok (.putfield 26, 3) := by decide +kernel
theorem dX5_copyFrom_38 : decode cX5_copyFrom 38 = .ok (.return_, 1) := by decide +kernel
theorem dX5_append_0 : decode cX5_append 0 = .ok (.aload_n 0, 1) := by decide +kernel
theorem dX5_append_1 : decode cX5_append 1 = .ok (.getfield 22, 3) := by decide +kernel
theorem dX5_append_4 : decode cX5_append 4 = .ok (.bipush 6, 2) := by decide +kernel
theorem dX5_append_6 : decode cX5_append 6 = .ok (.if_icmp .ge 43, 3) := by decide +kernel
theorem dX5_append_9 : decode cX5_append 9 = .ok (.aload_n 0, 1) := by decide +kernel
theorem dX5_append_10 : decode cX5_append 10 = .ok (.getfield 9, 3) := by decide +kernel
theorem dX5_append_13 : decode cX5_append 13 = .ok (.aload_n 0, 1) := by decide +kernel
theorem dX5_append_14 : decode cX5_append 14 = .ok (.getfield 22, 3) := by decide +kernel
theorem dX5_append_17 : decode cX5_append 17 = .ok (.iload_n 1, 1) := by decide +kernel
theorem dX5_append_18 : decode cX5_append 18 = .ok (.iastore, 1) := by decide +kernel
theorem dX5_append_19 : decode cX5_append 19 = .ok (.aload_n 0, 1) := by decide +kernel
theorem dX5_append_20 : decode cX5_append 20 = .ok (.getfield 15, 3) := by decide +kernel
theorem dX5_append_23 : decode cX5_append 23 = .ok (.aload_n 0, 1) := by decide +kernel
theorem dX5_append_24 : decode cX5_append 24 = .ok (.getfield 22, 3) := by decide +kernel
theorem dX5_append_27 : decode cX5_append 27 = .ok (.iload_n 2, 1) := by decide +kernel
theorem dX5_append_28 : decode cX5_append 28 = .ok (.iastore, 1) := by decide +kernel
theorem dX5_append_29 : decode cX5_append 29 = .ok (.aload_n 0, 1) := by decide +kernel
theorem dX5_append_30 : decode cX5_append 30 = .ok (.dup, 1) := by decide +kernel
theorem dX5_append_31 : decode cX5_append 31 = .ok (.getfield 22, 3) := by decide +kernel
theorem dX5_append_34 : decode cX5_append 34 = .ok (.iconst 1, 1) := by decide +kernel
theorem dX5_append_35 : decode cX5_append 35 = .ok (.iadd, 1) := by decide +kernel
theorem dX5_append_36 : decode cX5_append 36 = .ok (.putfield 22, 3) := by decide +kernel
theorem dX5_append_39 : decode cX5_append 39 = .ok (.aload_n 0, 1) := by decide +kernel
theorem dX5_append_40 : decode cX5_append 40 = .ok (.dup, 1) := by decide +kernel
theorem dX5_append_41 : decode cX5_append 41 = .ok (.getfield 26, 3) := by decide +kernel
theorem dX5_append_44 : decode cX5_append 44 = .ok (.iload_n 2, 1) := by decide +kernel
theorem dX5_append_45 : decode cX5_append 45 = .ok (.iadd, 1) := by decide +kernel
theorem dX5_append_46 : decode cX5_append 46 = .ok (.putfield 26, 3) := by decide +kernel
theorem dX5_append_49 : decode cX5_append 49 = .ok (.return_, 1) := by decide +kernel
theorem dX5_takeFromFirst_0 : decode cX5_takeFromFirst 0 = .ok (.aload_n 0, 1) := by decide +kernel
theorem dX5_takeFromFirst_1 : decode cX5_takeFromFirst 1 = .ok (.getfield 15, 3) := by decide +kernel
theorem dX5_takeFromFirst_4 : decode cX5_takeFromFirst 4 = .ok (.iconst 0, 1) := by decide +kernel
theorem dX5_takeFromFirst_5 : decode cX5_takeFromFirst 5 = .ok (.dup2, 1) := by decide +kernel
theorem dX5_takeFromFirst_6 : decode cX5_takeFromFirst 6 = .ok (.iaload, 1) := by decide +kernel
theorem dX5_takeFromFirst_7 : decode cX5_takeFromFirst 7 = .ok (.iload_n 1, 1) := by decide +kernel
theorem dX5_takeFromFirst_8 : decode cX5_takeFromFirst 8 = .ok (.isub, 1) := by decide +kernel
theorem dX5_takeFromFirst_9 : decode cX5_takeFromFirst 9 = .ok (.iastore, 1) := by decide +kernel
theorem dX5_takeFromFirst_10 : decode cX5_takeFromFirst 10 = .ok (.aload_n 0, 1) := by decide +kernel
theorem dX5_takeFromFirst_11 : decode cX5_takeFromFirst 11 = .ok (.getfield 15, 3) := by decide +kernel
theorem dX5_takeFromFirst_14 : decode cX5_takeFromFirst 14 = .ok (.iconst 0, 1) := by decide +kernel
theorem dX5_takeFromFirst_15 : decode cX5_takeFromFirst 15 = .ok (.iaload, 1) := by decide +kernel
theorem dX5_takeFromFirst_16 : decode cX5_takeFromFirst 16 = .ok (.ifCond .ne 55, 3) := by decide +kernel
theorem dX5_takeFromFirst_19 : decode cX5_takeFromFirst 19 = .ok (.iconst 1, 1) := by decide +kernel
theorem dX5_takeFromFirst_20 : decode cX5_takeFromFirst 20 = .ok (.istore_n 2, 1) := by decide +kernel
theorem dX5_takeFromFirst_21 : decode cX5_takeFromFirst 21 = .ok (.iload_n 2, 1) := by decide +kernel
theorem dX5_takeFromFirst_22 : decode cX5_takeFromFirst 22 = .ok (.bipush 6, 2) := by decide +kernel
theorem dX5_takeFromFirst_24 : decode cX5_takeFromFirst 24 = .ok (.if_icmp .ge 37, 3) := by decide +kernel
theorem dX5_takeFromFirst_27 : decode cX5_takeFromFirst 27 = .ok (.aload_n 0, 1) := by decide +kernel
theorem dX5_takeFromFirst_28 : decode cX5_takeFromFirst 28 = .ok (.getfield 9, 3) := by decide +kernel
theorem dX5_takeFromFirst_31 : decode cX5_takeFromFirst 31 = .ok (.iload_n 2, 1) := by decide +kernel
theorem dX5_takeFromFirst_32 : decode cX5_takeFromFirst 32 = .ok (.iconst 1, 1) := by decide +kernel
theorem dX5_takeFromFirst_33 : decode cX5_takeFromFirst 33 = .ok (.isub, 1) := by decide +kernel
theorem dX5_takeFromFirst_34 : decode cX5_takeFromFirst 34 = .ok (.aload_n 0, 1) := by decide +kernel
theorem dX5_takeFromFirst_35 : decode cX5_takeFromFirst 35 = .ok (.getfield 9, 3) := by decide +kernel
theorem dX5_takeFromFirst_38 : decode cX5_takeFromFirst 38 = .ok (.iload_n 2, 1) := by decide +kernel
theorem dX5_takeFromFirst_39 : decode cX5_takeFromFirst 39 = .ok (.iaload, 1) := by decide +kernel
theorem dX5_takeFromFirst_40 : decode cX5_takeFromFirst 40 = .ok (.iastore, 1) := by decide +kernel
theorem dX5_takeFromFirst_41 : decode cX5_takeFromFirst 41 = .ok (.aload_n 0, 1) := by decide +kernel
theorem dX5_takeFromFirst_42 : decode cX5_takeFromFirst 42 = .ok (.getfield 15, 3) := by decide +kernel
theorem dX5_takeFromFirst_45 : decode cX5_takeFromFirst 45 = .ok (.iload_n 2, 1) := by decide +kernel
theorem dX5_takeFromFirst_46 : decode cX5_takeFromFirst 46 = .ok (.iconst 1, 1) := by decide +kernel
theorem dX5_takeFromFirst_47 : decode cX5_takeFromFirst 47 = .ok (.isub, 1) := by decide +kernel
theorem dX5_takeFromFirst_48 : decode cX5_takeFromFirst 48 = .ok (.aload_n 0, 1) := by decide +kernel
theorem dX5_takeFromFirst_49 : decode cX5_takeFromFirst 49 = .ok (.getfield 15, 3) := by decide +kernel
theorem dX5_takeFromFirst_52 : decode cX5_takeFromFirst 52 = .ok (.iload_n 2, 1) := by decide +kernel
theorem dX5_takeFromFirst_53 : decode cX5_takeFromFirst 53 = .ok (.iaload, 1) := by decide +kernel
theorem dX5_takeFromFirst_54 : decode cX5_takeFromFirst 54 = .ok (.iastore, 1) := by decide +kernel
theorem dX5_takeFromFirst_55 : decode cX5_takeFromFirst 55 = .ok (.iinc 2 1, 3) := by decide +kernel
theorem dX5_takeFromFirst_58 : decode cX5_takeFromFirst 58 = .ok (.goto (-37), 3) := by decide +kernel
theorem dX5_takeFromFirst_61 : decode cX5_takeFromFirst 61 = .ok (.aload_n 0, 1) := by decide +kernel
theorem dX5_takeFromFirst_62 : decode cX5_takeFromFirst 62 = .ok (.dup, 1) := by decide +kernel
theorem dX5_takeFromFirst_63 : decode cX5_takeFromFirst 63 = .ok (.getfield 22, 3) := by decide +kernel
theorem dX5_takeFromFirst_66 : decode cX5_takeFromFirst 66 = .ok (.iconst 1, 1) := by decide +kernel
theorem dX5_takeFromFirst_67 : decode cX5_takeFromFirst 67 = .ok (.isub, 1) := by decide +kernel
theorem dX5_takeFromFirst_68 : decode cX5_takeFromFirst 68 = .ok (.putfield 22, 3) := by decide +kernel
theorem dX5_takeFromFirst_71 : decode cX5_takeFromFirst 71 = .ok (.return_, 1) := by decide +kernel
theorem dX5_massInside_0 : decode cX5_massInside 0 = .ok (.iconst 0, 1) := by decide +kernel
theorem dX5_massInside_1 : decode cX5_massInside 1 = .ok (.istore_n 1, 1) := by decide +kernel
theorem dX5_massInside_2 : decode cX5_massInside 2 = .ok (.iconst 0, 1) := by decide +kernel
theorem dX5_massInside_3 : decode cX5_massInside 3 = .ok (.istore_n 2, 1) := by decide +kernel
theorem dX5_massInside_4 : decode cX5_massInside 4 = .ok (.iload_n 2, 1) := by decide +kernel
theorem dX5_massInside_5 : decode cX5_massInside 5 = .ok (.aload_n 0, 1) := by decide +kernel
theorem dX5_massInside_6 : decode cX5_massInside 6 = .ok (.getfield 22, 3) := by decide +kernel
theorem dX5_massInside_9 : decode cX5_massInside 9 = .ok (.if_icmp .ge 24, 3) := by decide +kernel
theorem dX5_massInside_12 : decode cX5_massInside 12 = .ok (.iload_n 2, 1) := by decide +kernel
theorem dX5_massInside_13 : decode cX5_massInside 13 = .ok (.bipush 6, 2) := by decide +kernel
theorem dX5_massInside_15 : decode cX5_massInside 15 = .ok (.if_icmp .ge 18, 3) := by decide +kernel
theorem dX5_massInside_18 : decode cX5_massInside 18 = .ok (.iload_n 1, 1) := by decide +kernel
theorem dX5_massInside_19 : decode cX5_massInside 19 = .ok (.aload_n 0, 1) := by decide +kernel
theorem dX5_massInside_20 : decode cX5_massInside 20 = .ok (.getfield 15, 3) := by decide +kernel
theorem dX5_massInside_23 : decode cX5_massInside 23 = .ok (.iload_n 2, 1) := by decide +kernel
theorem dX5_massInside_24 : decode cX5_massInside 24 = .ok (.iaload, 1) := by decide +kernel
theorem dX5_massInside_25 : decode cX5_massInside 25 = .ok (.iadd, 1) := by decide +kernel
theorem dX5_massInside_26 : decode cX5_massInside 26 = .ok (.istore_n 1, 1) := by decide +kernel
theorem dX5_massInside_27 : decode cX5_massInside 27 = .ok (.iinc 2 1, 3) := by decide +kernel
theorem dX5_massInside_30 : decode cX5_massInside 30 = .ok (.goto (-26), 3) := by decide +kernel
theorem dX5_massInside_33 : decode cX5_massInside 33 = .ok (.iload_n 1, 1) := by decide +kernel
theorem dX5_massInside_34 : decode cX5_massInside 34 = .ok (.ireturn, 1) := by decide +kernel
theorem dX6_init_0 : decode cX6_init 0 = .ok (.aload_n 0, 1) := by decide +kernel
theorem dX6_init_1 : decode cX6_init 1 = .ok (.invokespecial 3, 3) := by decide +kernel
theorem dX6_init_4 : decode cX6_init 4 = .ok (.aload_n 0, 1) := by decide +kernel
theorem dX6_init_5 : decode cX6_init 5 = .ok (.new 9, 3) := by decide +kernel
theorem dX6_init_8 : decode cX6_init 8 = .ok (.dup, 1) := by decide +kernel
theorem dX6_init_9 : decode cX6_init 9 = .ok (.invokespecial 11, 3) := by decide +kernel
theorem dX6_init_12 : decode cX6_init 12 = .ok (.putfield 12, 3) := by decide +kernel
theorem dX6_init_15 : decode cX6_init 15 = .ok (.aload_n 0, 1) := by decide +kernel
theorem dX6_init_16 : decode cX6_init 16 = .ok (.new 18, 3) := by decide +kernel
theorem dX6_init_19 : decode cX6_init 19 = .ok (.dup, 1) := by decide +kernel
theorem dX6_init_20 : decode cX6_init 20 = .ok (.invokespecial 20, 3) := by decide +kernel
theorem dX6_init_23 : decode cX6_init 23 = .ok (.putfield 21, 3) := by decide +kernel
theorem dX6_init_26 : decode cX6_init 26 = .ok (.aload_n 0, 1) := by decide +kernel
theorem dX6_init_27 : decode cX6_init 27 = .ok (.new 25, 3) := by decide +kernel
theorem dX6_init_30 : decode cX6_init 30 = .ok (.dup, 1) := by decide +kernel
theorem dX6_init_31 : decode cX6_init 31 = .ok (.invokespecial 27, 3) := by decide +kernel
theorem dX6_init_34 : decode cX6_init 34 = .ok (.putfield 28, 3) := by decide +kernel
theorem dX6_init_37 : decode cX6_init 37 = .ok (.aload_n 0, 1) := by decide +kernel
theorem dX6_init_38 : decode cX6_init 38 = .ok (.new 32, 3) := by decide +kernel
theorem dX6_init_41 : decode cX6_init 41 = .ok (.dup, 1) := by decide +kernel
theorem dX6_init_42 : decode cX6_init 42 = .ok (.invokespecial 34, 3) := by decide +kernel
theorem dX6_init_45 : decode cX6_init 45 = .ok (.putfield 35, 3) := by decide +kernel
theorem dX6_init_48 : decode cX6_init 48 = .ok (.aload_n 0, 1) := by decide +kernel
theorem dX6_init_49 : decode cX6_init 49 = .ok (.new 39, 3) := by decide +kernel
theorem dX6_init_52 : decode cX6_init 52 = .ok (.dup, 1) := by decide +kernel
theorem dX6_init_53 : decode cX6_init 53 = .ok (.invokespecial 41, 3) := by decide +kernel
theorem dX6_init_56 : decode cX6_init 56 = .ok (.putfield 42, 3) := by decide +kernel
theorem dX6_init_59 : decode cX6_init 59 = .ok (.aload_n 0, 1) := by decide +kernel
theorem dX6_init_60 : decode cX6_init 60 = .ok (.iconst 3, 1) := by decide +kernel
theorem dX6_init_61 : decode cX6_init 61 = .ok (.newarray .int, 2) := by decide +kernel
theorem dX6_init_63 : decode cX6_init 63 = .ok (.putfield 46, 3) := by decide +kernel
theorem dX6_init_66 : decode cX6_init 66 = .ok (.aload_n 0, 1) := by decide +kernel
theorem dX6_init_67 : decode cX6_init 67 = .ok (.bipush 50, 2) := by decide +kernel
theorem dX6_init_69 : decode cX6_init 69 = .ok (.putfield 50, 3) := by decide +kernel
theorem dX6_init_72 : decode cX6_init 72 = .ok (.aload_n 0, 1) := by decide +kernel
theorem dX6_init_73 : decode cX6_init 73 = .ok (.getfield 46, 3) := by decide +kernel
theorem dX6_init_76 : decode cX6_init 76 = .ok (.getstatic 54, 3) := by decide +kernel
theorem dX6_init_79 : decode cX6_init 79 = .ok (.invokestatic 57, 3) := by decide +kernel
theorem dX6_init_82 : decode cX6_init 82 = .ok (.return_, 1) := by decide +kernel
theorem dX6_copyFrom_0 : decode cX6_copyFrom 0 = .ok (.aload_n 0, 1) := by decide +kernel
theorem dX6_copyFrom_1 : decode cX6_copyFrom 1 = .ok (.getfield 12, 3) := by decide +kernel
theorem dX6_copyFrom_4 : decode cX6_copyFrom 4 = .ok (.aload_n 1, 1) := by decide +kernel
theorem dX6_copyFrom_5 : decode cX6_copyFrom 5 = .ok (.getfield 12, 3) := by decide +kernel
theorem dX6_copyFrom_8 : decode cX6_copyFrom 8 = .ok (.invokevirtual 61, 3) := by decide +kernel
theorem dX6_copyFrom_11 : decode cX6_copyFrom 11 = .ok (.aload_n 0, 1) := by decide +kernel
theorem dX6_copyFrom_12 : decode cX6_copyFrom 12 = .ok (.getfield 21, 3) := by decide +kernel
theorem dX6_copyFrom_15 : decode cX6_copyFrom 15 = .ok (.aload_n 1, 1) := by decide +kernel
theorem dX6_copyFrom_16 : decode cX6_copyFrom 16 = .ok (.getfield 21, 3) := by decide +kernel
theorem dX6_copyFrom_19 : decode cX6_copyFrom 19 = .ok (.invokevirtual 65, 3) := by decide +kernel
theorem dX6_copyFrom_22 : decode cX6_copyFrom 22 = .ok (.aload_n 0, 1) := by decide +kernel
theorem dX6_copyFrom_23 : decode cX6_copyFrom 23 = .ok (.getfield 28, 3) := by decide +kernel
theorem dX6_copyFrom_26 : decode cX6_copyFrom 26 = .ok (.aload_n 1, 1) := by decide +kernel
theorem dX6_copyFrom_27 : decode cX6_copyFrom 27 = .ok (.getfield 28, 3) := by decide +kernel
theorem dX6_copyFrom_30 : decode cX6_copyFrom 30 = .ok (.invokevirtual 68, 3) := by decide +kernel
theorem dX6_copyFrom_33 : decode cX6_copyFrom 33 = .ok (.aload_n 0, 1) := by decide +kernel
theorem dX6_copyFrom_34 : decode cX6_copyFrom 34 = .ok (.getfield 35, 3) := by decide +kernel
theorem dX6_copyFrom_37 : decode cX6_copyFrom 37 = .ok (.aload_n 1, 1) := by decide +kernel
theorem dX6_copyFrom_38 : decode cX6_copyFrom 38 = .ok (.getfield 35, 3) := by decide +kernel
theorem dX6_copyFrom_41 : decode cX6_copyFrom 41 = .ok (.invokevirtual 71, 3) := by decide +kernel
theorem dX6_copyFrom_44 : decode cX6_copyFrom 44 = .ok (.aload_n 0, 1) := by decide +kernel
theorem dX6_copyFrom_45 : decode cX6_copyFrom 45 = .ok (.getfield 42, 3) := by decide +kernel
theorem dX6_copyFrom_48 : decode cX6_copyFrom 48 = .ok (.aload_n 1, 1) := by decide +kernel
theorem dX6_copyFrom_49 : decode cX6_copyFrom 49 = .ok (.getfield 42, 3) := by decide +kernel
theorem dX6_copyFrom_52 : decode cX6_copyFrom 52 = .ok (.invokevirtual 74, 3) := by decide +kernel
theorem dX6_copyFrom_55 : decode cX6_copyFrom 55 = .ok (.aload_n 0, 1) := by decide +kernel
theorem dX6_copyFrom_56 : decode cX6_copyFrom 56 = .ok (.getfield 46, 3) := by decide +kernel
theorem dX6_copyFrom_59 : decode cX6_copyFrom 59 = .ok (.aload_n 1, 1) := by decide +kernel
theorem dX6_copyFrom_60 : decode cX6_copyFrom 60 = .ok (.getfield 46, 3) := by decide +kernel
theorem dX6_copyFrom_63 : decode cX6_copyFrom 63 = .ok (.invokestatic 57, 3) := by decide +kernel
theorem dX6_copyFrom_66 : decode cX6_copyFrom 66 = .ok (.aload_n 0, 1) := by decide +kernel
theorem dX6_copyFrom_67 : decode cX6_copyFrom 67 = .ok (.aload_n 1, 1) := by decide +kernel
theorem dX6_copyFrom_68 : decode cX6_copyFrom 68 = .ok (.getfield 50, 3) := by decide +kernel
theorem dX6_copyFrom_71 : decode cX6_copyFrom 71 = .ok (.putfield 50, 3) := by decide +kernel
theorem dX6_copyFrom_74 : decode cX6_copyFrom 74 = .ok (.aload_n 0, 1) := by decide +kernel
theorem dX6_copyFrom_75 : decode cX6_copyFrom 75 = .ok (.aload_n 1, 1) := by decide +kernel
theorem dX6_copyFrom_76 : decode cX6_copyFrom 76 = .ok (.getfield 77, 3) := by decide +kernel
theorem dX6_copyFrom_79 : decode cX6_copyFrom 79 = .ok (.putfield 77, 3) := by decide +kernel
theorem dX6_copyFrom_82 : decode cX6_copyFrom 82 = .ok (.aload_n 0, 1) := by decide +kernel
theorem dX6_copyFrom_83 : decode cX6_copyFrom 83 = .ok (.aload_n 1, 1) := by decide +kernel
theorem dX6_copyFrom_84 : decode cX6_copyFrom 84 = .ok (.getfield 80, 3) := by decide +kernel
theorem dX6_copyFrom_87 : decode cX6_copyFrom 87 = .ok (.putfield 80, 3) := by decide +kernel
theorem dX6_copyFrom_90 : decode cX6_copyFrom 90 = .ok (.aload_n 0, 1) := by decide +kernel
theorem dX6_copyFrom_91 : decode cX6_copyFrom 91 = .ok (.aload_n 1, 1) := by decide +kernel
theorem dX6_copyFrom_92 : decode cX6_copyFrom 92 = .ok (.getfield 83, 3) := by decide +kernel
theorem dX6_copyFrom_95 : decode cX6_copyFrom 95 = .ok (.putfield 83, 3) := by decide +kernel
theorem dX6_copyFrom_98 : decode cX6_copyFrom 98 = .ok (.aload_n 0, 1) := by decide +kernel
theorem dX6_copyFrom_99 : decode cX6_copyFrom 99 = .ok (.aload_n 1, 1) := by decide +kernel
theorem dX6_copyFrom_100 : decode cX6_copyFrom 100 = .ok (.getfield 87, 3) := by decide +kernel
theorem dX6_copyFrom_103 : decode cX6_copyFrom 103 = .ok (.putfield 87, 3) := by decide +kernel
theorem dX6_copyFrom_106 : decode cX6_copyFrom 106 = .ok (.aload_n 0, 1) := by decide +kernel
theorem dX6_copyFrom_107 : decode cX6_copyFrom 107 = .ok (.aload_n 1, 1) := by decide +kernel
theorem dX6_copyFrom_108 : decode cX6_copyFrom 108 = .ok (.getfield 90, 3) := by decide +kernel
theorem dX6_copyFrom_111 : decode cX6_copyFrom 111 = .ok (.putfield 90, 3) := by decide +kernel
theorem dX6_copyFrom_114 : decode cX6_copyFrom 114 = .ok (.aload_n 0, 1) := by decide +kernel
theorem dX6_copyFrom_115 : decode cX6_copyFrom 115 = .ok (.aload_n 1, 1) := by decide +kernel
theorem dX6_copyFrom_116 : decode cX6_copyFrom 116 = .ok (.getfield 93, 3) := by decide +kernel
theorem dX6_copyFrom_119 : decode cX6_copyFrom 119 = .ok (.putfield 93, 3) := by decide +kernel
theorem dX6_copyFrom_122 : decode cX6_copyFrom 122 = .ok (.aload_n 0, 1) := by decide +kernel
theorem dX6_copyFrom_123 : decode cX6_copyFrom 123 = .ok (.aload_n 1, 1) := by decide +kernel
theorem dX6_copyFrom_124 : decode cX6_copyFrom 124 = .ok (.getfield 96, 3) := by decide +kernel
theorem dX6_copyFrom_127 : decode cX6_copyFrom 127 = .ok (.putfield 96, 3) := by decide +kernel
theorem dX6_copyFrom_130 : decode cX6_copyFrom 130 = .ok (.aload_n 0, 1) := by decide +kernel
theorem dX6_copyFrom_131 : decode cX6_copyFrom 131 = .ok (.aload_n 1, 1) := by decide +kernel
theorem dX6_copyFrom_132 : decode cX6_copyFrom 132 = .ok (.getfield 99, 3) := by decide +kernel
theorem dX6_copyFrom_135 : decode cX6_copyFrom 135 = .ok (.putfield 99, 3) := by decide +kernel
theorem dX6_copyFrom_138 : decode cX6_copyFrom 138 = .ok (.return_, 1) := by decide +kernel
theorem dX6_hasBatch_0 : decode cX6_hasBatch 0 = .ok (.aload_n 0, 1) := by decide +kernel
theorem dX6_hasBatch_1 : decode cX6_hasBatch 1 = .ok (.getfield 80, 3) := by decide +kernel
theorem dX6_hasBatch_4 : decode cX6_hasBatch 4 = .ok (.ifCond .le 7, 3) := by decide +kernel
theorem dX6_hasBatch_7 : decode cX6_hasBatch 7 = .ok (.iconst 1, 1) := by decide +kernel
theorem dX6_hasBatch_8 : decode cX6_hasBatch 8 = .ok (.goto 4, 3) := by decide +kernel
theorem dX6_hasBatch_11 : decode cX6_hasBatch 11 = .ok (.iconst 0, 1) := by decide +kernel
theorem dX6_hasBatch_12 : decode cX6_hasBatch 12 = .ok (.ireturn, 1) := by decide +kernel
theorem dX6_putLot_0 : decode cX6_putLot 0 = .ok (.iload_n 1, 1) := by decide +kernel
theorem dX6_putLot_1 : decode cX6_putLot 1 = .ok (.invokestatic 102, 3) := by decide +kernel
theorem dX6_putLot_4 : decode cX6_putLot 4 = .ok (.ifCond .eq 15, 3) := by decide +kernel
theorem dX6_putLot_7 : decode cX6_putLot 7 = .ok (.iload_n 2, 1) := by decide +kernel
theorem dX6_putLot_8 : decode cX6_putLot 8 = .ok (.iconst 1, 1) := by decide +kernel
theorem dX6_putLot_9 : decode cX6_putLot 9 = .ok (.if_icmp .lt 10, 3) := by decide +kernel
theorem dX6_putLot_12 : decode cX6_putLot 12 = .ok (.iload_n 2, 1) := by decide +kernel
theorem dX6_putLot_13 : decode cX6_putLot 13 = .ok (.sipush 9999, 3) := by decide +kernel
theorem dX6_putLot_16 : decode cX6_putLot 16 = .ok (.if_icmp .le 6, 3) := by decide +kernel
theorem dX6_putLot_19 : decode cX6_putLot 19 = .ok (.ldc 106, 2) := by decide +kernel
theorem dX6_putLot_21 : decode cX6_putLot 21 = .ok (.ireturn, 1) := by decide +kernel
theorem dX6_putLot_22 : decode cX6_putLot 22 = .ok (.aload_n 0, 1) := by decide +kernel
theorem dX6_putLot_23 : decode cX6_putLot 23 = .ok (.getfield 12, 3) := by decide +kernel
theorem dX6_putLot_26 : decode cX6_putLot 26 = .ok (.getfield 107, 3) := by decide +kernel
theorem dX6_putLot_29 : decode cX6_putLot 29 = .ok (.bipush 6, 2) := by decide +kernel
theorem dX6_putLot_31 : decode cX6_putLot 31 = .ok (.if_icmp .lt 6, 3) := by decide +kernel
theorem dX6_putLot_34 : decode cX6_putLot 34 = .ok (.ldc 110, 2) := by decide +kernel
theorem dX6_putLot_36 : decode cX6_putLot 36 = .ok (.ireturn, 1) := by decide +kernel
theorem dX6_putLot_37 : decode cX6_putLot 37 = .ok (.aload_n 0, 1) := by decide +kernel
theorem dX6_putLot_38 : decode cX6_putLot 38 = .ok (.getfield 12, 3) := by decide +kernel
theorem dX6_putLot_41 : decode cX6_putLot 41 = .ok (.iload_n 1, 1) := by decide +kernel
theorem dX6_putLot_42 : decode cX6_putLot 42 = .ok (.iload_n 2, 1) := by decide +kernel
theorem dX6_putLot_43 : decode cX6_putLot 43 = .ok (.invokevirtual 111, 3) := by decide +kernel
theorem dX6_putLot_46 : decode cX6_putLot 46 = .ok (.aload_n 0, 1) := by decide +kernel
theorem dX6_putLot_47 : decode cX6_putLot 47 = .ok (.getfield 12, 3) := by decide +kernel
theorem dX6_putLot_50 : decode cX6_putLot 50 = .ok (.getfield 107, 3) := by decide +kernel
theorem dX6_putLot_53 : decode cX6_putLot 53 = .ok (.ireturn, 1) := by decide +kernel
theorem dX6_setGate_0 : decode cX6_setGate 0 = .ok (.iload_n 1, 1) := by decide +kernel
theorem dX6_setGate_1 : decode cX6_setGate 1 = .ok (.ifCond .lt 10, 3) := by decide +kernel
theorem dX6_setGate_4 : decode cX6_setGate 4 = .ok (.iload_n 1, 1) := by decide +kernel
theorem dX6_setGate_5 : decode cX6_setGate 5 = .ok (.sipush 200, 3) := by decide +kernel
theorem dX6_setGate_8 : decode cX6_setGate 8 = .ok (.if_icmp .le 6, 3) := by decide +kernel
theorem dX6_setGate_11 : decode cX6_setGate 11 = .ok (.ldc 106, 2) := by decide +kernel
theorem dX6_setGate_13 : decode cX6_setGate 13 = .ok (.ireturn, 1) := by decide +kernel
theorem dX6_setGate_14 : decode cX6_setGate 14 = .ok (.aload_n 0, 1) := by decide +kernel
theorem dX6_setGate_15 : decode cX6_setGate 15 = .ok (.getfield 50, 3) := by decide +kernel
theorem dX6_setGate_18 : decode cX6_setGate 18 = .ok (.istore_n 2, 1) := by decide +kernel
theorem dX6_setGate_19 : decode cX6_setGate 19 = .ok (.aload_n 0, 1) := by decide +kernel
theorem dX6_setGate_20 : decode cX6_setGate 20 = .ok (.iload_n 1, 1) := by decide +kernel
theorem dX6_setGate_21 : decode cX6_setGate 21 = .ok (.putfield 50, 3) := by decide +kernel
theorem dX6_setGate_24 : decode cX6_setGate 24 = .ok (.iload_n 2, 1) := by decide +kernel
theorem dX6_setGate_25 : decode cX6_setGate 25 = .ok (.ireturn, 1) := by decide +kernel
theorem dX6_switchBelt_0 : decode cX6_switchBelt 0 = .ok (.iload_n 1, 1) := by decide +kernel
theorem dX6_switchBelt_1 : decode cX6_switchBelt 1 = .ok (.ifCond .lt 8, 3) := by decide +kernel
theorem dX6_switchBelt_4 : decode cX6_switchBelt 4 = .ok (.iload_n 1, 1) := by decide +kernel
theorem dX6_switchBelt_5 : decode cX6_switchBelt 5 = .ok (.iconst 1, 1) := by decide +kernel
theorem dX6_switchBelt_6 : decode cX6_switchBelt 6 = .ok (.if_icmp .le 6, 3) := by decide +kernel
theorem dX6_switchBelt_9 : decode cX6_switchBelt 9 = .ok (.ldc 106, 2) := by decide +kernel
theorem dX6_switchBelt_11 : decode cX6_switchBelt 11 = .ok (.ireturn, 1) := by decide +kernel
theorem dX6_switchBelt_12 : decode cX6_switchBelt 12 = .ok (.aload_n 0, 1) := by decide +kernel
theorem dX6_switchBelt_13 : decode cX6_switchBelt 13 = .ok (.invokevirtual 115, 3) := by decide +kernel
theorem dX6_switchBelt_16 : decode cX6_switchBelt 16 = .ok (.ifCond .eq 6, 3) := by decide +kernel
theorem dX6_switchBelt_19 : decode cX6_switchBelt 19 = .ok (.ldc 119, 2) := by decide +kernel
theorem dX6_switchBelt_21 : decode cX6_switchBelt 21 = .ok (.ireturn, 1) := by decide +kernel
theorem dX6_switchBelt_22 : decode cX6_switchBelt 22 = .ok (.aload_n 0, 1) := by decide +kernel
theorem dX6_switchBelt_23 : decode cX6_switchBelt 23 = .ok (.getfield 77, 3) := by decide +kernel
theorem dX6_switchBelt_26 : decode cX6_switchBelt 26 = .ok (.istore_n 2, 1) := by decide +kernel
theorem dX6_switchBelt_27 : decode cX6_switchBelt 27 = .ok (.aload_n 0, 1) := by decide +kernel
theorem dX6_switchBelt_28 : decode cX6_switchBelt 28 = .ok (.iload_n 1, 1) := by decide +kernel
theorem dX6_switchBelt_29 : decode cX6_switchBelt 29 = .ok (.putfield 77, 3) := by decide +kernel
theorem dX6_switchBelt_32 : decode cX6_switchBelt 32 = .ok (.iload_n 2, 1) := by decide +kernel
theorem dX6_switchBelt_33 : decode cX6_switchBelt 33 = .ok (.ireturn, 1) := by decide +kernel
theorem dX6_putBin_0 : decode cX6_putBin 0 = .ok (.aload_n 0, 1) := by decide +kernel
theorem dX6_putBin_1 : decode cX6_putBin 1 = .ok (.invokevirtual 115, 3) := by decide +kernel
theorem dX6_putBin_4 : decode cX6_putBin 4 = .ok (.ifCond .eq 6, 3) := by decide +kernel
theorem dX6_putBin_7 : decode cX6_putBin 7 = .ok (.ldc 119, 2) := by decide +kernel
theorem dX6_putBin_9 : decode cX6_putBin 9 = .ok (.ireturn, 1) := by decide +kernel
theorem dX6_putBin_10 : decode cX6_putBin 10 = .ok (.aload_n 0, 1) := by decide +kernel
theorem dX6_putBin_11 : decode cX6_putBin 11 = .ok (.getfield 28, 3) := by decide +kernel
theorem dX6_putBin_14 : decode cX6_putBin 14 = .ok (.getfield 120, 3) := by decide +kernel
theorem dX6_putBin_17 : decode cX6_putBin 17 = .ok (.bipush 8, 2) := by decide +kernel
theorem dX6_putBin_19 : decode cX6_putBin 19 = .ok (.if_icmp .lt 6, 3) := by decide +kernel
theorem dX6_putBin_22 : decode cX6_putBin 22 = .ok (.ldc 110, 2) := by decide +kernel
theorem dX6_putBin_24 : decode cX6_putBin 24 = .ok (.ireturn, 1) := by decide +kernel
theorem dX6_putBin_25 : decode cX6_putBin 25 = .ok (.aload_n 0, 1) := by decide +kernel
theorem dX6_putBin_26 : decode cX6_putBin 26 = .ok (.getfield 28, 3) := by decide +kernel
theorem dX6_putBin_29 : decode cX6_putBin 29 = .ok (.dup, 1) := by decide +kernel
theorem dX6_putBin_30 : decode cX6_putBin 30 = .ok (.getfield 120, 3) := by decide +kernel
theorem dX6_putBin_33 : decode cX6_putBin 33 = .ok (.iconst 1, 1) := by decide +kernel
theorem dX6_putBin_34 : decode cX6_putBin 34 = .ok (.iadd, 1) := by decide +kernel
theorem dX6_putBin_35 : decode cX6_putBin 35 = .ok (.putfield 120, 3) := by decide +kernel
theorem dX6_putBin_38 : decode cX6_putBin 38 = .ok (.aload_n 0, 1) := by decide +kernel
theorem dX6_putBin_39 : decode cX6_putBin 39 = .ok (.getfield 28, 3) := by decide +kernel
theorem dX6_putBin_42 : decode cX6_putBin 42 = .ok (.getfield 120, 3) := by decide +kernel
theorem dX6_putBin_45 : decode cX6_putBin 45 = .ok (.iconst 1, 1) := by decide +kernel
theorem dX6_putBin_46 : decode cX6_putBin 46 = .ok (.isub, 1) := by decide +kernel
theorem dX6_putBin_47 : decode cX6_putBin 47 = .ok (.ireturn, 1) := by decide +kernel
theorem dX6_beginBatch_0 : decode cX6_beginBatch 0 = .ok (.iload_n 1, 1) := by decide +kernel
theorem dX6_beginBatch_1 : decode cX6_beginBatch 1 = .ok (.iconst 1, 1) := by decide +kernel
theorem dX6_beginBatch_2 : decode cX6_beginBatch 2 = .ok (.if_icmp .lt 10, 3) := by decide +kernel
theorem dX6_beginBatch_5 : decode cX6_beginBatch 5 = .ok (.iload_n 1, 1) := by decide +kernel
theorem dX6_beginBatch_6 : decode cX6_beginBatch 6 = .ok (.sipush 9999, 3) := by decide +kernel
theorem dX6_beginBatch_9 : decode cX6_beginBatch 9 = .ok (.if_icmp .le 6, 3) := by decide +kernel
theorem dX6_beginBatch_12 : decode cX6_beginBatch 12 = .ok (.ldc 106, 2) := by decide +kernel
theorem dX6_beginBatch_14 : decode cX6_beginBatch 14 = .ok (.ireturn, 1) := by decide +kernel
theorem dX6_beginBatch_15 : decode cX6_beginBatch 15 = .ok (.aload_n 0, 1) := by decide +kernel
theorem dX6_beginBatch_16 : decode cX6_beginBatch 16 = .ok (.invokevirtual 115, 3) := by decide +kernel
theorem dX6_beginBatch_19 : decode cX6_beginBatch 19 = .ok (.ifCond .ne 13, 3) := by decide +kernel
theorem dX6_beginBatch_22 : decode cX6_beginBatch 22 = .ok (.aload_n 0, 1) := by decide +kernel
theorem dX6_beginBatch_23 : decode cX6_beginBatch 23 = .ok (.getfield 28, 3) := by decide +kernel
theorem dX6_beginBatch_26 : decode cX6_beginBatch 26 = .ok (.getfield 120, 3) := by decide +kernel
theorem dX6_beginBatch_29 : decode cX6_beginBatch 29 = .ok (.ifCond .ne 6, 3) := by decide +kernel
theorem dX6_beginBatch_32 : decode cX6_beginBatch 32 = .ok (.ldc 119, 2) := by decide +kernel
theorem dX6_beginBatch_34 : decode cX6_beginBatch 34 = .ok (.ireturn, 1) := by decide +kernel
theorem dX6_beginBatch_35 : decode cX6_beginBatch 35 = .ok (.aload_n 0, 1) := by decide +kernel
theorem dX6_beginBatch_36 : decode cX6_beginBatch 36 = .ok (.iconst 0, 1) := by decide +kernel
theorem dX6_beginBatch_37 : decode cX6_beginBatch 37 = .ok (.putfield 77, 3) := by decide +kernel
theorem dX6_beginBatch_40 : decode cX6_beginBatch 40 = .ok (.aload_n 0, 1) := by decide +kernel
theorem dX6_beginBatch_41 : decode cX6_beginBatch 41 = .ok (.iload_n 1, 1) := by decide +kernel
theorem dX6_beginBatch_42 : decode cX6_beginBatch 42 = .ok (.putfield 80, 3) := by decide +kernel
theorem dX6_beginBatch_45 : decode cX6_beginBatch 45 = .ok (.aload_n 0, 1) := by decide +kernel
theorem dX6_beginBatch_46 : decode cX6_beginBatch 46 = .ok (.iconst 0, 1) := by decide +kernel
theorem dX6_beginBatch_47 : decode cX6_beginBatch 47 = .ok (.putfield 83, 3) := by decide +kernel
theorem dX6_beginBatch_50 : decode cX6_beginBatch 50 = .ok (.aload_n 0, 1) := by decide +kernel
theorem dX6_beginBatch_51 : decode cX6_beginBatch 51 = .ok (.iconst 0, 1) := by decide +kernel
theorem dX6_beginBatch_52 : decode cX6_beginBatch 52 = .ok (.putfield 87, 3) := by decide +kernel
theorem dX6_beginBatch_55 : decode cX6_beginBatch 55 = .ok (.aload_n 0, 1) := by decide +kernel
theorem dX6_beginBatch_56 : decode cX6_beginBatch 56 = .ok (.getfield 21, 3) := by decide +kernel
theorem dX6_beginBatch_59 : decode cX6_beginBatch 59 = .ok (.getfield 123, 3) := by decide +kernel
theorem dX6_beginBatch_62 : decode cX6_beginBatch 62 = .ok (.ireturn, 1) := by decide +kernel
theorem dX6_passTicks_0 : decode cX6_passTicks 0 = .ok (.iload_n 1, 1) := by decide +kernel
theorem dX6_passTicks_1 : decode cX6_passTicks 1 = .ok (.iconst 1, 1) := by decide +kernel
theorem dX6_passTicks_2 : decode cX6_passTicks 2 = .ok (.if_icmp .lt 10, 3) := by decide +kernel
theorem dX6_passTicks_5 : decode cX6_passTicks 5 = .ok (.iload_n 1, 1) := by decide +kernel
theorem dX6_passTicks_6 : decode cX6_passTicks 6 = .ok (.sipush 200, 3) := by decide +kernel
theorem dX6_passTicks_9 : decode cX6_passTicks 9 = .ok (.if_icmp .le 6, 3) := by decide +kernel
theorem dX6_passTicks_12 : decode cX6_passTicks 12 = .ok (.ldc 106, 2) := by decide +kernel
theorem dX6_passTicks_14 : decode cX6_passTicks 14 = .ok (.ireturn, 1) := by decide +kernel
theorem dX6_passTicks_15 : decode cX6_passTicks 15 = .ok (.aload_n 0, 1) := by decide +kernel
theorem dX6_passTicks_16 : decode cX6_passTicks 16 = .ok (.getfield 90, 3) := by decide +kernel
theorem dX6_passTicks_19 : decode cX6_passTicks 19 = .ok (.iload_n 1, 1) := by decide +kernel
theorem dX6_passTicks_20 : decode cX6_passTicks 20 = .ok (.iadd, 1) := by decide +kernel
theorem dX6_passTicks_21 : decode cX6_passTicks 21 = .ok (.sipush 9000, 3) := by decide +kernel
theorem dX6_passTicks_24 : decode cX6_passTicks 24 = .ok (.if_icmp .le 6, 3) := by decide +kernel
theorem dX6_passTicks_27 : decode cX6_passTicks 27 = .ok (.ldc 110, 2) := by decide +kernel
theorem dX6_passTicks_29 : decode cX6_passTicks 29 = .ok (.ireturn, 1) := by decide +kernel
theorem dX6_passTicks_30 : decode cX6_passTicks 30 = .ok (.iconst 0, 1) := by decide +kernel
theorem dX6_passTicks_31 : decode cX6_passTicks 31 = .ok (.istore_n 2, 1) := by decide +kernel
theorem dX6_passTicks_32 : decode cX6_passTicks 32 = .ok (.iconst 0, 1) := by decide +kernel
theorem dX6_passTicks_33 : decode cX6_passTicks 33 = .ok (.istore_n 3, 1) := by decide +kernel
theorem dX6_passTicks_34 : decode cX6_passTicks 34 = .ok (.iload_n 3, 1) := by decide +kernel
theorem dX6_passTicks_35 : decode cX6_passTicks 35 = .ok (.iload_n 1, 1) := by decide +kernel
theorem dX6_passTicks_36 : decode cX6_passTicks 36 = .ok (.if_icmp .ge 16, 3) := by decide +kernel
theorem dX6_passTicks_39 : decode cX6_passTicks 39 = .ok (.iload_n 2, 1) := by decide +kernel
theorem dX6_passTicks_40 : decode cX6_passTicks 40 = .ok (.aload_n 0, 1) := by decide +kernel
theorem dX6_passTicks_41 : decode cX6_passTicks 41 = .ok (.invokevirtual 126, 3) := by decide +kernel
theorem dX6_passTicks_44 : decode cX6_passTicks 44 = .ok (.iadd, 1) := by decide +kernel
theorem dX6_passTicks_45 : decode cX6_passTicks 45 = .ok (.istore_n 2, 1) := by decide +kernel
theorem dX6_passTicks_46 : decode cX6_passTicks 46 = .ok (.iinc 3 1, 3) := by decide +kernel
theorem dX6_passTicks_49 : decode cX6_passTicks 49 = .ok (.goto (-15), 3) := by decide +kernel
theorem dX6_passTicks_52 : decode cX6_passTicks 52 = .ok (.iload_n 2, 1) := by decide +kernel
theorem dX6_passTicks_53 : decode cX6_passTicks 53 = .ok (.ireturn, 1) := by decide +kernel
theorem dX6_passTick_0 : decode cX6_passTick 0 = .ok (.aload_n 0, 1) := by decide +kernel
theorem dX6_passTick_1 : decode cX6_passTick 1 = .ok (.dup, 1) := by decide +kernel
theorem dX6_passTick_2 : decode cX6_passTick 2 = .ok (.getfield 90, 3) := by decide +kernel
theorem dX6_passTick_5 : decode cX6_passTick 5 = .ok (.iconst 1, 1) := by decide +kernel
theorem dX6_passTick_6 : decode cX6_passTick 6 = .ok (.iadd, 1) := by decide +kernel
theorem dX6_passTick_7 : decode cX6_passTick 7 = .ok (.putfield 90, 3) := by decide +kernel
theorem dX6_passTick_10 : decode cX6_passTick 10 = .ok (.aload_n 0, 1) := by decide +kernel
theorem dX6_passTick_11 : decode cX6_passTick 11 = .ok (.getfield 46, 3) := by decide +kernel
theorem dX6_passTick_14 : decode cX6_passTick 14 = .ok (.iconst 1, 1) := by decide +kernel
theorem dX6_passTick_15 : decode cX6_passTick 15 = .ok (.iaload, 1) := by decide +kernel
theorem dX6_passTick_16 : decode cX6_passTick 16 = .ok (.istore_n 1, 1) := by decide +kernel
theorem dX6_passTick_17 : decode cX6_passTick 17 = .ok (.iload_n 1, 1) := by decide +kernel
theorem dX6_passTick_18 : decode cX6_passTick 18 = .ok (.ifCond .le 30, 3) := by decide +kernel
theorem dX6_passTick_21 : decode cX6_passTick 21 = .ok (.aload_n 0, 1) := by decide +kernel
theorem dX6_passTick_22 : decode cX6_passTick 22 = .ok (.getfield 90, 3) := by decide +kernel
theorem dX6_passTick_25 : decode cX6_passTick 25 = .ok (.iload_n 1, 1) := by decide +kernel
theorem dX6_passTick_26 : decode cX6_passTick 26 = .ok (.irem, 1) := by decide +kernel
theorem dX6_passTick_27 : decode cX6_passTick 27 = .ok (.ifCond .ne 21, 3) := by decide +kernel
theorem dX6_passTick_30 : decode cX6_passTick 30 = .ok (.aload_n 0, 1) := by decide +kernel
theorem dX6_passTick_31 : decode cX6_passTick 31 = .ok (.getfield 35, 3) := by decide +kernel
theorem dX6_passTick_34 : decode cX6_passTick 34 = .ok (.dup, 1) := by decide +kernel
theorem dX6_passTick_35 : decode cX6_passTick 35 = .ok (.getfield 130, 3) := by decide +kernel
theorem dX6_passTick_38 : decode cX6_passTick 38 = .ok (.aload_n 0, 1) := by decide +kernel
theorem dX6_passTick_39 : decode cX6_passTick 39 = .ok (.getfield 46, 3) := by decide +kernel
theorem dX6_passTick_42 : decode cX6_passTick 42 = .ok (.iconst 2, 1) := by decide +kernel
theorem dX6_passTick_43 : decode cX6_passTick 43 = .ok (.iaload, 1) := by decide +kernel
theorem dX6_passTick_44 : decode cX6_passTick 44 = .ok (.iadd, 1) := by decide +kernel
theorem dX6_passTick_45 : decode cX6_passTick 45 = .ok (.putfield 130, 3) := by decide +kernel
theorem dX6_passTick_48 : decode cX6_passTick 48 = .ok (.aload_n 0, 1) := by decide +kernel
theorem dX6_passTick_49 : decode cX6_passTick 49 = .ok (.invokevirtual 115, 3) := by decide +kernel
theorem dX6_passTick_52 : decode cX6_passTick 52 = .ok (.ifCond .eq 15, 3) := by decide +kernel
theorem dX6_passTick_55 : decode cX6_passTick 55 = .ok (.aload_n 0, 1) := by decide +kernel
theorem dX6_passTick_56 : decode cX6_passTick 56 = .ok (.invokevirtual 133, 3) := by decide +kernel
theorem dX6_passTick_59 : decode cX6_passTick 59 = .ok (.ifCond .ne 8, 3) := by decide +kernel
theorem dX6_passTick_62 : decode cX6_passTick 62 = .ok (.aload_n 0, 1) := by decide +kernel
theorem dX6_passTick_63 : decode cX6_passTick 63 = .ok (.iconst 1, 1) := by decide +kernel
theorem dX6_passTick_64 : decode cX6_passTick 64 = .ok (.putfield 83, 3) := by decide +kernel
theorem dX6_passTick_67 : decode cX6_passTick 67 = .ok (.aload_n 0, 1) := by decide +kernel
theorem dX6_passTick_68 : decode cX6_passTick 68 = .ok (.invokevirtual 115, 3) := by decide +kernel
theorem dX6_passTick_71 : decode cX6_passTick 71 = .ok (.ifCond .ne 22, 3) := by decide +kernel
theorem dX6_passTick_74 : decode cX6_passTick 74 = .ok (.aload_n 0, 1) := by decide +kernel
theorem dX6_passTick_75 : decode cX6_passTick 75 = .ok (.getfield 77, 3) := by decide +kernel
theorem dX6_passTick_78 : decode cX6_passTick 78 = .ok (.ifCond .ne 15, 3) := by decide +kernel
theorem dX6_passTick_81 : decode cX6_passTick 81 = .ok (.aload_n 0, 1) := by decide +kernel
theorem dX6_passTick_82 : decode cX6_passTick 82 = .ok (.dup, 1) := by decide +kernel
theorem dX6_passTick_83 : decode cX6_passTick 83 = .ok (.getfield 93, 3) := by decide +kernel
theorem dX6_passTick_86 : decode cX6_passTick 86 = .ok (.iconst 1, 1) := by decide +kernel
theorem dX6_passTick_87 : decode cX6_passTick 87 = .ok (.iadd, 1) := by decide +kernel
theorem dX6_passTick_88 : decode cX6_passTick 88 = .ok (.putfield 93, 3) := by decide +kernel
theorem dX6_passTick_91 : decode cX6_passTick 91 = .ok (.iconst 0, 1) := by decide +kernel
theorem dX6_passTick_92 : decode cX6_passTick 92 = .ok (.ireturn, 1) := by decide +kernel
theorem dX6_passTick_93 : decode cX6_passTick 93 = .ok (.aload_n 0, 1) := by decide +kernel
theorem dX6_passTick_94 : decode cX6_passTick 94 = .ok (.iconst 0, 1) := by decide +kernel
theorem dX6_passTick_95 : decode cX6_passTick 95 = .ok (.putfield 93, 3) := by decide +kernel
theorem dX6_passTick_98 : decode cX6_passTick 98 = .ok (.aload_n 0, 1) := by decide +kernel
theorem dX6_passTick_99 : decode cX6_passTick 99 = .ok (.invokevirtual 136, 3) := by decide +kernel
theorem dX6_passTick_102 : decode cX6_passTick 102 = .ok (.istore_n 2, 1) := by decide +kernel
theorem dX6_passTick_103 : decode cX6_passTick 103 = .ok (.aload_n 0, 1) := by decide +kernel
theorem dX6_passTick_104 : decode cX6_passTick 104 = .ok (.getfield 21, 3) := by decide +kernel
theorem dX6_passTick_107 : decode cX6_passTick 107 = .ok (.invokevirtual 139, 3) := by decide +kernel
theorem dX6_passTick_110 : decode cX6_passTick 110 = .ok (.aload_n 0, 1) := by decide +kernel
theorem dX6_passTick_111 : decode cX6_passTick 111 = .ok (.getfield 83, 3) := by decide +kernel
theorem dX6_passTick_114 : decode cX6_passTick 114 = .ok (.ifCond .ne 11, 3) := by decide +kernel
theorem dX6_passTick_117 : decode cX6_passTick 117 = .ok (.aload_n 0, 1) := by decide +kernel
theorem dX6_passTick_118 : decode cX6_passTick 118 = .ok (.invokevirtual 142, 3) := by decide +kernel
theorem dX6_passTick_121 : decode cX6_passTick 121 = .ok (.aload_n 0, 1) := by decide +kernel
theorem dX6_passTick_122 : decode cX6_passTick 122 = .ok (.invokevirtual 145, 3) := by decide +kernel
theorem dX6_passTick_125 : decode cX6_passTick 125 = .ok (.aload_n 0, 1) := by decide +kernel
theorem dX6_passTick_126 : decode cX6_passTick 126 = .ok (.getfield 28, 3) := by decide +kernel
theorem dX6_passTick_129 : decode cX6_passTick 129 = .ok (.aload_n 0, 1) := by decide +kernel
theorem dX6_passTick_130 : decode cX6_passTick 130 = .ok (.getfield 35, 3) := by decide +kernel
theorem dX6_passTick_133 : decode cX6_passTick 133 = .ok (.aload_n 0, 1) := by decide +kernel
theorem dX6_passTick_134 : decode cX6_passTick 134 = .ok (.getfield 21, 3) := by decide +kernel
theorem dX6_passTick_137 : decode cX6_passTick 137 = .ok (.invokevirtual 148, 3) := by decide +kernel
theorem dX6_passTick_140 : decode cX6_passTick 140 = .ok (.invokevirtual 151, 3) := by decide +kernel
theorem dX6_passTick_143 : decode cX6_passTick 143 = .ok (.invokevirtual 155, 3) := by decide +kernel
theorem dX6_passTick_146 : decode cX6_passTick 146 = .ok (.aload_n 0, 1) := by decide +kernel
theorem dX6_passTick_147 : decode cX6_passTick 147 = .ok (.getfield 83, 3) := by decide +kernel
theorem dX6_passTick_150 : decode cX6_passTick 150 = .ok (.ifCond .eq 17, 3) := by decide +kernel
theorem dX6_passTick_153 : decode cX6_passTick 153 = .ok (.aload_n 0, 1) := by decide +kernel
theorem dX6_passTick_154 : decode cX6_passTick 154 = .ok (.getfield 21, 3) := by decide +kernel
theorem dX6_passTick_157 : decode cX6_passTick 157 = .ok (.getfield 123, 3) := by decide +kernel
theorem dX6_passTick_160 : decode cX6_passTick 160 = .ok (.ifCond .ne 7, 3) := by decide +kernel
theorem dX6_passTick_163 : decode cX6_passTick 163 = .ok (.aload_n 0, 1) := by decide +kernel
theorem dX6_passTick_164 : decode cX6_passTick 164 = .ok (.invokevirtual 159, 3) := by decide +kernel
theorem dX6_passTick_167 : decode cX6_passTick 167 = .ok (.iload_n 2, 1) := by decide +kernel
theorem dX6_passTick_168 : decode cX6_passTick 168 = .ok (.ireturn, 1) := by decide +kernel
theorem dX6_wantsMore_0 : decode cX6_wantsMore 0 = .ok (.aload_n 0, 1) := by decide +kernel
theorem dX6_wantsMore_1 : decode cX6_wantsMore 1 = .ok (.getfield 21, 3) := by decide +kernel
theorem dX6_wantsMore_4 : decode cX6_wantsMore 4 = .ok (.getfield 123, 3) := by decide +kernel
theorem dX6_wantsMore_7 : decode cX6_wantsMore 7 = .ok (.aload_n 0, 1) := by decide +kernel
theorem dX6_wantsMore_8 : decode cX6_wantsMore 8 = .ok (.getfield 87, 3) := by decide +kernel
theorem dX6_wantsMore_11 : decode cX6_wantsMore 11 = .ok (.iadd, 1) := by decide +kernel
theorem dX6_wantsMore_12 : decode cX6_wantsMore 12 = .ok (.aload_n 0, 1) := by decide +kernel
theorem dX6_wantsMore_13 : decode cX6_wantsMore 13 = .ok (.getfield 80, 3) := by decide +kernel
theorem dX6_wantsMore_16 : decode cX6_wantsMore 16 = .ok (.if_icmp .ge 17, 3) := by decide +kernel
theorem dX6_wantsMore_19 : decode cX6_wantsMore 19 = .ok (.aload_n 0, 1) := by decide +kernel
theorem dX6_wantsMore_20 : decode cX6_wantsMore 20 = .ok (.getfield 12, 3) := by decide +kernel
theorem dX6_wantsMore_23 : decode cX6_wantsMore 23 = .ok (.getfield 107, 3) := by decide +kernel
theorem dX6_wantsMore_26 : decode cX6_wantsMore 26 = .ok (.ifCond .le 7, 3) := by decide +kernel
theorem dX6_wantsMore_29 : decode cX6_wantsMore 29 = .ok (.iconst 1, 1) := by decide +kernel
theorem dX6_wantsMore_30 : decode cX6_wantsMore 30 = .ok (.goto 4, 3) := by decide +kernel
theorem dX6_wantsMore_33 : decode cX6_wantsMore 33 = .ok (.iconst 0, 1) := by decide +kernel
theorem dX6_wantsMore_34 : decode cX6_wantsMore 34 = .ok (.ireturn, 1) := by decide +kernel
theorem dX6_dropAtEnd_0 : decode cX6_dropAtEnd 0 = .ok (.iconst 0, 1) := by decide +kernel
theorem dX6_dropAtEnd_1 : decode cX6_dropAtEnd 1 = .ok (.istore_n 1, 1) := by decide +kernel
theorem dX6_dropAtEnd_2 : decode cX6_dropAtEnd 2 = .ok (.iconst 0, 1) := by decide +kernel
theorem dX6_dropAtEnd_3 : decode cX6_dropAtEnd 3 = .ok (.istore_n 2, 1) := by decide +kernel
theorem dX6_dropAtEnd_4 : decode cX6_dropAtEnd 4 = .ok (.iload_n 2, 1) := by decide +kernel
theorem dX6_dropAtEnd_5 : decode cX6_dropAtEnd 5 = .ok (.iconst 4, 1) := by decide +kernel
theorem dX6_dropAtEnd_6 : decode cX6_dropAtEnd 6 = .ok (.if_icmp .ge 76, 3) := by decide +kernel
theorem dX6_dropAtEnd_9 : decode cX6_dropAtEnd 9 = .ok (.aload_n 0, 1) := by decide +kernel
theorem dX6_dropAtEnd_10 : decode cX6_dropAtEnd 10 = .ok (.getfield 21, 3) := by decide +kernel
theorem dX6_dropAtEnd_13 : decode cX6_dropAtEnd 13 = .ok (.bipush 11, 2) := by decide +kernel
theorem dX6_dropAtEnd_15 : decode cX6_dropAtEnd 15 = .ok (.iload_n 2, 1) := by decide +kernel
theorem dX6_dropAtEnd_16 : decode cX6_dropAtEnd 16 = .ok (.invokevirtual 162, 3) := by decide +kernel
theorem dX6_dropAtEnd_19 : decode cX6_dropAtEnd 19 = .ok (.istore_n 3, 1) := by decide +kernel
theorem dX6_dropAtEnd_20 : decode cX6_dropAtEnd 20 = .ok (.aload_n 0, 1) := by decide +kernel
theorem dX6_dropAtEnd_21 : decode cX6_dropAtEnd 21 = .ok (.getfield 21, 3) := by decide +kernel
theorem dX6_dropAtEnd_24 : decode cX6_dropAtEnd 24 = .ok (.bipush 11, 2) := by decide +kernel
theorem dX6_dropAtEnd_26 : decode cX6_dropAtEnd 26 = .ok (.iload_n 2, 1) := by decide +kernel
theorem dX6_dropAtEnd_27 : decode cX6_dropAtEnd 27 = .ok (.iload_n 3, 1) := by decide +kernel
theorem dX6_dropAtEnd_28 : decode cX6_dropAtEnd 28 = .ok (.invokevirtual 166, 3) := by decide +kernel
theorem dX6_dropAtEnd_31 : decode cX6_dropAtEnd 31 = .ok (.iload_n 1, 1) := by decide +kernel
theorem dX6_dropAtEnd_32 : decode cX6_dropAtEnd 32 = .ok (.iload_n 3, 1) := by decide +kernel
theorem dX6_dropAtEnd_33 : decode cX6_dropAtEnd 33 = .ok (.iadd, 1) := by decide +kernel
theorem dX6_dropAtEnd_34 : decode cX6_dropAtEnd 34 = .ok (.istore_n 1, 1) := by decide +kernel
theorem dX6_dropAtEnd_35 : decode cX6_dropAtEnd 35 = .ok (.aload_n 0, 1) := by decide +kernel
theorem dX6_dropAtEnd_36 : decode cX6_dropAtEnd 36 = .ok (.getfield 28, 3) := by decide +kernel
theorem dX6_dropAtEnd_39 : decode cX6_dropAtEnd 39 = .ok (.getfield 120, 3) := by decide +kernel
theorem dX6_dropAtEnd_42 : decode cX6_dropAtEnd 42 = .ok (.ifCond .le 24, 3) := by decide +kernel
theorem dX6_dropAtEnd_45 : decode cX6_dropAtEnd 45 = .ok (.aload_n 0, 1) := by decide +kernel
theorem dX6_dropAtEnd_46 : decode cX6_dropAtEnd 46 = .ok (.getfield 28, 3) := by decide +kernel
theorem dX6_dropAtEnd_49 : decode cX6_dropAtEnd 49 = .ok (.iload_n 2, 1) := by decide +kernel
theorem dX6_dropAtEnd_50 : decode cX6_dropAtEnd 50 = .ok (.iload_n 3, 1) := by decide +kernel
theorem dX6_dropAtEnd_51 : decode cX6_dropAtEnd 51 = .ok (.invokevirtual 170, 3) := by decide +kernel
theorem dX6_dropAtEnd_54 : decode cX6_dropAtEnd 54 = .ok (.aload_n 0, 1) := by decide +kernel
theorem dX6_dropAtEnd_55 : decode cX6_dropAtEnd 55 = .ok (.getfield 42, 3) := by decide +kernel
theorem dX6_dropAtEnd_58 : decode cX6_dropAtEnd 58 = .ok (.iload_n 2, 1) := by decide +kernel
theorem dX6_dropAtEnd_59 : decode cX6_dropAtEnd 59 = .ok (.iload_n 3, 1) := by decide +kernel
theorem dX6_dropAtEnd_60 : decode cX6_dropAtEnd 60 = .ok (.invokevirtual 173, 3) := by decide +kernel
theorem dX6_dropAtEnd_63 : decode cX6_dropAtEnd 63 = .ok (.goto 13, 3) := by decide +kernel
theorem dX6_dropAtEnd_66 : decode cX6_dropAtEnd 66 = .ok (.aload_n 0, 1) := by decide +kernel
theorem dX6_dropAtEnd_67 : decode cX6_dropAtEnd 67 = .ok (.dup, 1) := by decide +kernel
theorem dX6_dropAtEnd_68 : decode cX6_dropAtEnd 68 = .ok (.getfield 96, 3) := by decide +kernel
theorem dX6_dropAtEnd_71 : decode cX6_dropAtEnd 71 = .ok (.iload_n 3, 1) := by decide +kernel
theorem dX6_dropAtEnd_72 : decode cX6_dropAtEnd 72 = .ok (.iadd, 1) := by decide +kernel
theorem dX6_dropAtEnd_73 : decode cX6_dropAtEnd 73 = .ok (.putfield 96, 3) := by decide +kernel
theorem dX6_dropAtEnd_76 : decode cX6_dropAtEnd 76 = .ok (.iinc 2 1, 3) := by decide +kernel
theorem dX6_dropAtEnd_79 : decode cX6_dropAtEnd 79 = .ok (.goto (-75), 3) := by decide +kernel
theorem dX6_dropAtEnd_82 : decode cX6_dropAtEnd 82 = .ok (.iload_n 1, 1) := by decide +kernel
theorem dX6_dropAtEnd_83 : decode cX6_dropAtEnd 83 = .ok (.ifCond .le 10, 3) := by decide +kernel
theorem dX6_dropAtEnd_86 : decode cX6_dropAtEnd 86 = .ok (.aload_n 0, 1) := by decide +kernel
theorem dX6_dropAtEnd_87 : decode cX6_dropAtEnd 87 = .ok (.getfield 28, 3) := by decide +kernel
theorem dX6_dropAtEnd_90 : decode cX6_dropAtEnd 90 = .ok (.invokevirtual 176, 3) := by decide +kernel
theorem dX6_dropAtEnd_93 : decode cX6_dropAtEnd 93 = .ok (.aload_n 0, 1) := by decide +kernel
theorem dX6_dropAtEnd_94 : decode cX6_dropAtEnd 94 = .ok (.dup, 1) := by decide +kernel
theorem dX6_dropAtEnd_95 : decode cX6_dropAtEnd 95 = .ok (.getfield 87, 3) := by decide +kernel
theorem dX6_dropAtEnd_98 : decode cX6_dropAtEnd 98 = .ok (.iload_n 1, 1) := by decide +kernel
theorem dX6_dropAtEnd_99 : decode cX6_dropAtEnd 99 = .ok (.iadd, 1) := by decide +kernel
theorem dX6_dropAtEnd_100 : decode cX6_dropAtEnd 100 = .ok (.putfield 87, 3) := by decide +kernel
theorem dX6_dropAtEnd_103 : decode cX6_dropAtEnd 103 = .ok (.aload_n 0, 1) := by decide +kernel
theorem dX6_dropAtEnd_104 : decode cX6_dropAtEnd 104 = .ok (.dup, 1) := by decide +kernel
theorem dX6_dropAtEnd_105 : decode cX6_dropAtEnd 105 = .ok (.getfield 99, 3) := by decide +kernel
theorem dX6_dropAtEnd_108 : decode cX6_dropAtEnd 108 = .ok (.iload_n 1, 1) := by decide +kernel
theorem dX6_dropAtEnd_109 : decode cX6_dropAtEnd 109 = .ok (.iadd, 1) := by decide +kernel
theorem dX6_dropAtEnd_110 : decode cX6_dropAtEnd 110 = .ok (.putfield 99, 3) := by decide +kernel
theorem dX6_dropAtEnd_113 : decode cX6_dropAtEnd 113 = .ok (.iload_n 1, 1) := by decide +kernel
theorem dX6_dropAtEnd_114 : decode cX6_dropAtEnd 114 = .ok (.ireturn, 1) := by decide +kernel
theorem dX6_feed_0 : decode cX6_feed 0 = .ok (.aload_n 0, 1) := by decide +kernel
theorem dX6_feed_1 : decode cX6_feed 1 = .ok (.getfield 50, 3) := by decide +kernel
theorem dX6_feed_4 : decode cX6_feed 4 = .ok (.istore_n 1, 1) := by decide +kernel
theorem dX6_feed_5 : decode cX6_feed 5 = .ok (.iconst 0, 1) := by decide +kernel
theorem dX6_feed_6 : decode cX6_feed 6 = .ok (.istore_n 2, 1) := by decide +kernel
theorem dX6_feed_7 : decode cX6_feed 7 = .ok (.iload_n 2, 1) := by decide +kernel
theorem dX6_feed_8 : decode cX6_feed 8 = .ok (.bipush 6, 2) := by decide +kernel
theorem dX6_feed_10 : decode cX6_feed 10 = .ok (.if_icmp .ge 66, 3) := by decide +kernel
theorem dX6_feed_13 : decode cX6_feed 13 = .ok (.iload_n 1, 1) := by decide +kernel
theorem dX6_feed_14 : decode cX6_feed 14 = .ok (.ifCond .le 62, 3) := by decide +kernel
theorem dX6_feed_17 : decode cX6_feed 17 = .ok (.aload_n 0, 1) := by decide +kernel
theorem dX6_feed_18 : decode cX6_feed 18 = .ok (.getfield 12, 3) := by decide +kernel
theorem dX6_feed_21 : decode cX6_feed 21 = .ok (.getfield 107, 3) := by decide +kernel
theorem dX6_feed_24 : decode cX6_feed 24 = .ok (.ifCond .le 52, 3) := by decide +kernel
theorem dX6_feed_27 : decode cX6_feed 27 = .ok (.iload_n 1, 1) := by decide +kernel
theorem dX6_feed_28 : decode cX6_feed 28 = .ok (.aload_n 0, 1) := by decide +kernel
theorem dX6_feed_29 : decode cX6_feed 29 = .ok (.getfield 12, 3) := by decide +kernel
theorem dX6_feed_32 : decode cX6_feed 32 = .ok (.getfield 179, 3) := by decide +kernel
theorem dX6_feed_35 : decode cX6_feed 35 = .ok (.iconst 0, 1) := by decide +kernel
theorem dX6_feed_36 : decode cX6_feed 36 = .ok (.iaload, 1) := by decide +kernel
theorem dX6_feed_37 : decode cX6_feed 37 = .ok (.invokestatic 182, 3) := by decide +kernel
theorem dX6_feed_40 : decode cX6_feed 40 = .ok (.istore_n 3, 1) := by decide +kernel
theorem dX6_feed_41 : decode cX6_feed 41 = .ok (.aload_n 0, 1) := by decide +kernel
theorem dX6_feed_42 : decode cX6_feed 42 = .ok (.getfield 21, 3) := by decide +kernel
theorem dX6_feed_45 : decode cX6_feed 45 = .ok (.aload_n 0, 1) := by decide +kernel
theorem dX6_feed_46 : decode cX6_feed 46 = .ok (.getfield 12, 3) := by decide +kernel
theorem dX6_feed_49 : decode cX6_feed 49 = .ok (.getfield 187, 3) := by decide +kernel
theorem dX6_feed_52 : decode cX6_feed 52 = .ok (.iconst 0, 1) := by decide +kernel
theorem dX6_feed_53 : decode cX6_feed 53 = .ok (.iaload, 1) := by decide +kernel
theorem dX6_feed_54 : decode cX6_feed 54 = .ok (.iload_n 3, 1) := by decide +kernel
theorem dX6_feed_55 : decode cX6_feed 55 = .ok (.invokevirtual 190, 3) := by decide +kernel
theorem dX6_feed_58 : decode cX6_feed 58 = .ok (.aload_n 0, 1) := by decide +kernel
theorem dX6_feed_59 : decode cX6_feed 59 = .ok (.getfield 12, 3) := by decide +kernel
theorem dX6_feed_62 : decode cX6_feed 62 = .ok (.iload_n 3, 1) := by decide +kernel
theorem dX6_feed_63 : decode cX6_feed 63 = .ok (.invokevirtual 193, 3) := by decide +kernel
theorem dX6_feed_66 : decode cX6_feed 66 = .ok (.iload_n 1, 1) := by decide +kernel
theorem dX6_feed_67 : decode cX6_feed 67 = .ok (.iload_n 3, 1) := by decide +kernel
theorem dX6_feed_68 : decode cX6_feed 68 = .ok (.isub, 1) := by decide +kernel
theorem dX6_feed_69 : decode cX6_feed 69 = .ok (.istore_n 1, 1) := by decide +kernel
theorem dX6_feed_70 : decode cX6_feed 70 = .ok (.iinc 2 1, 3) := by decide +kernel
theorem dX6_feed_73 : decode cX6_feed 73 = .ok (.goto (-66), 3) := by decide +kernel
theorem dX6_feed_76 : decode cX6_feed 76 = .ok (.return_, 1) := by decide +kernel
theorem dX6_spillTooMuch_0 : decode cX6_spillTooMuch 0 = .ok (.aload_n 0, 1) := by decide +kernel
theorem dX6_spillTooMuch_1 : decode cX6_spillTooMuch 1 = .ok (.getfield 21, 3) := by decide +kernel
theorem dX6_spillTooMuch_4 : decode cX6_spillTooMuch 4 = .ok (.iconst 0, 1) := by decide +kernel
theorem dX6_spillTooMuch_5 : decode cX6_spillTooMuch 5 = .ok (.invokevirtual 196, 3) := by decide +kernel
theorem dX6_spillTooMuch_8 : decode cX6_spillTooMuch 8 = .ok (.aload_n 0, 1) := by decide +kernel
theorem dX6_spillTooMuch_9 : decode cX6_spillTooMuch 9 = .ok (.getfield 46, 3) := by decide +kernel
theorem dX6_spillTooMuch_12 : decode cX6_spillTooMuch 12 = .ok (.iconst 0, 1) := by decide +kernel
theorem dX6_spillTooMuch_13 : decode cX6_spillTooMuch 13 = .ok (.iaload, 1) := by decide +kernel
theorem dX6_spillTooMuch_14 : decode cX6_spillTooMuch 14 = .ok (.isub, 1) := by decide +kernel
theorem dX6_spillTooMuch_15 : decode cX6_spillTooMuch 15 = .ok (.istore_n 1, 1) := by decide +kernel
theorem dX6_spillTooMuch_16 : decode cX6_spillTooMuch 16 = .ok (.iconst 3, 1) := by decide +kernel
theorem dX6_spillTooMuch_17 : decode cX6_spillTooMuch 17 = .ok (.istore_n 2, 1) := by decide +kernel
theorem dX6_spillTooMuch_18 : decode cX6_spillTooMuch 18 = .ok (.iload_n 2, 1) := by decide +kernel
theorem dX6_spillTooMuch_19 : decode cX6_spillTooMuch 19 = .ok (.ifCond .lt 51, 3) := by decide +kernel
theorem dX6_spillTooMuch_22 : decode cX6_spillTooMuch 22 = .ok (.iload_n 1, 1) := by decide +kernel
theorem dX6_spillTooMuch_23 : decode cX6_spillTooMuch 23 = .ok (.ifCond .le 47, 3) := by decide +kernel
theorem dX6_spillTooMuch_26 : decode cX6_spillTooMuch 26 = .ok (.iload_n 1, 1) := by decide +kernel
theorem dX6_spillTooMuch_27 : decode cX6_spillTooMuch 27 = .ok (.aload_n 0, 1) := by decide +kernel
theorem dX6_spillTooMuch_28 : decode cX6_spillTooMuch 28 = .ok (.getfield 21, 3) := by decide +kernel
theorem dX6_spillTooMuch_31 : decode cX6_spillTooMuch 31 = .ok (.iconst 0, 1) := by decide +kernel
theorem dX6_spillTooMuch_32 : decode cX6_spillTooMuch 32 = .ok (.iload_n 2, 1) := by decide +kernel
theorem dX6_spillTooMuch_33 : decode cX6_spillTooMuch 33 = .ok (.invokevirtual 162, 3) := by decide +kernel
theorem dX6_spillTooMuch_36 : decode cX6_spillTooMuch 36 = .ok (.invokestatic 182, 3) := by decide +kernel
theorem dX6_spillTooMuch_39 : decode cX6_spillTooMuch 39 = .ok (.istore_n 3, 1) := by decide +kernel
theorem dX6_spillTooMuch_40 : decode cX6_spillTooMuch 40 = .ok (.aload_n 0, 1) := by decide +kernel
theorem dX6_spillTooMuch_41 : decode cX6_spillTooMuch 41 = .ok (.getfield 21, 3) := by decide +kernel
theorem dX6_spillTooMuch_44 : decode cX6_spillTooMuch 44 = .ok (.iconst 0, 1) := by decide +kernel
theorem dX6_spillTooMuch_45 : decode cX6_spillTooMuch 45 = .ok (.iload_n 2, 1) := by decide +kernel
theorem dX6_spillTooMuch_46 : decode cX6_spillTooMuch 46 = .ok (.iload_n 3, 1) := by decide +kernel
theorem dX6_spillTooMuch_47 : decode cX6_spillTooMuch 47 = .ok (.invokevirtual 166, 3) := by decide +kernel
theorem dX6_spillTooMuch_50 : decode cX6_spillTooMuch 50 = .ok (.aload_n 0, 1) := by decide +kernel
theorem dX6_spillTooMuch_51 : decode cX6_spillTooMuch 51 = .ok (.dup, 1) := by decide +kernel
theorem dX6_spillTooMuch_52 : decode cX6_spillTooMuch 52 = .ok (.getfield 96, 3) := by decide +kernel
theorem dX6_spillTooMuch_55 : decode cX6_spillTooMuch 55 = .ok (.iload_n 3, 1) := by decide +kernel
theorem dX6_spillTooMuch_56 : decode cX6_spillTooMuch 56 = .ok (.iadd, 1) := by decide +kernel
theorem dX6_spillTooMuch_57 : decode cX6_spillTooMuch 57 = .ok (.putfield 96, 3) := by decide +kernel
theorem dX6_spillTooMuch_60 : decode cX6_spillTooMuch 60 = .ok (.iload_n 1, 1) := by decide +kernel
theorem dX6_spillTooMuch_61 : decode cX6_spillTooMuch 61 = .ok (.iload_n 3, 1) := by decide +kernel
theorem dX6_spillTooMuch_62 : decode cX6_spillTooMuch 62 = .ok (.isub, 1) := by decide +kernel
theorem dX6_spillTooMuch_63 : decode cX6_spillTooMuch 63 = .ok (.istore_n 1, 1) := by decide +kernel
theorem dX6_spillTooMuch_64 : decode cX6_spillTooMuch 64 = .ok (.iinc 2 (-1), 3) := by decide +kernel
theorem dX6_spillTooMuch_67 : decode cX6_spillTooMuch 67 = .ok (.goto (-49), 3) := by decide +kernel
theorem dX6_spillTooMuch_70 : decode cX6_spillTooMuch 70 = .ok (.return_, 1) := by decide +kernel
theorem dX6_endBatch_0 : decode cX6_endBatch 0 = .ok (.aload_n 0, 1) := by decide +kernel
theorem dX6_endBatch_1 : decode cX6_endBatch 1 = .ok (.iconst 0, 1) := by decide +kernel
theorem dX6_endBatch_2 : decode cX6_endBatch 2 = .ok (.putfield 80, 3) := by decide +kernel
theorem dX6_endBatch_5 : decode cX6_endBatch 5 = .ok (.aload_n 0, 1) := by decide +kernel
theorem dX6_endBatch_6 : decode cX6_endBatch 6 = .ok (.iconst 0, 1) := by decide +kernel
theorem dX6_endBatch_7 : decode cX6_endBatch 7 = .ok (.putfield 83, 3) := by decide +kernel
theorem dX6_endBatch_10 : decode cX6_endBatch 10 = .ok (.return_, 1) := by decide +kernel
theorem dX6_setZero_0 : decode cX6_setZero 0 = .ok (.aload_n 0, 1) := by decide +kernel
theorem dX6_setZero_1 : decode cX6_setZero 1 = .ok (.getfield 21, 3) := by decide +kernel
theorem dX6_setZero_4 : decode cX6_setZero 4 = .ok (.invokevirtual 148, 3) := by decide +kernel
theorem dX6_setZero_7 : decode cX6_setZero 7 = .ok (.istore_n 1, 1) := by decide +kernel
theorem dX6_setZero_8 : decode cX6_setZero 8 = .ok (.aload_n 0, 1) := by decide +kernel
theorem dX6_setZero_9 : decode cX6_setZero 9 = .ok (.getfield 93, 3) := by decide +kernel
theorem dX6_setZero_12 : decode cX6_setZero 12 = .ok (.iconst 4, 1) := by decide +kernel
theorem dX6_setZero_13 : decode cX6_setZero 13 = .ok (.if_icmp .ge 10, 3) := by decide +kernel
theorem dX6_setZero_16 : decode cX6_setZero 16 = .ok (.iload_n 1, 1) := by decide +kernel
theorem dX6_setZero_17 : decode cX6_setZero 17 = .ok (.ifCond .le 6, 3) := by decide +kernel
theorem dX6_setZero_20 : decode cX6_setZero 20 = .ok (.ldc 119, 2) := by decide +kernel
theorem dX6_setZero_22 : decode cX6_setZero 22 = .ok (.ireturn, 1) := by decide +kernel
theorem dX6_setZero_23 : decode cX6_setZero 23 = .ok (.aload_n 0, 1) := by decide +kernel
theorem dX6_setZero_24 : decode cX6_setZero 24 = .ok (.getfield 35, 3) := by decide +kernel
theorem dX6_setZero_27 : decode cX6_setZero 27 = .ok (.getfield 199, 3) := by decide +kernel
theorem dX6_setZero_30 : decode cX6_setZero 30 = .ok (.istore_n 2, 1) := by decide +kernel
theorem dX6_setZero_31 : decode cX6_setZero 31 = .ok (.aload_n 0, 1) := by decide +kernel
theorem dX6_setZero_32 : decode cX6_setZero 32 = .ok (.getfield 35, 3) := by decide +kernel
theorem dX6_setZero_35 : decode cX6_setZero 35 = .ok (.iload_n 1, 1) := by decide +kernel
theorem dX6_setZero_36 : decode cX6_setZero 36 = .ok (.aload_n 0, 1) := by decide +kernel
theorem dX6_setZero_37 : decode cX6_setZero 37 = .ok (.getfield 35, 3) := by decide +kernel
theorem dX6_setZero_40 : decode cX6_setZero 40 = .ok (.getfield 130, 3) := by decide +kernel
theorem dX6_setZero_43 : decode cX6_setZero 43 = .ok (.iadd, 1) := by decide +kernel
theorem dX6_setZero_44 : decode cX6_setZero 44 = .ok (.putfield 199, 3) := by decide +kernel
theorem dX6_setZero_47 : decode cX6_setZero 47 = .ok (.iload_n 2, 1) := by decide +kernel
theorem dX6_setZero_48 : decode cX6_setZero 48 = .ok (.ldc 202, 2) := by decide +kernel
theorem dX6_setZero_50 : decode cX6_setZero 50 = .ok (.iadd, 1) := by decide +kernel
theorem dX6_setZero_51 : decode cX6_setZero 51 = .ok (.ireturn, 1) := by decide +kernel
theorem dX6_correctBy_0 : decode cX6_correctBy 0 = .ok (.aload_n 0, 1) := by decide +kernel
theorem dX6_correctBy_1 : decode cX6_correctBy 1 = .ok (.getfield 28, 3) := by decide +kernel
theorem dX6_correctBy_4 : decode cX6_correctBy 4 = .ok (.iload_n 1, 1) := by decide +kernel
theorem dX6_correctBy_5 : decode cX6_correctBy 5 = .ok (.invokevirtual 203, 3) := by decide +kernel
theorem dX6_correctBy_8 : decode cX6_correctBy 8 = .ok (.ifCond .ne 6, 3) := by decide +kernel
theorem dX6_correctBy_11 : decode cX6_correctBy 11 = .ok (.ldc 106, 2) := by decide +kernel
theorem dX6_correctBy_13 : decode cX6_correctBy 13 = .ok (.ireturn, 1) := by decide +kernel
theorem dX6_correctBy_14 : decode cX6_correctBy 14 = .ok (.aload_n 0, 1) := by decide +kernel
theorem dX6_correctBy_15 : decode cX6_correctBy 15 = .ok (.getfield 28, 3) := by decide +kernel
theorem dX6_correctBy_18 : decode cX6_correctBy 18 = .ok (.getfield 206, 3) := by decide +kernel
theorem dX6_correctBy_21 : decode cX6_correctBy 21 = .ok (.iload_n 1, 1) := by decide +kernel
theorem dX6_correctBy_22 : decode cX6_correctBy 22 = .ok (.iaload, 1) := by decide +kernel
theorem dX6_correctBy_23 : decode cX6_correctBy 23 = .ok (.istore_n 2, 1) := by decide +kernel
theorem dX6_correctBy_24 : decode cX6_correctBy 24 = .ok (.iload_n 2, 1) := by decide +kernel
theorem dX6_correctBy_25 : decode cX6_correctBy 25 = .ok (.ifCond .gt 6, 3) := by decide +kernel
theorem dX6_correctBy_28 : decode cX6_correctBy 28 = .ok (.ldc 119, 2) := by decide +kernel
theorem dX6_correctBy_30 : decode cX6_correctBy 30 = .ok (.ireturn, 1) := by decide +kernel
theorem dX6_correctBy_31 : decode cX6_correctBy 31 = .ok (.sipush 1000, 3) := by decide +kernel
theorem dX6_correctBy_34 : decode cX6_correctBy 34 = .ok (.aload_n 0, 1) := by decide +kernel
theorem dX6_correctBy_35 : decode cX6_correctBy 35 = .ok (.getfield 28, 3) := by decide +kernel
theorem dX6_correctBy_38 : decode cX6_correctBy 38 = .ok (.iload_n 1, 1) := by decide +kernel
theorem dX6_correctBy_39 : decode cX6_correctBy 39 = .ok (.invokevirtual 209, 3) := by decide +kernel
theorem dX6_correctBy_42 : decode cX6_correctBy 42 = .ok (.imul, 1) := by decide +kernel
theorem dX6_correctBy_43 : decode cX6_correctBy 43 = .ok (.iload_n 2, 1) := by decide +kernel
theorem dX6_correctBy_44 : decode cX6_correctBy 44 = .ok (.idiv, 1) := by decide +kernel
theorem dX6_correctBy_45 : decode cX6_correctBy 45 = .ok (.istore_n 3, 1) := by decide +kernel
theorem dX6_correctBy_46 : decode cX6_correctBy 46 = .ok (.iload_n 3, 1) := by decide +kernel
theorem dX6_correctBy_47 : decode cX6_correctBy 47 = .ok (.sipush 500, 3) := by decide +kernel
theorem dX6_correctBy_50 : decode cX6_correctBy 50 = .ok (.if_icmp .lt 10, 3) := by decide +kernel
theorem dX6_correctBy_53 : decode cX6_correctBy 53 = .ok (.iload_n 3, 1) := by decide +kernel
theorem dX6_correctBy_54 : decode cX6_correctBy 54 = .ok (.sipush 2000, 3) := by decide +kernel
theorem dX6_correctBy_57 : decode cX6_correctBy 57 = .ok (.if_icmp .le 6, 3) := by decide +kernel
theorem dX6_correctBy_60 : decode cX6_correctBy 60 = .ok (.ldc 119, 2) := by decide +kernel
theorem dX6_correctBy_62 : decode cX6_correctBy 62 = .ok (.ireturn, 1) := by decide +kernel
theorem dX6_correctBy_63 : decode cX6_correctBy 63 = .ok (.aload_n 0, 1) := by decide +kernel
theorem dX6_correctBy_64 : decode cX6_correctBy 64 = .ok (.getfield 35, 3) := by decide +kernel
theorem dX6_correctBy_67 : decode cX6_correctBy 67 = .ok (.iload_n 3, 1) := by decide +kernel
theorem dX6_correctBy_68 : decode cX6_correctBy 68 = .ok (.putfield 212, 3) := by decide +kernel
theorem dX6_correctBy_71 : decode cX6_correctBy 71 = .ok (.iload_n 3, 1) := by decide +kernel
theorem dX6_correctBy_72 : decode cX6_correctBy 72 = .ok (.ireturn, 1) := by decide +kernel
theorem dX6_changeSetting_0 : decode cX6_changeSetting 0 = .ok (.iload_n 1, 1) := by decide +kernel
theorem dX6_changeSetting_1 : decode cX6_changeSetting 1 = .ok (.ifCond .lt 8, 3) := by decide +kernel
theorem dX6_changeSetting_4 : decode cX6_changeSetting 4 = .ok (.iload_n 1, 1) := by decide +kernel
theorem dX6_changeSetting_5 : decode cX6_changeSetting 5 = .ok (.iconst 3, 1) := by decide +kernel
theorem dX6_changeSetting_6 : decode cX6_changeSetting 6 = .ok (.if_icmp .lt 6, 3) := by decide +kernel
theorem dX6_changeSetting_9 : decode cX6_changeSetting 9 = .ok (.ldc 106, 2) := by decide +kernel
theorem dX6_changeSetting_11 : decode cX6_changeSetting 11 = .ok (.ireturn, 1) := by decide +kernel
theorem dX6_changeSetting_12 : decode cX6_changeSetting 12 = .ok (.iload_n 2, 1) := by decide +kernel
theorem dX6_changeSetting_13 : decode cX6_changeSetting 13 = .ok (.getstatic 215, 3) := by decide +kernel
theorem dX6_changeSetting_16 : decode cX6_changeSetting 16 = .ok (.iload_n 1, 1) := by decide +kernel
theorem dX6_changeSetting_17 : decode cX6_changeSetting 17 = .ok (.iaload, 1) := by decide +kernel
theorem dX6_changeSetting_18 : decode cX6_changeSetting 18 = .ok (.if_icmp .lt 12, 3) := by decide +kernel
theorem dX6_changeSetting_21 : decode cX6_changeSetting 21 = .ok (.iload_n 2, 1) := by decide +kernel
theorem dX6_changeSetting_22 : decode cX6_changeSetting 22 = .ok (.getstatic 218, 3) := by decide +kernel
theorem dX6_changeSetting_25 : decode cX6_changeSetting 25 = .ok (.iload_n 1, 1) := by decide +kernel
theorem dX6_changeSetting_26 : decode cX6_changeSetting 26 = .ok (.iaload, 1) := by decide +kernel
theorem dX6_changeSetting_27 : decode cX6_changeSetting 27 = .ok (.if_icmp .le 6, 3) := by decide +kernel
theorem dX6_changeSetting_30 : decode cX6_changeSetting 30 = .ok (.ldc 106, 2) := by decide +kernel
theorem dX6_changeSetting_32 : decode cX6_changeSetting 32 = .ok (.ireturn, 1) := by decide +kernel
theorem dX6_changeSetting_33 : decode cX6_changeSetting 33 = .ok (.aload_n 0, 1) := by decide +kernel
theorem dX6_changeSetting_34 : decode cX6_changeSetting 34 = .ok (.getfield 46, 3) := by decide +kernel
theorem dX6_changeSetting_37 : decode cX6_changeSetting 37 = .ok (.iload_n 1, 1) := by decide +kernel
theorem dX6_changeSetting_38 : decode cX6_changeSetting 38 = .ok (.iaload, 1) := by decide +kernel
theorem dX6_changeSetting_39 : decode cX6_changeSetting 39 = .ok (.istore_n 3, 1) := by decide +kernel
theorem dX6_changeSetting_40 : decode cX6_changeSetting 40 = .ok (.aload_n 0, 1) := by decide +kernel
theorem dX6_changeSetting_41 : decode cX6_changeSetting 41 = .ok (.getfield 46, 3) := by decide +kernel
theorem dX6_changeSetting_44 : decode cX6_changeSetting 44 = .ok (.iload_n 1, 1) := by decide +kernel
theorem dX6_changeSetting_45 : decode cX6_changeSetting 45 = .ok (.iload_n 2, 1) := by decide +kernel
theorem dX6_changeSetting_46 : decode cX6_changeSetting 46 = .ok (.iastore, 1) := by decide +kernel
theorem dX6_changeSetting_47 : decode cX6_changeSetting 47 = .ok (.iload_n 3, 1) := by decide +kernel
theorem dX6_changeSetting_48 : decode cX6_changeSetting 48 = .ok (.ireturn, 1) := by decide +kernel
theorem dX7_init_0 : decode cX7_init 0 = .ok (.aload_n 0, 1) := by decide +kernel
theorem dX7_init_1 : decode cX7_init 1 = .ok (.invokespecial 3, 3) := by decide +kernel
theorem dX7_init_4 : decode cX7_init 4 = .ok (.aload_n 0, 1) := by decide +kernel
theorem dX7_init_5 : decode cX7_init 5 = .ok (.new 9, 3) := by decide +kernel
theorem dX7_init_8 : decode cX7_init 8 = .ok (.dup, 1) := by decide +kernel
theorem dX7_init_9 : decode cX7_init 9 = .ok (.invokespecial 11, 3) := by decide +kernel
theorem dX7_init_12 : decode cX7_init 12 = .ok (.putfield 12, 3) := by decide +kernel
theorem dX7_init_15 : decode cX7_init 15 = .ok (.return_, 1) := by decide +kernel
theorem dX8_init_0 : decode cX8_init 0 = .ok (.aload_n 0, 1) := by decide +kernel
theorem dX8_init_1 : decode cX8_init 1 = .ok (.invokespecial 3, 3) := by decide +kernel
theorem dX8_init_4 : decode cX8_init 4 = .ok (.aload_n 0, 1) := by decide +kernel
theorem dX8_init_5 : decode cX8_init 5 = .ok (.sipush 1000, 3) := by decide +kernel
theorem dX8_init_8 : decode cX8_init 8 = .ok (.putfield 9, 3) := by decide +kernel
theorem dX8_init_11 : decode cX8_init 11 = .ok (.return_, 1) := by decide +kernel
theorem dX8_copyFrom_0 : decode cX8_copyFrom 0 = .ok (.aload_n 0, 1) := by decide +kernel
theorem dX8_copyFrom_1 : decode cX8_copyFrom 1 = .ok (.aload_n 1, 1) := by decide +kernel
theorem dX8_copyFrom_2 : decode cX8_copyFrom 2 = .ok (.getfield 15, 3) := by decide +kernel
theorem dX8_copyFrom_5 : decode cX8_copyFrom 5 = .ok (.putfield 15, 3) := by decide +kernel
theorem dX8_copyFrom_8 : decode cX8_copyFrom 8 = .ok (.aload_n 0, 1) := by decide +kernel
theorem dX8_copyFrom_9 : decode cX8_copyFrom 9 = .ok (.aload_n 1, 1) := by decide +kernel
theorem dX8_copyFrom_10 : decode cX8_copyFrom 10 = .ok (.getfield 18, 3) := by decide +kernel
theorem dX8_copyFrom_13 : decode cX8_copyFrom 13 = .ok (.putfield 18, 3) := by decide +kernel
theorem dX8_copyFrom_16 : decode cX8_copyFrom 16 = .ok (.aload_n 0, 1) := by decide +kernel
theorem dX8_copyFrom_17 : decode cX8_copyFrom 17 = .ok (.aload_n 1, 1) := by decide +kernel
theorem dX8_copyFrom_18 : decode cX8_copyFrom 18 = .ok (.getfield 21, 3) := by decide +kernel
theorem dX8_copyFrom_21 : decode cX8_copyFrom 21 = .ok (.putfield 21, 3) := by decide +kernel
theorem dX8_copyFrom_24 : decode cX8_copyFrom 24 = .ok (.aload_n 0, 1) := by decide +kernel
theorem dX8_copyFrom_25 : decode cX8_copyFrom 25 = .ok (.aload_n 1, 1) := by decide +kernel
theorem dX8_copyFrom_26 : decode cX8_copyFrom 26 = .ok (.getfield 24, 3) := by decide +kernel
theorem dX8_copyFrom_29 : decode cX8_copyFrom 29 = .ok (.putfield 24, 3) := by decide +kernel
theorem dX8_copyFrom_32 : decode cX8_copyFrom 32 = .ok (.aload_n 0, 1) := by decide +kernel
theorem dX8_copyFrom_33 : decode cX8_copyFrom 33 = .ok (.aload_n 1, 1) := by decide +kernel
theorem dX8_copyFrom_34 : decode cX8_copyFrom 34 = .ok (.getfield 9, 3) := by decide +kernel
theorem dX8_copyFrom_37 : decode cX8_copyFrom 37 = .ok (.putfield 9, 3) := by decide +kernel
theorem dX8_copyFrom_40 : decode cX8_copyFrom 40 = .ok (.return_, 1) := by decide +kernel
theorem dX8_reading_0 : decode cX8_reading 0 = .ok (.iload_n 1, 1) := by decide +kernel
theorem dX8_reading_1 : decode cX8_reading 1 = .ok (.aload_n 0, 1) := by decide +kernel
theorem dX8_reading_2 : decode cX8_reading 2 = .ok (.getfield 15, 3) := by decide +kernel
theorem dX8_reading_5 : decode cX8_reading 5 = .ok (.iadd, 1) := by decide +kernel
theorem dX8_reading_6 : decode cX8_reading 6 = .ok (.aload_n 0, 1) := by decide +kernel
theorem dX8_reading_7 : decode cX8_reading 7 = .ok (.getfield 18, 3) := by decide +kernel
theorem dX8_reading_10 : decode cX8_reading 10 = .ok (.isub, 1) := by decide +kernel
theorem dX8_reading_11 : decode cX8_reading 11 = .ok (.ireturn, 1) := by decide +kernel
theorem dX8_weigh_0 : decode cX8_weigh 0 = .ok (.aload_n 0, 1) := by decide +kernel
theorem dX8_weigh_1 : decode cX8_weigh 1 = .ok (.iload_n 1, 1) := by decide +kernel
theorem dX8_weigh_2 : decode cX8_weigh 2 = .ok (.invokevirtual 27, 3) := by decide +kernel
theorem dX8_weigh_5 : decode cX8_weigh 5 = .ok (.aload_n 0, 1) := by decide +kernel
theorem dX8_weigh_6 : decode cX8_weigh 6 = .ok (.getfield 24, 3) := by decide +kernel
theorem dX8_weigh_9 : decode cX8_weigh 9 = .ok (.iadd, 1) := by decide +kernel
theorem dX8_weigh_10 : decode cX8_weigh 10 = .ok (.istore_n 2, 1) := by decide +kernel
theorem dX8_weigh_11 : decode cX8_weigh 11 = .ok (.iload_n 2, 1) := by decide +kernel
theorem dX8_weigh_12 : decode cX8_weigh 12 = .ok (.iconst 4, 1) := by decide +kernel
theorem dX8_weigh_13 : decode cX8_weigh 13 = .ok (.idiv, 1) := by decide +kernel
theorem dX8_weigh_14 : decode cX8_weigh 14 = .ok (.istore_n 3, 1) := by decide +kernel
theorem dX8_weigh_15 : decode cX8_weigh 15 = .ok (.aload_n 0, 1) := by decide +kernel
theorem dX8_weigh_16 : decode cX8_weigh 16 = .ok (.iload_n 2, 1) := by decide +kernel
theorem dX8_weigh_17 : decode cX8_weigh 17 = .ok (.iconst 4, 1) := by decide +kernel
theorem dX8_weigh_18 : decode cX8_weigh 18 = .ok (.irem, 1) := by decide +kernel
theorem dX8_weigh_19 : decode cX8_weigh 19 = .ok (.putfield 24, 3) := by decide +kernel
theorem dX8_weigh_22 : decode cX8_weigh 22 = .ok (.aload_n 0, 1) := by decide +kernel
theorem dX8_weigh_23 : decode cX8_weigh 23 = .ok (.dup, 1) := by decide +kernel
theorem dX8_weigh_24 : decode cX8_weigh 24 = .ok (.getfield 21, 3) := by decide +kernel
theorem dX8_weigh_27 : decode cX8_weigh 27 = .ok (.iload_n 3, 1) := by decide +kernel
theorem dX8_weigh_28 : decode cX8_weigh 28 = .ok (.iadd, 1) := by decide +kernel
theorem dX8_weigh_29 : decode cX8_weigh 29 = .ok (.putfield 21, 3) := by decide +kernel
theorem dX8_weigh_32 : decode cX8_weigh 32 = .ok (.iload_n 3, 1) := by decide +kernel
theorem dX8_weigh_33 : decode cX8_weigh 33 = .ok (.ireturn, 1) := by decide +kernel
theorem dX8_toldTotal_0 : decode cX8_toldTotal 0 = .ok (.aload_n 0, 1) := by decide +kernel
theorem dX8_toldTotal_1 : decode cX8_toldTotal 1 = .ok (.getfield 21, 3) := by decide +kernel
theorem dX8_toldTotal_4 : decode cX8_toldTotal 4 = .ok (.i2l, 1) := by decide +kernel
theorem dX8_toldTotal_5 : decode cX8_toldTotal 5 = .ok (.aload_n 0, 1) := by decide +kernel
theorem dX8_toldTotal_6 : decode cX8_toldTotal 6 = .ok (.getfield 9, 3) := by decide +kernel
theorem dX8_toldTotal_9 : decode cX8_toldTotal 9 = .ok (.i2l, 1) := by decide +kernel
theorem dX8_toldTotal_10 : decode cX8_toldTotal 10 = .ok (.lmul, 1) := by decide +kernel
theorem dX8_toldTotal_11 : decode cX8_toldTotal 11 = .ok (.ldc2_w 31, 3) := by decide +kernel
theorem dX8_toldTotal_14 : decode cX8_toldTotal 14 = .ok (.ldiv, 1) := by decide +kernel
theorem dX8_toldTotal_15 : decode cX8_toldTotal 15 = .ok (.l2i, 1) := by decide +kernel
theorem dX8_toldTotal_16 : decode cX8_toldTotal 16 = .ok (.ireturn, 1) := by decide +kernel
theorem dX9_init_0 : decode cX9_init 0 = .ok (.aload_n 0, 1) := by decide +kernel
theorem dX9_init_1 : decode cX9_init 1 = .ok (.invokespecial 3, 3) := by decide +kernel
theorem dX9_init_4 : decode cX9_init 4 = .ok (.aload_n 0, 1) := by decide +kernel
theorem dX9_init_5 : decode cX9_init 5 = .ok (.bipush 60, 2) := by decide +kernel
theorem dX9_init_7 : decode cX9_init 7 = .ok (.newarray .char, 2) := by decide +kernel
theorem dX9_init_9 : decode cX9_init 9 = .ok (.putfield 9, 3) := by decide +kernel
theorem dX9_init_12 : decode cX9_init 12 = .ok (.return_, 1) := by decide +kernel
theorem dX10_init_0 : decode cX10_init 0 = .ok (.aload_n 0, 1) := by decide +kernel
theorem dX10_init_1 : decode cX10_init 1 = .ok (.invokespecial 1, 3) := by decide +kernel
theorem dX10_init_4 : decode cX10_init 4 = .ok (.aload_n 0, 1) := by decide +kernel
theorem dX10_init_5 : decode cX10_init 5 = .ok (.new 7, 3) := by decide +kernel
theorem dX10_init_8 : decode cX10_init 8 = .ok (.dup, 1) := by decide +kernel
theorem dX10_init_9 : decode cX10_init 9 = .ok (.invokespecial 9, 3) := by decide +kernel
theorem dX10_init_12 : decode cX10_init 12 = .ok (.putfield 10, 3) := by decide +kernel
theorem dX10_init_15 : decode cX10_init 15 = .ok (.aload_n 0, 1) := by decide +kernel
theorem dX10_init_16 : decode cX10_init 16 = .ok (.new 7, 3) := by decide +kernel
theorem dX10_init_19 : decode cX10_init 19 = .ok (.dup, 1) := by decide +kernel
theorem dX10_init_20 : decode cX10_init 20 = .ok (.invokespecial 9, 3) := by decide +kernel
theorem dX10_init_23 : decode cX10_init 23 = .ok (.putfield 16, 3) := by decide +kernel
theorem dX10_init_26 : decode cX10_init 26 = .ok (.aload_n 0, 1) := by decide +kernel
theorem dX10_init_27 : decode cX10_init 27 = .ok (.new 19, 3) := by decide +kernel
theorem dX10_init_30 : decode cX10_init 30 = .ok (.dup, 1) := by decide +kernel
theorem dX10_init_31 : decode cX10_init 31 = .ok (.invokespecial 21, 3) := by decide +kernel
theorem dX10_init_34 : decode cX10_init 34 = .ok (.putfield 22, 3) := by decide +kernel
theorem dX10_init_37 : decode cX10_init 37 = .ok (.aload_n 0, 1) := by decide +kernel
theorem dX10_init_38 : decode cX10_init 38 = .ok (.new 26, 3) := by decide +kernel
theorem dX10_init_41 : decode cX10_init 41 = .ok (.dup, 1) := by decide +kernel
theorem dX10_init_42 : decode cX10_init 42 = .ok (.invokespecial 28, 3) := by decide +kernel
theorem dX10_init_45 : decode cX10_init 45 = .ok (.putfield 29, 3) := by decide +kernel
theorem dX10_init_48 : decode cX10_init 48 = .ok (.aload_n 0, 1) := by decide +kernel
theorem dX10_init_49 : decode cX10_init 49 = .ok (.new 33, 3) := by decide +kernel
theorem dX10_init_52 : decode cX10_init 52 = .ok (.dup, 1) := by decide +kernel
theorem dX10_init_53 : decode cX10_init 53 = .ok (.invokespecial 35, 3) := by decide +kernel
theorem dX10_init_56 : decode cX10_init 56 = .ok (.putfield 36, 3) := by decide +kernel
theorem dX10_init_59 : decode cX10_init 59 = .ok (.return_, 1) := by decide +kernel
theorem dX10_lot_0 : decode cX10_lot 0 = .ok (.aload_n 0, 1) := by decide +kernel
theorem dX10_lot_1 : decode cX10_lot 1 = .ok (.getfield 16, 3) := by decide +kernel
theorem dX10_lot_4 : decode cX10_lot 4 = .ok (.aload_n 0, 1) := by decide +kernel
theorem dX10_lot_5 : decode cX10_lot 5 = .ok (.getfield 10, 3) := by decide +kernel
theorem dX10_lot_8 : decode cX10_lot 8 = .ok (.invokevirtual 40, 3) := by decide +kernel
theorem dX10_lot_11 : decode cX10_lot 11 = .ok (.aload_n 0, 1) := by decide +kernel
theorem dX10_lot_12 : decode cX10_lot 12 = .ok (.aload_n 0, 1) := by decide +kernel
theorem dX10_lot_13 : decode cX10_lot 13 = .ok (.getfield 10, 3) := by decide +kernel
theorem dX10_lot_16 : decode cX10_lot 16 = .ok (.iload_n 1, 1) := by decide +kernel
theorem dX10_lot_17 : decode cX10_lot 17 = .ok (.iload_n 2, 1) := by decide +kernel
theorem dX10_lot_18 : decode cX10_lot 18 = .ok (.invokevirtual 44, 3) := by decide +kernel
theorem dX10_lot_21 : decode cX10_lot 21 = .ok (.invokevirtual 48, 3) := by decide +kernel
theorem dX10_lot_24 : decode cX10_lot 24 = .ok (.ireturn, 1) := by decide +kernel
theorem dX10_gate_0 : decode cX10_gate 0 = .ok (.aload_n 0, 1) := by decide +kernel
theorem dX10_gate_1 : decode cX10_gate 1 = .ok (.getfield 16, 3) := by decide +kernel
theorem dX10_gate_4 : decode cX10_gate 4 = .ok (.aload_n 0, 1) := by decide +kernel
theorem dX10_gate_5 : decode cX10_gate 5 = .ok (.getfield 10, 3) := by decide +kernel
theorem dX10_gate_8 : decode cX10_gate 8 = .ok (.invokevirtual 40, 3) := by decide +kernel
theorem dX10_gate_11 : decode cX10_gate 11 = .ok (.aload_n 0, 1) := by decide +kernel
theorem dX10_gate_12 : decode cX10_gate 12 = .ok (.aload_n 0, 1) := by decide +kernel
theorem dX10_gate_13 : decode cX10_gate 13 = .ok (.getfield 10, 3) := by decide +kernel
theorem dX10_gate_16 : decode cX10_gate 16 = .ok (.iload_n 1, 1) := by decide +kernel
theorem dX10_gate_17 : decode cX10_gate 17 = .ok (.invokevirtual 52, 3) := by decide +kernel
theorem dX10_gate_20 : decode cX10_gate 20 = .ok (.invokevirtual 48, 3) := by decide +kernel
theorem dX10_gate_23 : decode cX10_gate 23 = .ok (.ireturn, 1) := by decide +kernel
theorem dX10_run_0 : decode cX10_run 0 = .ok (.aload_n 0, 1) := by decide +kernel
theorem dX10_run_1 : decode cX10_run 1 = .ok (.getfield 16, 3) := by decide +kernel
theorem dX10_run_4 : decode cX10_run 4 = .ok (.aload_n 0, 1) := by decide +kernel
theorem dX10_run_5 : decode cX10_run 5 = .ok (.getfield 10, 3) := by decide +kernel
theorem dX10_run_8 : decode cX10_run 8 = .ok (.invokevirtual 40, 3) := by decide +kernel
theorem dX10_run_11 : decode cX10_run 11 = .ok (.aload_n 0, 1) := by decide +kernel
theorem dX10_run_12 : decode cX10_run 12 = .ok (.aload_n 0, 1) := by decide +kernel
theorem dX10_run_13 : decode cX10_run 13 = .ok (.getfield 10, 3) := by decide +kernel
theorem dX10_run_16 : decode cX10_run 16 = .ok (.iload_n 1, 1) := by decide +kernel
theorem dX10_run_17 : decode cX10_run 17 = .ok (.invokevirtual 55, 3) := by decide +kernel
theorem dX10_run_20 : decode cX10_run 20 = .ok (.invokevirtual 48, 3) := by decide +kernel
theorem dX10_run_23 : decode cX10_run 23 = .ok (.ireturn, 1) := by decide +kernel
theorem dX10_bin_0 : decode cX10_bin 0 = .ok (.aload_n 0, 1) := by decide +kernel
theorem dX10_bin_1 : decode cX10_bin 1 = .ok (.getfield 16, 3) := by decide +kernel
theorem dX10_bin_4 : decode cX10_bin 4 = .ok (.aload_n 0, 1) := by decide +kernel
theorem dX10_bin_5 : decode cX10_bin 5 = .ok (.getfield 10, 3) := by decide +kernel
theorem dX10_bin_8 : decode cX10_bin 8 = .ok (.invokevirtual 40, 3) := by decide +kernel
theorem dX10_bin_11 : decode cX10_bin 11 = .ok (.aload_n 0, 1) := by decide +kernel
theorem dX10_bin_12 : decode cX10_bin 12 = .ok (.aload_n 0, 1) := by decide +kernel
theorem dX10_bin_13 : decode cX10_bin 13 = .ok (.getfield 10, 3) := by decide +kernel
theorem dX10_bin_16 : decode cX10_bin 16 = .ok (.invokevirtual 58, 3) := by decide +kernel
theorem dX10_bin_19 : decode cX10_bin 19 = .ok (.invokevirtual 48, 3) := by decide +kernel
theorem dX10_bin_22 : decode cX10_bin 22 = .ok (.ireturn, 1) := by decide +kernel
theorem dX10_batch_0 : decode cX10_batch 0 = .ok (.aload_n 0, 1) := by decide +kernel
theorem dX10_batch_1 : decode cX10_batch 1 = .ok (.getfield 16, 3) := by decide +kernel
theorem dX10_batch_4 : decode cX10_batch 4 = .ok (.aload_n 0, 1) := by decide +kernel
theorem dX10_batch_5 : decode cX10_batch 5 = .ok (.getfield 10, 3) := by decide +kernel
theorem dX10_batch_8 : decode cX10_batch 8 = .ok (.invokevirtual 40, 3) := by decide +kernel
theorem dX10_batch_11 : decode cX10_batch 11 = .ok (.aload_n 0, 1) := by decide +kernel
theorem dX10_batch_12 : decode cX10_batch 12 = .ok (.aload_n 0, 1) := by decide +kernel
theorem dX10_batch_13 : decode cX10_batch 13 = .ok (.getfield 10, 3) := by decide +kernel
theorem dX10_batch_16 : decode cX10_batch 16 = .ok (.iload_n 1, 1) := by decide +kernel
theorem dX10_batch_17 : decode cX10_batch 17 = .ok (.invokevirtual 62, 3) := by decide +kernel
theorem dX10_batch_20 : decode cX10_batch 20 = .ok (.invokevirtual 48, 3) := by decide +kernel
theorem dX10_batch_23 : decode cX10_batch 23 = .ok (.ireturn, 1) := by decide +kernel
theorem dX10_tick_0 : decode cX10_tick 0 = .ok (.aload_n 0, 1) := by decide +kernel
theorem dX10_tick_1 : decode cX10_tick 1 = .ok (.getfield 16, 3) := by decide +kernel
theorem dX10_tick_4 : decode cX10_tick 4 = .ok (.aload_n 0, 1) := by decide +kernel
theorem dX10_tick_5 : decode cX10_tick 5 = .ok (.getfield 10, 3) := by decide +kernel
theorem dX10_tick_8 : decode cX10_tick 8 = .ok (.invokevirtual 40, 3) := by decide +kernel
theorem dX10_tick_11 : decode cX10_tick 11 = .ok (.aload_n 0, 1) := by decide +kernel
theorem dX10_tick_12 : decode cX10_tick 12 = .ok (.aload_n 0, 1) := by decide +kernel
theorem dX10_tick_13 : decode cX10_tick 13 = .ok (.getfield 10, 3) := by decide +kernel
theorem dX10_tick_16 : decode cX10_tick 16 = .ok (.iload_n 1, 1) := by decide +kernel
theorem dX10_tick_17 : decode cX10_tick 17 = .ok (.invokevirtual 65, 3) := by decide +kernel
theorem dX10_tick_20 : decode cX10_tick 20 = .ok (.invokevirtual 48, 3) := by decide +kernel
theorem dX10_tick_23 : decode cX10_tick 23 = .ok (.ireturn, 1) := by decide +kernel
theorem dX10_zero_0 : decode cX10_zero 0 = .ok (.aload_n 0, 1) := by decide +kernel
theorem dX10_zero_1 : decode cX10_zero 1 = .ok (.getfield 16, 3) := by decide +kernel
theorem dX10_zero_4 : decode cX10_zero 4 = .ok (.aload_n 0, 1) := by decide +kernel
theorem dX10_zero_5 : decode cX10_zero 5 = .ok (.getfield 10, 3) := by decide +kernel
theorem dX10_zero_8 : decode cX10_zero 8 = .ok (.invokevirtual 40, 3) := by decide +kernel
theorem dX10_zero_11 : decode cX10_zero 11 = .ok (.aload_n 0, 1) := by decide +kernel
theorem dX10_zero_12 : decode cX10_zero 12 = .ok (.aload_n 0, 1) := by decide +kernel
theorem dX10_zero_13 : decode cX10_zero 13 = .ok (.getfield 10, 3) := by decide +kernel
theorem dX10_zero_16 : decode cX10_zero 16 = .ok (.invokevirtual 68, 3) := by decide +kernel
theorem dX10_zero_19 : decode cX10_zero 19 = .ok (.invokevirtual 48, 3) := by decide +kernel
theorem dX10_zero_22 : decode cX10_zero 22 = .ok (.ireturn, 1) := by decide +kernel
theorem dX10_correct_0 : decode cX10_correct 0 = .ok (.aload_n 0, 1) := by decide +kernel
theorem dX10_correct_1 : decode cX10_correct 1 = .ok (.getfield 16, 3) := by decide +kernel
theorem dX10_correct_4 : decode cX10_correct 4 = .ok (.aload_n 0, 1) := by decide +kernel
theorem dX10_correct_5 : decode cX10_correct 5 = .ok (.getfield 10, 3) := by decide +kernel
theorem dX10_correct_8 : decode cX10_correct 8 = .ok (.invokevirtual 40, 3) := by decide +kernel
theorem dX10_correct_11 : decode cX10_correct 11 = .ok (.aload_n 0, 1) := by decide +kernel
theorem dX10_correct_12 : decode cX10_correct 12 = .ok (.aload_n 0, 1) := by decide +kernel
theorem dX10_correct_13 : decode cX10_correct 13 = .ok (.getfield 10, 3) := by decide +kernel
theorem dX10_correct_16 : decode cX10_correct 16 = .ok (.iload_n 1, 1) := by decide +kernel
theorem dX10_correct_17 : decode cX10_correct 17 = .ok (.invokevirtual 71, 3) := by decide +kernel
theorem dX10_correct_20 : decode cX10_correct 20 = .ok (.invokevirtual 48, 3) := by decide +kernel
theorem dX10_correct_23 : decode cX10_correct 23 = .ok (.ireturn, 1) := by decide +kernel
theorem dX10_set_0 : decode cX10_set 0 = .ok (.aload_n 0, 1) := by decide +kernel
theorem dX10_set_1 : decode cX10_set 1 = .ok (.getfield 16, 3) := by decide +kernel
theorem dX10_set_4 : decode cX10_set 4 = .ok (.aload_n 0, 1) := by decide +kernel
theorem dX10_set_5 : decode cX10_set 5 = .ok (.getfield 10, 3) := by decide +kernel
theorem dX10_set_8 : decode cX10_set 8 = .ok (.invokevirtual 40, 3) := by decide +kernel
theorem dX10_set_11 : decode cX10_set 11 = .ok (.aload_n 0, 1) := by decide +kernel
theorem dX10_set_12 : decode cX10_set 12 = .ok (.aload_n 0, 1) := by decide +kernel
theorem dX10_set_13 : decode cX10_set 13 = .ok (.getfield 10, 3) := by decide +kernel
theorem dX10_set_16 : decode cX10_set 16 = .ok (.iload_n 1, 1) := by decide +kernel
theorem dX10_set_17 : decode cX10_set 17 = .ok (.iload_n 2, 1) := by decide +kernel
theorem dX10_set_18 : decode cX10_set 18 = .ok (.invokevirtual 74, 3) := by decide +kernel
theorem dX10_set_21 : decode cX10_set 21 = .ok (.invokevirtual 48, 3) := by decide +kernel
theorem dX10_set_24 : decode cX10_set 24 = .ok (.ireturn, 1) := by decide +kernel
theorem dX10_account_0 : decode cX10_account 0 = .ok (.aload_n 0, 1) := by decide +kernel
theorem dX10_account_1 : decode cX10_account 1 = .ok (.getfield 16, 3) := by decide +kernel
theorem dX10_account_4 : decode cX10_account 4 = .ok (.aload_n 0, 1) := by decide +kernel
theorem dX10_account_5 : decode cX10_account 5 = .ok (.getfield 10, 3) := by decide +kernel
theorem dX10_account_8 : decode cX10_account 8 = .ok (.invokevirtual 40, 3) := by decide +kernel
theorem dX10_account_11 : decode cX10_account 11 = .ok (.aload_n 0, 1) := by decide +kernel
theorem dX10_account_12 : decode cX10_account 12 = .ok (.aload_n 0, 1) := by decide +kernel
theorem dX10_account_13 : decode cX10_account 13 = .ok (.getfield 10, 3) := by decide +kernel
theorem dX10_account_16 : decode cX10_account 16 = .ok (.getfield 77, 3) := by decide +kernel
theorem dX10_account_19 : decode cX10_account 19 = .ok (.iload_n 1, 1) := by decide +kernel
theorem dX10_account_20 : decode cX10_account 20 = .ok (.invokevirtual 81, 3) := by decide +kernel
theorem dX10_account_23 : decode cX10_account 23 = .ok (.invokevirtual 48, 3) := by decide +kernel
theorem dX10_account_26 : decode cX10_account 26 = .ok (.ireturn, 1) := by decide +kernel
theorem dX10_book_0 : decode cX10_book 0 = .ok (.aload_n 0, 1) := by decide +kernel
theorem dX10_book_1 : decode cX10_book 1 = .ok (.getfield 16, 3) := by decide +kernel
theorem dX10_book_4 : decode cX10_book 4 = .ok (.aload_n 0, 1) := by decide +kernel
theorem dX10_book_5 : decode cX10_book 5 = .ok (.getfield 10, 3) := by decide +kernel
theorem dX10_book_8 : decode cX10_book 8 = .ok (.invokevirtual 40, 3) := by decide +kernel
theorem dX10_book_11 : decode cX10_book 11 = .ok (.aload_n 0, 1) := by decide +kernel
theorem dX10_book_12 : decode cX10_book 12 = .ok (.aload_n 0, 1) := by decide +kernel
theorem dX10_book_13 : decode cX10_book 13 = .ok (.getfield 10, 3) := by decide +kernel
theorem dX10_book_16 : decode cX10_book 16 = .ok (.getfield 77, 3) := by decide +kernel
theorem dX10_book_19 : decode cX10_book 19 = .ok (.iload_n 1, 1) := by decide +kernel
theorem dX10_book_20 : decode cX10_book 20 = .ok (.iload_n 2, 1) := by decide +kernel
theorem dX10_book_21 : decode cX10_book 21 = .ok (.invokevirtual 86, 3) := by decide +kernel
theorem dX10_book_24 : decode cX10_book 24 = .ok (.invokevirtual 48, 3) := by decide +kernel
theorem dX10_book_27 : decode cX10_book 27 = .ok (.ireturn, 1) := by decide +kernel
theorem dX10_accountOf_0 : decode cX10_accountOf 0 = .ok (.aload_n 0, 1) := by decide +kernel
theorem dX10_accountOf_1 : decode cX10_accountOf 1 = .ok (.getfield 10, 3) := by decide +kernel
theorem dX10_accountOf_4 : decode cX10_accountOf 4 = .ok (.getfield 77, 3) := by decide +kernel
theorem dX10_accountOf_7 : decode cX10_accountOf 7 = .ok (.astore_n 3, 1) := by decide +kernel
theorem dX10_accountOf_8 : decode cX10_accountOf 8 = .ok (.aload_n 3, 1) := by decide +kernel
theorem dX10_accountOf_9 : decode cX10_accountOf 9 = .ok (.iload_n 1, 1) := by decide +kernel
theorem dX10_accountOf_10 : decode cX10_accountOf 10 = .ok (.invokevirtual 89, 3) := by decide +kernel
theorem dX10_accountOf_13 : decode cX10_accountOf 13 = .ok (.ifCond .ne 6, 3) := by decide +kernel
theorem dX10_accountOf_16 : decode cX10_accountOf 16 = .ok (.ldc 93, 2) := by decide +kernel
theorem dX10_accountOf_18 : decode cX10_accountOf 18 = .ok (.ireturn, 1) := by decide +kernel
theorem dX10_accountOf_19 : decode cX10_accountOf 19 = .ok (.iload_n 2, 1) := by decide +kernel
theorem dX10_accountOf_20 : decode cX10_accountOf 20 = .ok (.tableswitch 77 0 4 #[36, 52, 59, 65, 71], 36) := by decide +kernel
theorem dX10_accountOf_56 : decode cX10_accountOf 56 = .ok (.iload_n 1, 1) := by decide +kernel
theorem dX10_accountOf_57 : decode cX10_accountOf 57 = .ok (.ifCond .ne 8, 3) := by decide +kernel
theorem dX10_accountOf_60 : decode cX10_accountOf 60 = .ok (.ldc 94, 2) := by decide +kernel
theorem dX10_accountOf_62 : decode cX10_accountOf 62 = .ok (.goto 9, 3) := by decide +kernel
theorem dX10_accountOf_65 : decode cX10_accountOf 65 = .ok (.aload_n 3, 1) := by decide +kernel
theorem dX10_accountOf_66 : decode cX10_accountOf 66 = .ok (.getfield 95, 3) := by decide +kernel
theorem dX10_accountOf_69 : decode cX10_accountOf 69 = .ok (.iload_n 1, 1) := by decide +kernel
theorem dX10_accountOf_70 : decode cX10_accountOf 70 = .ok (.iaload, 1) := by decide +kernel
theorem dX10_accountOf_71 : decode cX10_accountOf 71 = .ok (.ireturn, 1) := by decide +kernel
theorem dX10_accountOf_72 : decode cX10_accountOf 72 = .ok (.aload_n 3, 1) := by decide +kernel
theorem dX10_accountOf_73 : decode cX10_accountOf 73 = .ok (.getfield 99, 3) := by decide +kernel
theorem dX10_accountOf_76 : decode cX10_accountOf 76 = .ok (.iload_n 1, 1) := by decide +kernel
theorem dX10_accountOf_77 : decode cX10_accountOf 77 = .ok (.iaload, 1) := by decide +kernel
theorem dX10_accountOf_78 : decode cX10_accountOf 78 = .ok (.ireturn, 1) := by decide +kernel
theorem dX10_accountOf_79 : decode cX10_accountOf 79 = .ok (.aload_n 3, 1) := by decide +kernel
theorem dX10_accountOf_80 : decode cX10_accountOf 80 = .ok (.iload_n 1, 1) := by decide +kernel
theorem dX10_accountOf_81 : decode cX10_accountOf 81 = .ok (.invokevirtual 102, 3) := by decide +kernel
theorem dX10_accountOf_84 : decode cX10_accountOf 84 = .ok (.ireturn, 1) := by decide +kernel
theorem dX10_accountOf_85 : decode cX10_accountOf 85 = .ok (.aload_n 3, 1) := by decide +kernel
theorem dX10_accountOf_86 : decode cX10_accountOf 86 = .ok (.iload_n 1, 1) := by decide +kernel
theorem dX10_accountOf_87 : decode cX10_accountOf 87 = .ok (.invokevirtual 105, 3) := by decide +kernel
theorem dX10_accountOf_90 : decode cX10_accountOf 90 = .ok (.ireturn, 1) := by decide +kernel
theorem dX10_accountOf_91 : decode cX10_accountOf 91 = .ok (.aload_n 3, 1) := by decide +kernel
theorem dX10_accountOf_92 : decode cX10_accountOf 92 = .ok (.iload_n 1, 1) := by decide +kernel
theorem dX10_accountOf_93 : decode cX10_accountOf 93 = .ok (.invokevirtual 108, 3) := by decide +kernel
theorem dX10_accountOf_96 : decode cX10_accountOf 96 = .ok (.ireturn, 1) := by decide +kernel
theorem dX10_accountOf_97 : decode cX10_accountOf 97 = .ok (.ldc 93, 2) := by decide +kernel
theorem dX10_accountOf_99 : decode cX10_accountOf 99 = .ok (.ireturn, 1) := by decide +kernel
theorem dX10_massAt_0 : decode cX10_massAt 0 = .ok (.iload_n 1, 1) := by decide +kernel
theorem dX10_massAt_1 : decode cX10_massAt 1 = .ok (.ifCond .lt 19, 3) := by decide +kernel
theorem dX10_massAt_4 : decode cX10_massAt 4 = .ok (.iload_n 1, 1) := by decide +kernel
theorem dX10_massAt_5 : decode cX10_massAt 5 = .ok (.bipush 12, 2) := by decide +kernel
theorem dX10_massAt_7 : decode cX10_massAt 7 = .ok (.if_icmp .ge 13, 3) := by decide +kernel
theorem dX10_massAt_10 : decode cX10_massAt 10 = .ok (.iload_n 2, 1) := by decide +kernel
theorem dX10_massAt_11 : decode cX10_massAt 11 = .ok (.iconst (-1), 1) := by decide +kernel
theorem dX10_massAt_12 : decode cX10_massAt 12 = .ok (.if_icmp .lt 8, 3) := by decide +kernel
theorem dX10_massAt_15 : decode cX10_massAt 15 = .ok (.iload_n 2, 1) := by decide +kernel
theorem dX10_massAt_16 : decode cX10_massAt 16 = .ok (.iconst 4, 1) := by decide +kernel
theorem dX10_massAt_17 : decode cX10_massAt 17 = .ok (.if_icmp .lt 6, 3) := by decide +kernel
theorem dX10_massAt_20 : decode cX10_massAt 20 = .ok (.ldc 93, 2) := by decide +kernel
theorem dX10_massAt_22 : decode cX10_massAt 22 = .ok (.ireturn, 1) := by decide +kernel
theorem dX10_massAt_23 : decode cX10_massAt 23 = .ok (.iload_n 2, 1) := by decide +kernel
theorem dX10_massAt_24 : decode cX10_massAt 24 = .ok (.ifCond .ge 17, 3) := by decide +kernel
theorem dX10_massAt_27 : decode cX10_massAt 27 = .ok (.aload_n 0, 1) := by decide +kernel
theorem dX10_massAt_28 : decode cX10_massAt 28 = .ok (.getfield 10, 3) := by decide +kernel
theorem dX10_massAt_31 : decode cX10_massAt 31 = .ok (.getfield 111, 3) := by decide +kernel
theorem dX10_massAt_34 : decode cX10_massAt 34 = .ok (.iload_n 1, 1) := by decide +kernel
theorem dX10_massAt_35 : decode cX10_massAt 35 = .ok (.invokevirtual 115, 3) := by decide +kernel
theorem dX10_massAt_38 : decode cX10_massAt 38 = .ok (.goto 15, 3) := by decide +kernel
theorem dX10_massAt_41 : decode cX10_massAt 41 = .ok (.aload_n 0, 1) := by decide +kernel
theorem dX10_massAt_42 : decode cX10_massAt 42 = .ok (.getfield 10, 3) := by decide +kernel
theorem dX10_massAt_45 : decode cX10_massAt 45 = .ok (.getfield 111, 3) := by decide +kernel
theorem dX10_massAt_48 : decode cX10_massAt 48 = .ok (.iload_n 1, 1) := by decide +kernel
theorem dX10_massAt_49 : decode cX10_massAt 49 = .ok (.iload_n 2, 1) := by decide +kernel
theorem dX10_massAt_50 : decode cX10_massAt 50 = .ok (.invokevirtual 120, 3) := by decide +kernel
theorem dX10_massAt_53 : decode cX10_massAt 53 = .ok (.ireturn, 1) := by decide +kernel
theorem dX10_lotOf_0 : decode cX10_lotOf 0 = .ok (.iload_n 1, 1) := by decide +kernel
theorem dX10_lotOf_1 : decode cX10_lotOf 1 = .ok (.ifCond .lt 12, 3) := by decide +kernel
theorem dX10_lotOf_4 : decode cX10_lotOf 4 = .ok (.iload_n 2, 1) := by decide +kernel
theorem dX10_lotOf_5 : decode cX10_lotOf 5 = .ok (.ifCond .lt 8, 3) := by decide +kernel
theorem dX10_lotOf_8 : decode cX10_lotOf 8 = .ok (.iload_n 2, 1) := by decide +kernel
theorem dX10_lotOf_9 : decode cX10_lotOf 9 = .ok (.iconst 1, 1) := by decide +kernel
theorem dX10_lotOf_10 : decode cX10_lotOf 10 = .ok (.if_icmp .le 6, 3) := by decide +kernel
theorem dX10_lotOf_13 : decode cX10_lotOf 13 = .ok (.ldc 93, 2) := by decide +kernel
theorem dX10_lotOf_15 : decode cX10_lotOf 15 = .ok (.ireturn, 1) := by decide +kernel
theorem dX10_lotOf_16 : decode cX10_lotOf 16 = .ok (.iload_n 1, 1) := by decide +kernel
theorem dX10_lotOf_17 : decode cX10_lotOf 17 = .ok (.aload_n 0, 1) := by decide +kernel
theorem dX10_lotOf_18 : decode cX10_lotOf 18 = .ok (.getfield 10, 3) := by decide +kernel
theorem dX10_lotOf_21 : decode cX10_lotOf 21 = .ok (.getfield 123, 3) := by decide +kernel
theorem dX10_lotOf_24 : decode cX10_lotOf 24 = .ok (.getfield 127, 3) := by decide +kernel
theorem dX10_lotOf_27 : decode cX10_lotOf 27 = .ok (.if_icmp .lt 6, 3) := by decide +kernel
theorem dX10_lotOf_30 : decode cX10_lotOf 30 = .ok (.ldc 94, 2) := by decide +kernel
theorem dX10_lotOf_32 : decode cX10_lotOf 32 = .ok (.ireturn, 1) := by decide +kernel
theorem dX10_lotOf_33 : decode cX10_lotOf 33 = .ok (.iload_n 2, 1) := by decide +kernel
theorem dX10_lotOf_34 : decode cX10_lotOf 34 = .ok (.ifCond .ne 18, 3) := by decide +kernel
theorem dX10_lotOf_37 : decode cX10_lotOf 37 = .ok (.aload_n 0, 1) := by decide +kernel
theorem dX10_lotOf_38 : decode cX10_lotOf 38 = .ok (.getfield 10, 3) := by decide +kernel
theorem dX10_lotOf_41 : decode cX10_lotOf 41 = .ok (.getfield 123, 3) := by decide +kernel
theorem dX10_lotOf_44 : decode cX10_lotOf 44 = .ok (.getfield 133, 3) := by decide +kernel
theorem dX10_lotOf_47 : decode cX10_lotOf 47 = .ok (.iload_n 1, 1) := by decide +kernel
theorem dX10_lotOf_48 : decode cX10_lotOf 48 = .ok (.iaload, 1) := by decide +kernel
theorem dX10_lotOf_49 : decode cX10_lotOf 49 = .ok (.goto 15, 3) := by decide +kernel
theorem dX10_lotOf_52 : decode cX10_lotOf 52 = .ok (.aload_n 0, 1) := by decide +kernel
theorem dX10_lotOf_53 : decode cX10_lotOf 53 = .ok (.getfield 10, 3) := by decide +kernel
theorem dX10_lotOf_56 : decode cX10_lotOf 56 = .ok (.getfield 123, 3) := by decide +kernel
theorem dX10_lotOf_59 : decode cX10_lotOf 59 = .ok (.getfield 136, 3) := by decide +kernel
theorem dX10_lotOf_62 : decode cX10_lotOf 62 = .ok (.iload_n 1, 1) := by decide +kernel
theorem dX10_lotOf_63 : decode cX10_lotOf 63 = .ok (.iaload, 1) := by decide +kernel
theorem dX10_lotOf_64 : decode cX10_lotOf 64 = .ok (.ireturn, 1) := by decide +kernel
theorem dX10_binOf_0 : decode cX10_binOf 0 = .ok (.aload_n 0, 1) := by decide +kernel
theorem dX10_binOf_1 : decode cX10_binOf 1 = .ok (.getfield 10, 3) := by decide +kernel
theorem dX10_binOf_4 : decode cX10_binOf 4 = .ok (.getfield 139, 3) := by decide +kernel
theorem dX10_binOf_7 : decode cX10_binOf 7 = .ok (.astore_n 3, 1) := by decide +kernel
theorem dX10_binOf_8 : decode cX10_binOf 8 = .ok (.aload_n 3, 1) := by decide +kernel
theorem dX10_binOf_9 : decode cX10_binOf 9 = .ok (.iload_n 1, 1) := by decide +kernel
theorem dX10_binOf_10 : decode cX10_binOf 10 = .ok (.invokevirtual 143, 3) := by decide +kernel
theorem dX10_binOf_13 : decode cX10_binOf 13 = .ok (.ifCond .ne 6, 3) := by decide +kernel
theorem dX10_binOf_16 : decode cX10_binOf 16 = .ok (.ldc 93, 2) := by decide +kernel
theorem dX10_binOf_18 : decode cX10_binOf 18 = .ok (.ireturn, 1) := by decide +kernel
theorem dX10_binOf_19 : decode cX10_binOf 19 = .ok (.iload_n 2, 1) := by decide +kernel
theorem dX10_binOf_20 : decode cX10_binOf 20 = .ok (.invokestatic 146, 3) := by decide +kernel
theorem dX10_binOf_23 : decode cX10_binOf 23 = .ok (.ifCond .eq 14, 3) := by decide +kernel
theorem dX10_binOf_26 : decode cX10_binOf 26 = .ok (.aload_n 3, 1) := by decide +kernel
theorem dX10_binOf_27 : decode cX10_binOf 27 = .ok (.getfield 149, 3) := by decide +kernel
theorem dX10_binOf_30 : decode cX10_binOf 30 = .ok (.iload_n 1, 1) := by decide +kernel
theorem dX10_binOf_31 : decode cX10_binOf 31 = .ok (.iconst 4, 1) := by decide +kernel
theorem dX10_binOf_32 : decode cX10_binOf 32 = .ok (.imul, 1) := by decide +kernel
theorem dX10_binOf_33 : decode cX10_binOf 33 = .ok (.iload_n 2, 1) := by decide +kernel
theorem dX10_binOf_34 : decode cX10_binOf 34 = .ok (.iadd, 1) := by decide +kernel
theorem dX10_binOf_35 : decode cX10_binOf 35 = .ok (.iaload, 1) := by decide +kernel
theorem dX10_binOf_36 : decode cX10_binOf 36 = .ok (.ireturn, 1) := by decide +kernel
theorem dX10_binOf_37 : decode cX10_binOf 37 = .ok (.iload_n 2, 1) := by decide +kernel
theorem dX10_binOf_38 : decode cX10_binOf 38 = .ok (.tableswitch 49 4 6 #[26, 32, 42], 26) := by decide +kernel
theorem dX10_binOf_64 : decode cX10_binOf 64 = .ok (.aload_n 3, 1) := by decide +kernel
theorem dX10_binOf_65 : decode cX10_binOf 65 = .ok (.iload_n 1, 1) := by decide +kernel
theorem dX10_binOf_66 : decode cX10_binOf 66 = .ok (.invokevirtual 150, 3) := by decide +kernel
theorem dX10_binOf_69 : decode cX10_binOf 69 = .ok (.ireturn, 1) := by decide +kernel
theorem dX10_binOf_70 : decode cX10_binOf 70 = .ok (.aload_n 3, 1) := by decide +kernel
theorem dX10_binOf_71 : decode cX10_binOf 71 = .ok (.getfield 153, 3) := by decide +kernel
theorem dX10_binOf_74 : decode cX10_binOf 74 = .ok (.iload_n 1, 1) := by decide +kernel
theorem dX10_binOf_75 : decode cX10_binOf 75 = .ok (.iaload, 1) := by decide +kernel
theorem dX10_binOf_76 : decode cX10_binOf 76 = .ok (.ldc 156, 2) := by decide +kernel
theorem dX10_binOf_78 : decode cX10_binOf 78 = .ok (.iadd, 1) := by decide +kernel
theorem dX10_binOf_79 : decode cX10_binOf 79 = .ok (.ireturn, 1) := by decide +kernel
theorem dX10_binOf_80 : decode cX10_binOf 80 = .ok (.aload_n 3, 1) := by decide +kernel
theorem dX10_binOf_81 : decode cX10_binOf 81 = .ok (.getfield 157, 3) := by decide +kernel
theorem dX10_binOf_84 : decode cX10_binOf 84 = .ok (.iload_n 1, 1) := by decide +kernel
theorem dX10_binOf_85 : decode cX10_binOf 85 = .ok (.iaload, 1) := by decide +kernel
theorem dX10_binOf_86 : decode cX10_binOf 86 = .ok (.ireturn, 1) := by decide +kernel
theorem dX10_binOf_87 : decode cX10_binOf 87 = .ok (.ldc 93, 2) := by decide +kernel
theorem dX10_binOf_89 : decode cX10_binOf 89 = .ok (.ireturn, 1) := by decide +kernel
theorem dX10_scale_0 : decode cX10_scale 0 = .ok (.aload_n 0, 1) := by decide +kernel
theorem dX10_scale_1 : decode cX10_scale 1 = .ok (.getfield 10, 3) := by decide +kernel
theorem dX10_scale_4 : decode cX10_scale 4 = .ok (.getfield 160, 3) := by decide +kernel
theorem dX10_scale_7 : decode cX10_scale 7 = .ok (.astore_n 2, 1) := by decide +kernel
theorem dX10_scale_8 : decode cX10_scale 8 = .ok (.iload_n 1, 1) := by decide +kernel
theorem dX10_scale_9 : decode cX10_scale 9 = .ok (.tableswitch 106 0 6 #[43, 61, 69, 77, 85, 93, 98], 43) := by decide +kernel
theorem dX10_scale_52 : decode cX10_scale 52 = .ok (.aload_n 2, 1) := by decide +kernel
theorem dX10_scale_53 : decode cX10_scale 53 = .ok (.aload_n 0, 1) := by decide +kernel
theorem dX10_scale_54 : decode cX10_scale 54 = .ok (.getfield 10, 3) := by decide +kernel
theorem dX10_scale_57 : decode cX10_scale 57 = .ok (.getfield 111, 3) := by decide +kernel
theorem dX10_scale_60 : decode cX10_scale 60 = .ok (.invokevirtual 164, 3) := by decide +kernel
theorem dX10_scale_63 : decode cX10_scale 63 = .ok (.invokevirtual 167, 3) := by decide +kernel
theorem dX10_scale_66 : decode cX10_scale 66 = .ok (.ldc 172, 2) := by decide +kernel
theorem dX10_scale_68 : decode cX10_scale 68 = .ok (.iadd, 1) := by decide +kernel
theorem dX10_scale_69 : decode cX10_scale 69 = .ok (.ireturn, 1) := by decide +kernel
theorem dX10_scale_70 : decode cX10_scale 70 = .ok (.aload_n 2, 1) := by decide +kernel
theorem dX10_scale_71 : decode cX10_scale 71 = .ok (.getfield 173, 3) := by decide +kernel
theorem dX10_scale_74 : decode cX10_scale 74 = .ok (.ldc 172, 2) := by decide +kernel
theorem dX10_scale_76 : decode cX10_scale 76 = .ok (.iadd, 1) := by decide +kernel
theorem dX10_scale_77 : decode cX10_scale 77 = .ok (.ireturn, 1) := by decide +kernel
theorem dX10_scale_78 : decode cX10_scale 78 = .ok (.aload_n 2, 1) := by decide +kernel
theorem dX10_scale_79 : decode cX10_scale 79 = .ok (.getfield 176, 3) := by decide +kernel
theorem dX10_scale_82 : decode cX10_scale 82 = .ok (.ldc 172, 2) := by decide +kernel
theorem dX10_scale_84 : decode cX10_scale 84 = .ok (.iadd, 1) := by decide +kernel
theorem dX10_scale_85 : decode cX10_scale 85 = .ok (.ireturn, 1) := by decide +kernel
theorem dX10_scale_86 : decode cX10_scale 86 = .ok (.aload_n 2, 1) := by decide +kernel
theorem dX10_scale_87 : decode cX10_scale 87 = .ok (.getfield 179, 3) := by decide +kernel
theorem dX10_scale_90 : decode cX10_scale 90 = .ok (.ldc 156, 2) := by decide +kernel
theorem dX10_scale_92 : decode cX10_scale 92 = .ok (.iadd, 1) := by decide +kernel
theorem dX10_scale_93 : decode cX10_scale 93 = .ok (.ireturn, 1) := by decide +kernel
theorem dX10_scale_94 : decode cX10_scale 94 = .ok (.aload_n 2, 1) := by decide +kernel
theorem dX10_scale_95 : decode cX10_scale 95 = .ok (.invokevirtual 182, 3) := by decide +kernel
theorem dX10_scale_98 : decode cX10_scale 98 = .ok (.ldc 156, 2) := by decide +kernel
theorem dX10_scale_100 : decode cX10_scale 100 = .ok (.iadd, 1) := by decide +kernel
theorem dX10_scale_101 : decode cX10_scale 101 = .ok (.ireturn, 1) := by decide +kernel
theorem dX10_scale_102 : decode cX10_scale 102 = .ok (.aload_n 2, 1) := by decide +kernel
theorem dX10_scale_103 : decode cX10_scale 103 = .ok (.getfield 185, 3) := by decide +kernel
theorem dX10_scale_106 : decode cX10_scale 106 = .ok (.ireturn, 1) := by decide +kernel
theorem dX10_scale_107 : decode cX10_scale 107 = .ok (.aload_n 0, 1) := by decide +kernel
theorem dX10_scale_108 : decode cX10_scale 108 = .ok (.getfield 10, 3) := by decide +kernel
theorem dX10_scale_111 : decode cX10_scale 111 = .ok (.getfield 188, 3) := by decide +kernel
theorem dX10_scale_114 : decode cX10_scale 114 = .ok (.ireturn, 1) := by decide +kernel
theorem dX10_scale_115 : decode cX10_scale 115 = .ok (.ldc 93, 2) := by decide +kernel
theorem dX10_scale_117 : decode cX10_scale 117 = .ok (.ireturn, 1) := by decide +kernel
theorem dX10_count_0 : decode cX10_count 0 = .ok (.iload_n 1, 1) := by decide +kernel
theorem dX10_count_1 : decode cX10_count 1 = .ok (.bipush 20, 2) := by decide +kernel
theorem dX10_count_3 : decode cX10_count 3 = .ok (.if_icmp .lt 36, 3) := by decide +kernel
theorem dX10_count_6 : decode cX10_count 6 = .ok (.iload_n 1, 1) := by decide +kernel
theorem dX10_count_7 : decode cX10_count 7 = .ok (.bipush 23, 2) := by decide +kernel
theorem dX10_count_9 : decode cX10_count 9 = .ok (.if_icmp .ge 30, 3) := by decide +kernel
theorem dX10_count_12 : decode cX10_count 12 = .ok (.iload_n 1, 1) := by decide +kernel
theorem dX10_count_13 : decode cX10_count 13 = .ok (.bipush 20, 2) := by decide +kernel
theorem dX10_count_15 : decode cX10_count 15 = .ok (.isub, 1) := by decide +kernel
theorem dX10_count_16 : decode cX10_count 16 = .ok (.istore_n 2, 1) := by decide +kernel
theorem dX10_count_17 : decode cX10_count 17 = .ok (.aload_n 0, 1) := by decide +kernel
theorem dX10_count_18 : decode cX10_count 18 = .ok (.getfield 10, 3) := by decide +kernel
theorem dX10_count_21 : decode cX10_count 21 = .ok (.getfield 191, 3) := by decide +kernel
theorem dX10_count_24 : decode cX10_count 24 = .ok (.iload_n 2, 1) := by decide +kernel
theorem dX10_count_25 : decode cX10_count 25 = .ok (.iaload, 1) := by decide +kernel
theorem dX10_count_26 : decode cX10_count 26 = .ok (.iload_n 2, 1) := by decide +kernel
theorem dX10_count_27 : decode cX10_count 27 = .ok (.iconst 2, 1) := by decide +kernel
theorem dX10_count_28 : decode cX10_count 28 = .ok (.if_icmp .ne 8, 3) := by decide +kernel
theorem dX10_count_31 : decode cX10_count 31 = .ok (.bipush 10, 2) := by decide +kernel
theorem dX10_count_33 : decode cX10_count 33 = .ok (.goto 4, 3) := by decide +kernel
theorem dX10_count_36 : decode cX10_count 36 = .ok (.iconst 0, 1) := by decide +kernel
theorem dX10_count_37 : decode cX10_count 37 = .ok (.iadd, 1) := by decide +kernel
theorem dX10_count_38 : decode cX10_count 38 = .ok (.ireturn, 1) := by decide +kernel
theorem dX10_count_39 : decode cX10_count 39 = .ok (.iload_n 1, 1) := by decide +kernel
theorem dX10_count_40 : decode cX10_count 40 = .ok (.bipush 30, 2) := by decide +kernel
theorem dX10_count_42 : decode cX10_count 42 = .ok (.isub, 1) := by decide +kernel
theorem dX10_count_43 : decode cX10_count 43 = .ok (.invokestatic 146, 3) := by decide +kernel
theorem dX10_count_46 : decode cX10_count 46 = .ok (.ifCond .eq 19, 3) := by decide +kernel
theorem dX10_count_49 : decode cX10_count 49 = .ok (.aload_n 0, 1) := by decide +kernel
theorem dX10_count_50 : decode cX10_count 50 = .ok (.getfield 10, 3) := by decide +kernel
theorem dX10_count_53 : decode cX10_count 53 = .ok (.getfield 77, 3) := by decide +kernel
theorem dX10_count_56 : decode cX10_count 56 = .ok (.getfield 194, 3) := by decide +kernel
theorem dX10_count_59 : decode cX10_count 59 = .ok (.iload_n 1, 1) := by decide +kernel
theorem dX10_count_60 : decode cX10_count 60 = .ok (.bipush 30, 2) := by decide +kernel
theorem dX10_count_62 : decode cX10_count 62 = .ok (.isub, 1) := by decide +kernel
theorem dX10_count_63 : decode cX10_count 63 = .ok (.iaload, 1) := by decide +kernel
theorem dX10_count_64 : decode cX10_count 64 = .ok (.ireturn, 1) := by decide +kernel
theorem dX10_count_65 : decode cX10_count 65 = .ok (.iload_n 1, 1) := by decide +kernel
theorem dX10_count_66 : decode cX10_count 66 = .ok (.tableswitch 288 0 15 #[78, 89, 97, 105, 116, 147, 170, 201, 209, 220, 231, 242, 253, 261, 272, 280], 78) := by decide +kernel
theorem dX10_count_144 : decode cX10_count 144 = .ok (.aload_n 0, 1) := by decide +kernel
theorem dX10_count_145 : decode cX10_count 145 = .ok (.getfield 10, 3) := by decide +kernel
theorem dX10_count_148 : decode cX10_count 148 = .ok (.getfield 123, 3) := by decide +kernel
theorem dX10_count_151 : decode cX10_count 151 = .ok (.getfield 127, 3) := by decide +kernel
theorem dX10_count_154 : decode cX10_count 154 = .ok (.ireturn, 1) := by decide +kernel
theorem dX10_count_155 : decode cX10_count 155 = .ok (.aload_n 0, 1) := by decide +kernel
theorem dX10_count_156 : decode cX10_count 156 = .ok (.getfield 10, 3) := by decide +kernel
theorem dX10_count_159 : decode cX10_count 159 = .ok (.getfield 197, 3) := by decide +kernel
theorem dX10_count_162 : decode cX10_count 162 = .ok (.ireturn, 1) := by decide +kernel
theorem dX10_count_163 : decode cX10_count 163 = .ok (.aload_n 0, 1) := by decide +kernel
theorem dX10_count_164 : decode cX10_count 164 = .ok (.getfield 10, 3) := by decide +kernel
theorem dX10_count_167 : decode cX10_count 167 = .ok (.getfield 200, 3) := by decide +kernel
theorem dX10_count_170 : decode cX10_count 170 = .ok (.ireturn, 1) := by decide +kernel
theorem dX10_count_171 : decode cX10_count 171 = .ok (.aload_n 0, 1) := by decide +kernel
theorem dX10_count_172 : decode cX10_count 172 = .ok (.getfield 10, 3) := by decide +kernel
theorem dX10_count_175 : decode cX10_count 175 = .ok (.getfield 139, 3) := by decide +kernel
theorem dX10_count_178 : decode cX10_count 178 = .ok (.getfield 203, 3) := by decide +kernel
theorem dX10_count_181 : decode cX10_count 181 = .ok (.ireturn, 1) := by decide +kernel
theorem dX10_count_182 : decode cX10_count 182 = .ok (.aload_n 0, 1) := by decide +kernel
theorem dX10_count_183 : decode cX10_count 183 = .ok (.getfield 10, 3) := by decide +kernel
theorem dX10_count_186 : decode cX10_count 186 = .ok (.getfield 139, 3) := by decide +kernel
theorem dX10_count_189 : decode cX10_count 189 = .ok (.getfield 203, 3) := by decide +kernel
theorem dX10_count_192 : decode cX10_count 192 = .ok (.ifCond .ne 8, 3) := by decide +kernel
theorem dX10_count_195 : decode cX10_count 195 = .ok (.ldc 94, 2) := by decide +kernel
theorem dX10_count_197 : decode cX10_count 197 = .ok (.goto 15, 3) := by decide +kernel
theorem dX10_count_200 : decode cX10_count 200 = .ok (.aload_n 0, 1) := by decide +kernel
theorem dX10_count_201 : decode cX10_count 201 = .ok (.getfield 10, 3) := by decide +kernel
theorem dX10_count_204 : decode cX10_count 204 = .ok (.getfield 139, 3) := by decide +kernel
theorem dX10_count_207 : decode cX10_count 207 = .ok (.getfield 203, 3) := by decide +kernel
theorem dX10_count_210 : decode cX10_count 210 = .ok (.iconst 1, 1) := by decide +kernel
theorem dX10_count_211 : decode cX10_count 211 = .ok (.isub, 1) := by decide +kernel
theorem dX10_count_212 : decode cX10_count 212 = .ok (.ireturn, 1) := by decide +kernel
theorem dX10_count_213 : decode cX10_count 213 = .ok (.aload_n 0, 1) := by decide +kernel
theorem dX10_count_214 : decode cX10_count 214 = .ok (.getfield 10, 3) := by decide +kernel
theorem dX10_count_217 : decode cX10_count 217 = .ok (.invokevirtual 206, 3) := by decide +kernel
theorem dX10_count_220 : decode cX10_count 220 = .ok (.ifCond .eq 13, 3) := by decide +kernel
theorem dX10_count_223 : decode cX10_count 223 = .ok (.aload_n 0, 1) := by decide +kernel
theorem dX10_count_224 : decode cX10_count 224 = .ok (.getfield 10, 3) := by decide +kernel
theorem dX10_count_227 : decode cX10_count 227 = .ok (.getfield 210, 3) := by decide +kernel
theorem dX10_count_230 : decode cX10_count 230 = .ok (.goto 5, 3) := by decide +kernel
theorem dX10_count_233 : decode cX10_count 233 = .ok (.ldc 94, 2) := by decide +kernel
theorem dX10_count_235 : decode cX10_count 235 = .ok (.ireturn, 1) := by decide +kernel
theorem dX10_count_236 : decode cX10_count 236 = .ok (.aload_n 0, 1) := by decide +kernel
theorem dX10_count_237 : decode cX10_count 237 = .ok (.getfield 10, 3) := by decide +kernel
theorem dX10_count_240 : decode cX10_count 240 = .ok (.invokevirtual 206, 3) := by decide +kernel
theorem dX10_count_243 : decode cX10_count 243 = .ok (.ifCond .eq 21, 3) := by decide +kernel
theorem dX10_count_246 : decode cX10_count 246 = .ok (.aload_n 0, 1) := by decide +kernel
theorem dX10_count_247 : decode cX10_count 247 = .ok (.getfield 10, 3) := by decide +kernel
theorem dX10_count_250 : decode cX10_count 250 = .ok (.getfield 213, 3) := by decide +kernel
theorem dX10_count_253 : decode cX10_count 253 = .ok (.ifCond .eq 7, 3) := by decide +kernel
theorem dX10_count_256 : decode cX10_count 256 = .ok (.iconst 1, 1) := by decide +kernel
theorem dX10_count_257 : decode cX10_count 257 = .ok (.goto 9, 3) := by decide +kernel
theorem dX10_count_260 : decode cX10_count 260 = .ok (.iconst 0, 1) := by decide +kernel
theorem dX10_count_261 : decode cX10_count 261 = .ok (.goto 5, 3) := by decide +kernel
theorem dX10_count_264 : decode cX10_count 264 = .ok (.ldc 94, 2) := by decide +kernel
theorem dX10_count_266 : decode cX10_count 266 = .ok (.ireturn, 1) := by decide +kernel
theorem dX10_count_267 : decode cX10_count 267 = .ok (.aload_n 0, 1) := by decide +kernel
theorem dX10_count_268 : decode cX10_count 268 = .ok (.getfield 10, 3) := by decide +kernel
theorem dX10_count_271 : decode cX10_count 271 = .ok (.getfield 217, 3) := by decide +kernel
theorem dX10_count_274 : decode cX10_count 274 = .ok (.ireturn, 1) := by decide +kernel
theorem dX10_count_275 : decode cX10_count 275 = .ok (.aload_n 0, 1) := by decide +kernel
theorem dX10_count_276 : decode cX10_count 276 = .ok (.getfield 10, 3) := by decide +kernel
theorem dX10_count_279 : decode cX10_count 279 = .ok (.getfield 111, 3) := by decide +kernel
theorem dX10_count_282 : decode cX10_count 282 = .ok (.getfield 220, 3) := by decide +kernel
theorem dX10_count_285 : decode cX10_count 285 = .ok (.ireturn, 1) := by decide +kernel
theorem dX10_count_286 : decode cX10_count 286 = .ok (.aload_n 0, 1) := by decide +kernel
theorem dX10_count_287 : decode cX10_count 287 = .ok (.getfield 10, 3) := by decide +kernel
theorem dX10_count_290 : decode cX10_count 290 = .ok (.getfield 123, 3) := by decide +kernel
theorem dX10_count_293 : decode cX10_count 293 = .ok (.invokevirtual 223, 3) := by decide +kernel
theorem dX10_count_296 : decode cX10_count 296 = .ok (.ireturn, 1) := by decide +kernel
theorem dX10_count_297 : decode cX10_count 297 = .ok (.aload_n 0, 1) := by decide +kernel
theorem dX10_count_298 : decode cX10_count 298 = .ok (.getfield 10, 3) := by decide +kernel
theorem dX10_count_301 : decode cX10_count 301 = .ok (.getfield 123, 3) := by decide +kernel
theorem dX10_count_304 : decode cX10_count 304 = .ok (.getfield 226, 3) := by decide +kernel
theorem dX10_count_307 : decode cX10_count 307 = .ok (.ireturn, 1) := by decide +kernel
theorem dX10_count_308 : decode cX10_count 308 = .ok (.aload_n 0, 1) := by decide +kernel
theorem dX10_count_309 : decode cX10_count 309 = .ok (.getfield 10, 3) := by decide +kernel
theorem dX10_count_312 : decode cX10_count 312 = .ok (.getfield 139, 3) := by decide +kernel
theorem dX10_count_315 : decode cX10_count 315 = .ok (.invokevirtual 229, 3) := by decide +kernel
theorem dX10_count_318 : decode cX10_count 318 = .ok (.ireturn, 1) := by decide +kernel
theorem dX10_count_319 : decode cX10_count 319 = .ok (.aload_n 0, 1) := by decide +kernel
theorem dX10_count_320 : decode cX10_count 320 = .ok (.getfield 10, 3) := by decide +kernel
theorem dX10_count_323 : decode cX10_count 323 = .ok (.getfield 232, 3) := by decide +kernel
theorem dX10_count_326 : decode cX10_count 326 = .ok (.ireturn, 1) := by decide +kernel
theorem dX10_count_327 : decode cX10_count 327 = .ok (.aload_n 0, 1) := by decide +kernel
theorem dX10_count_328 : decode cX10_count 328 = .ok (.getfield 10, 3) := by decide +kernel
theorem dX10_count_331 : decode cX10_count 331 = .ok (.getfield 77, 3) := by decide +kernel
theorem dX10_count_334 : decode cX10_count 334 = .ok (.getfield 235, 3) := by decide +kernel
theorem dX10_count_337 : decode cX10_count 337 = .ok (.ireturn, 1) := by decide +kernel
theorem dX10_count_338 : decode cX10_count 338 = .ok (.aload_n 0, 1) := by decide +kernel
theorem dX10_count_339 : decode cX10_count 339 = .ok (.getfield 22, 3) := by decide +kernel
theorem dX10_count_342 : decode cX10_count 342 = .ok (.getfield 236, 3) := by decide +kernel
theorem dX10_count_345 : decode cX10_count 345 = .ok (.ireturn, 1) := by decide +kernel
theorem dX10_count_346 : decode cX10_count 346 = .ok (.aload_n 0, 1) := by decide +kernel
theorem dX10_count_347 : decode cX10_count 347 = .ok (.getfield 29, 3) := by decide +kernel
theorem dX10_count_350 : decode cX10_count 350 = .ok (.getfield 239, 3) := by decide +kernel
theorem dX10_count_353 : decode cX10_count 353 = .ok (.ireturn, 1) := by decide +kernel
theorem dX10_count_354 : decode cX10_count 354 = .ok (.ldc 93, 2) := by decide +kernel
theorem dX10_count_356 : decode cX10_count 356 = .ok (.ireturn, 1) := by decide +kernel
theorem dX10_error_0 : decode cX10_error 0 = .ok (.aload_n 0, 1) := by decide +kernel
theorem dX10_error_1 : decode cX10_error 1 = .ok (.getfield 10, 3) := by decide +kernel
theorem dX10_error_4 : decode cX10_error 4 = .ok (.getfield 160, 3) := by decide +kernel
theorem dX10_error_7 : decode cX10_error 7 = .ok (.invokevirtual 182, 3) := by decide +kernel
theorem dX10_error_10 : decode cX10_error 10 = .ok (.aload_n 0, 1) := by decide +kernel
theorem dX10_error_11 : decode cX10_error 11 = .ok (.getfield 10, 3) := by decide +kernel
theorem dX10_error_14 : decode cX10_error 14 = .ok (.getfield 249, 3) := by decide +kernel
theorem dX10_error_17 : decode cX10_error 17 = .ok (.isub, 1) := by decide +kernel
theorem dX10_error_18 : decode cX10_error 18 = .ok (.ldc 156, 2) := by decide +kernel
theorem dX10_error_20 : decode cX10_error 20 = .ok (.iadd, 1) := by decide +kernel
theorem dX10_error_21 : decode cX10_error 21 = .ok (.ireturn, 1) := by decide +kernel
theorem dX10_recorded_0 : decode cX10_recorded 0 = .ok (.iload_n 1, 1) := by decide +kernel
theorem dX10_recorded_1 : decode cX10_recorded 1 = .ok (.invokestatic 279, 3) := by decide +kernel
theorem dX10_recorded_4 : decode cX10_recorded 4 = .ok (.ifCond .ne 14, 3) := by decide +kernel
theorem dX10_recorded_7 : decode cX10_recorded 7 = .ok (.aload_n 0, 1) := by decide +kernel
theorem dX10_recorded_8 : decode cX10_recorded 8 = .ok (.getfield 22, 3) := by decide +kernel
theorem dX10_recorded_11 : decode cX10_recorded 11 = .ok (.aload_n 0, 1) := by decide +kernel
theorem dX10_recorded_12 : decode cX10_recorded 12 = .ok (.getfield 16, 3) := by decide +kernel
theorem dX10_recorded_15 : decode cX10_recorded 15 = .ok (.invokevirtual 273, 3) := by decide +kernel
theorem dX10_recorded_18 : decode cX10_recorded 18 = .ok (.iload_n 1, 1) := by decide +kernel
theorem dX10_recorded_19 : decode cX10_recorded 19 = .ok (.ireturn, 1) := by decide +kernel
theorem dX10_isError_0 : decode cX10_isError 0 = .ok (.iload_n 0, 1) := by decide +kernel
theorem dX10_isError_1 : decode cX10_isError 1 = .ok (.ldc 94, 2) := by decide +kernel
theorem dX10_isError_3 : decode cX10_isError 3 = .ok (.if_icmp .lt 13, 3) := by decide +kernel
theorem dX10_isError_6 : decode cX10_isError 6 = .ok (.iload_n 0, 1) := by decide +kernel
theorem dX10_isError_7 : decode cX10_isError 7 = .ok (.ldc 93, 2) := by decide +kernel
theorem dX10_isError_9 : decode cX10_isError 9 = .ok (.if_icmp .gt 7, 3) := by decide +kernel
theorem dX10_isError_12 : decode cX10_isError 12 = .ok (.iconst 1, 1) := by decide +kernel
theorem dX10_isError_13 : decode cX10_isError 13 = .ok (.goto 4, 3) := by decide +kernel
theorem dX10_isError_16 : decode cX10_isError 16 = .ok (.iconst 0, 1) := by decide +kernel
theorem dX10_isError_17 : decode cX10_isError 17 = .ok (.ireturn, 1) := by decide +kernel
theorem dX10_isKind_0 : decode cX10_isKind 0 = .ok (.iload_n 0, 1) := by decide +kernel
theorem dX10_isKind_1 : decode cX10_isKind 1 = .ok (.ifCond .lt 12, 3) := by decide +kernel
theorem dX10_isKind_4 : decode cX10_isKind 4 = .ok (.iload_n 0, 1) := by decide +kernel
theorem dX10_isKind_5 : decode cX10_isKind 5 = .ok (.iconst 4, 1) := by decide +kernel
theorem dX10_isKind_6 : decode cX10_isKind 6 = .ok (.if_icmp .ge 7, 3) := by decide +kernel
theorem dX10_isKind_9 : decode cX10_isKind 9 = .ok (.iconst 1, 1) := by decide +kernel
theorem dX10_isKind_10 : decode cX10_isKind 10 = .ok (.goto 4, 3) := by decide +kernel
theorem dX10_isKind_13 : decode cX10_isKind 13 = .ok (.iconst 0, 1) := by decide +kernel
theorem dX10_isKind_14 : decode cX10_isKind 14 = .ok (.ireturn, 1) := by decide +kernel
theorem dX10_copyInto_0 : decode cX10_copyInto 0 = .ok (.aload_n 1, 1) := by decide +kernel
theorem dX10_copyInto_1 : decode cX10_copyInto 1 = .ok (.iconst 0, 1) := by decide +kernel
theorem dX10_copyInto_2 : decode cX10_copyInto 2 = .ok (.aload_n 0, 1) := by decide +kernel
theorem dX10_copyInto_3 : decode cX10_copyInto 3 = .ok (.iconst 0, 1) := by decide +kernel
theorem dX10_copyInto_4 : decode cX10_copyInto 4 = .ok (.aload_n 1, 1) := by decide +kernel
theorem dX10_copyInto_5 : decode cX10_copyInto 5 = .ok (.arraylength, 1) := by decide +kernel
theorem dX10_copyInto_6 : decode cX10_copyInto 6 = .ok (.aload_n 0, 1) := by decide +kernel
theorem dX10_copyInto_7 : decode cX10_copyInto 7 = .ok (.arraylength, 1) := by decide +kernel
theorem dX10_copyInto_8 : decode cX10_copyInto 8 = .ok (.invokestatic 285, 3) := by decide +kernel
theorem dX10_copyInto_11 : decode cX10_copyInto 11 = .ok (.invokestatic 290, 3) := by decide +kernel
theorem dX10_copyInto_14 : decode cX10_copyInto 14 = .ok (.return_, 1) := by decide +kernel
