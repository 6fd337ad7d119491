theorem dX11_init_0 : decode cX11_init 0 = .ok (.aload_n 0, 1) := by decide +kernel
theorem dX11_init_1 : decode cX11_init 1 = .ok (.invokespecial 1, 3) := by decide +kernel
theorem dX11_init_4 : decode cX11_init 4 = .ok (.aload_n 0, 1) := by decide +kernel
theorem dX11_init_5 : decode cX11_init 5 = .ok (.sipush 149, 3) := by decide +kernel
theorem dX11_init_8 : decode cX11_init 8 = .ok (.newarray .int, 2) := by decide +kernel
theorem dX11_init_10 : decode cX11_init 10 = .ok (.putfield 7, 3) := by decide +kernel
theorem dX11_init_13 : decode cX11_init 13 = .ok (.aload_n 0, 1) := by decide +kernel
theorem dX11_init_14 : decode cX11_init 14 = .ok (.sipush 596, 3) := by decide +kernel
theorem dX11_init_17 : decode cX11_init 17 = .ok (.newarray .int, 2) := by decide +kernel
theorem dX11_init_19 : decode cX11_init 19 = .ok (.putfield 13, 3) := by decide +kernel
theorem dX11_init_22 : decode cX11_init 22 = .ok (.aload_n 0, 1) := by decide +kernel
theorem dX11_init_23 : decode cX11_init 23 = .ok (.sipush 149, 3) := by decide +kernel
theorem dX11_init_26 : decode cX11_init 26 = .ok (.newarray .int, 2) := by decide +kernel
theorem dX11_init_28 : decode cX11_init 28 = .ok (.putfield 16, 3) := by decide +kernel
theorem dX11_init_31 : decode cX11_init 31 = .ok (.aload_n 0, 1) := by decide +kernel
theorem dX11_init_32 : decode cX11_init 32 = .ok (.sipush 149, 3) := by decide +kernel
theorem dX11_init_35 : decode cX11_init 35 = .ok (.newarray .int, 2) := by decide +kernel
theorem dX11_init_37 : decode cX11_init 37 = .ok (.putfield 19, 3) := by decide +kernel
theorem dX11_init_40 : decode cX11_init 40 = .ok (.aload_n 0, 1) := by decide +kernel
theorem dX11_init_41 : decode cX11_init 41 = .ok (.bipush 60, 2) := by decide +kernel
theorem dX11_init_43 : decode cX11_init 43 = .ok (.newarray .int, 2) := by decide +kernel
theorem dX11_init_45 : decode cX11_init 45 = .ok (.putfield 22, 3) := by decide +kernel
theorem dX11_init_48 : decode cX11_init 48 = .ok (.aload_n 0, 1) := by decide +kernel
theorem dX11_init_49 : decode cX11_init 49 = .ok (.iconst 2, 1) := by decide +kernel
theorem dX11_init_50 : decode cX11_init 50 = .ok (.newarray .int, 2) := by decide +kernel
theorem dX11_init_52 : decode cX11_init 52 = .ok (.putfield 25, 3) := by decide +kernel
theorem dX11_init_55 : decode cX11_init 55 = .ok (.aload_n 0, 1) := by decide +kernel
theorem dX11_init_56 : decode cX11_init 56 = .ok (.getfield 7, 3) := by decide +kernel
theorem dX11_init_59 : decode cX11_init 59 = .ok (.iconst 0, 1) := by decide +kernel
theorem dX11_init_60 : decode cX11_init 60 = .ok (.bipush 50, 2) := by decide +kernel
theorem dX11_init_62 : decode cX11_init 62 = .ok (.iastore, 1) := by decide +kernel
theorem dX11_init_63 : decode cX11_init 63 = .ok (.aload_n 0, 1) := by decide +kernel
theorem dX11_init_64 : decode cX11_init 64 = .ok (.getfield 7, 3) := by decide +kernel
theorem dX11_init_67 : decode cX11_init 67 = .ok (.bipush 7, 2) := by decide +kernel
theorem dX11_init_69 : decode cX11_init 69 = .ok (.sipush 1000, 3) := by decide +kernel
theorem dX11_init_72 : decode cX11_init 72 = .ok (.iastore, 1) := by decide +kernel
theorem dX11_init_73 : decode cX11_init 73 = .ok (.aload_n 0, 1) := by decide +kernel
theorem dX11_init_74 : decode cX11_init 74 = .ok (.getfield 7, 3) := by decide +kernel
theorem dX11_init_77 : decode cX11_init 77 = .ok (.bipush 14, 2) := by decide +kernel
theorem dX11_init_79 : decode cX11_init 79 = .ok (.iconst 1, 1) := by decide +kernel
theorem dX11_init_80 : decode cX11_init 80 = .ok (.iastore, 1) := by decide +kernel
theorem dX11_init_81 : decode cX11_init 81 = .ok (.aload_n 0, 1) := by decide +kernel
theorem dX11_init_82 : decode cX11_init 82 = .ok (.getfield 7, 3) := by decide +kernel
theorem dX11_init_85 : decode cX11_init 85 = .ok (.sipush 129, 3) := by decide +kernel
theorem dX11_init_88 : decode cX11_init 88 = .ok (.ldc 28, 2) := by decide +kernel
theorem dX11_init_90 : decode cX11_init 90 = .ok (.iastore, 1) := by decide +kernel
theorem dX11_init_91 : decode cX11_init 91 = .ok (.aload_n 0, 1) := by decide +kernel
theorem dX11_init_92 : decode cX11_init 92 = .ok (.getfield 7, 3) := by decide +kernel
theorem dX11_init_95 : decode cX11_init 95 = .ok (.bipush 18, 2) := by decide +kernel
theorem dX11_init_97 : decode cX11_init 97 = .ok (.bipush 120, 2) := by decide +kernel
theorem dX11_init_99 : decode cX11_init 99 = .ok (.iastore, 1) := by decide +kernel
theorem dX11_init_100 : decode cX11_init 100 = .ok (.aload_n 0, 1) := by decide +kernel
theorem dX11_init_101 : decode cX11_init 101 = .ok (.getfield 7, 3) := by decide +kernel
theorem dX11_init_104 : decode cX11_init 104 = .ok (.bipush 19, 2) := by decide +kernel
theorem dX11_init_106 : decode cX11_init 106 = .ok (.bipush 20, 2) := by decide +kernel
theorem dX11_init_108 : decode cX11_init 108 = .ok (.iastore, 1) := by decide +kernel
theorem dX11_init_109 : decode cX11_init 109 = .ok (.aload_n 0, 1) := by decide +kernel
theorem dX11_init_110 : decode cX11_init 110 = .ok (.getfield 7, 3) := by decide +kernel
theorem dX11_init_113 : decode cX11_init 113 = .ok (.bipush 20, 2) := by decide +kernel
theorem dX11_init_115 : decode cX11_init 115 = .ok (.iconst 1, 1) := by decide +kernel
theorem dX11_init_116 : decode cX11_init 116 = .ok (.iastore, 1) := by decide +kernel
theorem dX11_init_117 : decode cX11_init 117 = .ok (.return_, 1) := by decide +kernel
theorem dX11_in_0 : decode cX11_in 0 = .ok (.iload_n 0, 1) := by decide +kernel
theorem dX11_in_1 : decode cX11_in 1 = .ok (.iload_n 1, 1) := by decide +kernel
theorem dX11_in_2 : decode cX11_in 2 = .ok (.if_icmp .lt 12, 3) := by decide +kernel
theorem dX11_in_5 : decode cX11_in 5 = .ok (.iload_n 0, 1) := by decide +kernel
theorem dX11_in_6 : decode cX11_in 6 = .ok (.iload_n 2, 1) := by decide +kernel
theorem dX11_in_7 : decode cX11_in 7 = .ok (.if_icmp .gt 7, 3) := by decide +kernel
theorem dX11_in_10 : decode cX11_in 10 = .ok (.iconst 1, 1) := by decide +kernel
theorem dX11_in_11 : decode cX11_in 11 = .ok (.goto 4, 3) := by decide +kernel
theorem dX11_in_14 : decode cX11_in 14 = .ok (.iconst 0, 1) := by decide +kernel
theorem dX11_in_15 : decode cX11_in 15 = .ok (.ireturn, 1) := by decide +kernel
theorem dX11_copies_0 : decode cX11_copies 0 = .ok (.iconst 0, 1) := by decide +kernel
theorem dX11_copies_1 : decode cX11_copies 1 = .ok (.istore_n 2, 1) := by decide +kernel
theorem dX11_copies_2 : decode cX11_copies 2 = .ok (.iload_n 2, 1) := by decide +kernel
theorem dX11_copies_3 : decode cX11_copies 3 = .ok (.sipush 149, 3) := by decide +kernel
theorem dX11_copies_6 : decode cX11_copies 6 = .ok (.if_icmp .ge 15, 3) := by decide +kernel
theorem dX11_copies_9 : decode cX11_copies 9 = .ok (.aload_n 1, 1) := by decide +kernel
theorem dX11_copies_10 : decode cX11_copies 10 = .ok (.iload_n 2, 1) := by decide +kernel
theorem dX11_copies_11 : decode cX11_copies 11 = .ok (.aload_n 0, 1) := by decide +kernel
theorem dX11_copies_12 : decode cX11_copies 12 = .ok (.iload_n 2, 1) := by decide +kernel
theorem dX11_copies_13 : decode cX11_copies 13 = .ok (.iaload, 1) := by decide +kernel
theorem dX11_copies_14 : decode cX11_copies 14 = .ok (.iastore, 1) := by decide +kernel
theorem dX11_copies_15 : decode cX11_copies 15 = .ok (.iinc 2 1, 3) := by decide +kernel
theorem dX11_copies_18 : decode cX11_copies 18 = .ok (.goto (-16), 3) := by decide +kernel
theorem dX11_copies_21 : decode cX11_copies 21 = .ok (.return_, 1) := by decide +kernel
theorem dX11_changes_0 : decode cX11_changes 0 = .ok (.aload_n 0, 1) := by decide +kernel
theorem dX11_changes_1 : decode cX11_changes 1 = .ok (.getfield 29, 3) := by decide +kernel
theorem dX11_changes_4 : decode cX11_changes 4 = .ok (.ifCond .eq 4, 3) := by decide +kernel
theorem dX11_changes_7 : decode cX11_changes 7 = .ok (.return_, 1) := by decide +kernel
theorem dX11_changes_8 : decode cX11_changes 8 = .ok (.aload_n 0, 1) := by decide +kernel
theorem dX11_changes_9 : decode cX11_changes 9 = .ok (.getfield 33, 3) := by decide +kernel
theorem dX11_changes_12 : decode cX11_changes 12 = .ok (.iconst 4, 1) := by decide +kernel
theorem dX11_changes_13 : decode cX11_changes 13 = .ok (.if_icmp .ne 44, 3) := by decide +kernel
theorem dX11_changes_16 : decode cX11_changes 16 = .ok (.iconst 0, 1) := by decide +kernel
theorem dX11_changes_17 : decode cX11_changes 17 = .ok (.istore_n 1, 1) := by decide +kernel
theorem dX11_changes_18 : decode cX11_changes 18 = .ok (.iload_n 1, 1) := by decide +kernel
theorem dX11_changes_19 : decode cX11_changes 19 = .ok (.sipush 447, 3) := by decide +kernel
theorem dX11_changes_22 : decode cX11_changes 22 = .ok (.if_icmp .ge 25, 3) := by decide +kernel
theorem dX11_changes_25 : decode cX11_changes 25 = .ok (.aload_n 0, 1) := by decide +kernel
theorem dX11_changes_26 : decode cX11_changes 26 = .ok (.getfield 13, 3) := by decide +kernel
theorem dX11_changes_29 : decode cX11_changes 29 = .ok (.iload_n 1, 1) := by decide +kernel
theorem dX11_changes_30 : decode cX11_changes 30 = .ok (.aload_n 0, 1) := by decide +kernel
theorem dX11_changes_31 : decode cX11_changes 31 = .ok (.getfield 13, 3) := by decide +kernel
theorem dX11_changes_34 : decode cX11_changes 34 = .ok (.iload_n 1, 1) := by decide +kernel
theorem dX11_changes_35 : decode cX11_changes 35 = .ok (.sipush 149, 3) := by decide +kernel
theorem dX11_changes_38 : decode cX11_changes 38 = .ok (.iadd, 1) := by decide +kernel
theorem dX11_changes_39 : decode cX11_changes 39 = .ok (.iaload, 1) := by decide +kernel
theorem dX11_changes_40 : decode cX11_changes 40 = .ok (.iastore, 1) := by decide +kernel
theorem dX11_changes_41 : decode cX11_changes 41 = .ok (.iinc 1 1, 3) := by decide +kernel
theorem dX11_changes_44 : decode cX11_changes 44 = .ok (.goto (-26), 3) := by decide +kernel
theorem dX11_changes_47 : decode cX11_changes 47 = .ok (.aload_n 0, 1) := by decide +kernel
theorem dX11_changes_48 : decode cX11_changes 48 = .ok (.dup, 1) := by decide +kernel
theorem dX11_changes_49 : decode cX11_changes 49 = .ok (.getfield 33, 3) := by decide +kernel
theorem dX11_changes_52 : decode cX11_changes 52 = .ok (.iconst 1, 1) := by decide +kernel
theorem dX11_changes_53 : decode cX11_changes 53 = .ok (.isub, 1) := by decide +kernel
theorem dX11_changes_54 : decode cX11_changes 54 = .ok (.putfield 33, 3) := by decide +kernel
theorem dX11_changes_57 : decode cX11_changes 57 = .ok (.iconst 0, 1) := by decide +kernel
theorem dX11_changes_58 : decode cX11_changes 58 = .ok (.istore_n 1, 1) := by decide +kernel
theorem dX11_changes_59 : decode cX11_changes 59 = .ok (.iload_n 1, 1) := by decide +kernel
theorem dX11_changes_60 : decode cX11_changes 60 = .ok (.sipush 149, 3) := by decide +kernel
theorem dX11_changes_63 : decode cX11_changes 63 = .ok (.if_icmp .ge 30, 3) := by decide +kernel
theorem dX11_changes_66 : decode cX11_changes 66 = .ok (.aload_n 0, 1) := by decide +kernel
theorem dX11_changes_67 : decode cX11_changes 67 = .ok (.getfield 13, 3) := by decide +kernel
theorem dX11_changes_70 : decode cX11_changes 70 = .ok (.sipush 149, 3) := by decide +kernel
theorem dX11_changes_73 : decode cX11_changes 73 = .ok (.aload_n 0, 1) := by decide +kernel
theorem dX11_changes_74 : decode cX11_changes 74 = .ok (.getfield 33, 3) := by decide +kernel
theorem dX11_changes_77 : decode cX11_changes 77 = .ok (.imul, 1) := by decide +kernel
theorem dX11_changes_78 : decode cX11_changes 78 = .ok (.iload_n 1, 1) := by decide +kernel
theorem dX11_changes_79 : decode cX11_changes 79 = .ok (.iadd, 1) := by decide +kernel
theorem dX11_changes_80 : decode cX11_changes 80 = .ok (.aload_n 0, 1) := by decide +kernel
theorem dX11_changes_81 : decode cX11_changes 81 = .ok (.getfield 7, 3) := by decide +kernel
theorem dX11_changes_84 : decode cX11_changes 84 = .ok (.iload_n 1, 1) := by decide +kernel
theorem dX11_changes_85 : decode cX11_changes 85 = .ok (.iaload, 1) := by decide +kernel
theorem dX11_changes_86 : decode cX11_changes 86 = .ok (.iastore, 1) := by decide +kernel
theorem dX11_changes_87 : decode cX11_changes 87 = .ok (.iinc 1 1, 3) := by decide +kernel
theorem dX11_changes_90 : decode cX11_changes 90 = .ok (.goto (-31), 3) := by decide +kernel
theorem dX11_changes_93 : decode cX11_changes 93 = .ok (.aload_n 0, 1) := by decide +kernel
theorem dX11_changes_94 : decode cX11_changes 94 = .ok (.dup, 1) := by decide +kernel
theorem dX11_changes_95 : decode cX11_changes 95 = .ok (.getfield 33, 3) := by decide +kernel
theorem dX11_changes_98 : decode cX11_changes 98 = .ok (.iconst 1, 1) := by decide +kernel
theorem dX11_changes_99 : decode cX11_changes 99 = .ok (.iadd, 1) := by decide +kernel
theorem dX11_changes_100 : decode cX11_changes 100 = .ok (.putfield 33, 3) := by decide +kernel
theorem dX11_changes_103 : decode cX11_changes 103 = .ok (.return_, 1) := by decide +kernel
theorem dX11_hasBatch_0 : decode cX11_hasBatch 0 = .ok (.aload_n 0, 1) := by decide +kernel
theorem dX11_hasBatch_1 : decode cX11_hasBatch 1 = .ok (.getfield 7, 3) := by decide +kernel
theorem dX11_hasBatch_4 : decode cX11_hasBatch 4 = .ok (.bipush 15, 2) := by decide +kernel
theorem dX11_hasBatch_6 : decode cX11_hasBatch 6 = .ok (.iaload, 1) := by decide +kernel
theorem dX11_hasBatch_7 : decode cX11_hasBatch 7 = .ok (.ifCond .le 7, 3) := by decide +kernel
theorem dX11_hasBatch_10 : decode cX11_hasBatch 10 = .ok (.iconst 1, 1) := by decide +kernel
theorem dX11_hasBatch_11 : decode cX11_hasBatch 11 = .ok (.goto 4, 3) := by decide +kernel
theorem dX11_hasBatch_14 : decode cX11_hasBatch 14 = .ok (.iconst 0, 1) := by decide +kernel
theorem dX11_hasBatch_15 : decode cX11_hasBatch 15 = .ok (.ireturn, 1) := by decide +kernel
theorem dX11_lot_0 : decode cX11_lot 0 = .ok (.iload_n 1, 1) := by decide +kernel
theorem dX11_lot_1 : decode cX11_lot 1 = .ok (.iconst 0, 1) := by decide +kernel
theorem dX11_lot_2 : decode cX11_lot 2 = .ok (.iconst 3, 1) := by decide +kernel
theorem dX11_lot_3 : decode cX11_lot 3 = .ok (.invokestatic 37, 3) := by decide +kernel
theorem dX11_lot_6 : decode cX11_lot 6 = .ok (.ifCond .eq 14, 3) := by decide +kernel
theorem dX11_lot_9 : decode cX11_lot 9 = .ok (.iload_n 2, 1) := by decide +kernel
theorem dX11_lot_10 : decode cX11_lot 10 = .ok (.iconst 1, 1) := by decide +kernel
theorem dX11_lot_11 : decode cX11_lot 11 = .ok (.sipush 9999, 3) := by decide +kernel
theorem dX11_lot_14 : decode cX11_lot 14 = .ok (.invokestatic 37, 3) := by decide +kernel
theorem dX11_lot_17 : decode cX11_lot 17 = .ok (.ifCond .ne 6, 3) := by decide +kernel
theorem dX11_lot_20 : decode cX11_lot 20 = .ok (.ldc 41, 2) := by decide +kernel
theorem dX11_lot_22 : decode cX11_lot 22 = .ok (.ireturn, 1) := by decide +kernel
theorem dX11_lot_23 : decode cX11_lot 23 = .ok (.aload_n 0, 1) := by decide +kernel
theorem dX11_lot_24 : decode cX11_lot 24 = .ok (.getfield 7, 3) := by decide +kernel
theorem dX11_lot_27 : decode cX11_lot 27 = .ok (.bipush 13, 2) := by decide +kernel
theorem dX11_lot_29 : decode cX11_lot 29 = .ok (.iaload, 1) := by decide +kernel
theorem dX11_lot_30 : decode cX11_lot 30 = .ok (.bipush 6, 2) := by decide +kernel
theorem dX11_lot_32 : decode cX11_lot 32 = .ok (.if_icmp .ne 6, 3) := by decide +kernel
theorem dX11_lot_35 : decode cX11_lot 35 = .ok (.ldc 42, 2) := by decide +kernel
theorem dX11_lot_37 : decode cX11_lot 37 = .ok (.ireturn, 1) := by decide +kernel
theorem dX11_lot_38 : decode cX11_lot 38 = .ok (.aload_n 0, 1) := by decide +kernel
theorem dX11_lot_39 : decode cX11_lot 39 = .ok (.invokevirtual 43, 3) := by decide +kernel
theorem dX11_lot_42 : decode cX11_lot 42 = .ok (.aload_n 0, 1) := by decide +kernel
theorem dX11_lot_43 : decode cX11_lot 43 = .ok (.getfield 7, 3) := by decide +kernel
theorem dX11_lot_46 : decode cX11_lot 46 = .ok (.bipush 69, 2) := by decide +kernel
theorem dX11_lot_48 : decode cX11_lot 48 = .ok (.iconst 2, 1) := by decide +kernel
theorem dX11_lot_49 : decode cX11_lot 49 = .ok (.aload_n 0, 1) := by decide +kernel
theorem dX11_lot_50 : decode cX11_lot 50 = .ok (.getfield 7, 3) := by decide +kernel
theorem dX11_lot_53 : decode cX11_lot 53 = .ok (.bipush 13, 2) := by decide +kernel
theorem dX11_lot_55 : decode cX11_lot 55 = .ok (.iaload, 1) := by decide +kernel
theorem dX11_lot_56 : decode cX11_lot 56 = .ok (.imul, 1) := by decide +kernel
theorem dX11_lot_57 : decode cX11_lot 57 = .ok (.iadd, 1) := by decide +kernel
theorem dX11_lot_58 : decode cX11_lot 58 = .ok (.iload_n 1, 1) := by decide +kernel
theorem dX11_lot_59 : decode cX11_lot 59 = .ok (.iastore, 1) := by decide +kernel
theorem dX11_lot_60 : decode cX11_lot 60 = .ok (.aload_n 0, 1) := by decide +kernel
theorem dX11_lot_61 : decode cX11_lot 61 = .ok (.getfield 7, 3) := by decide +kernel
theorem dX11_lot_64 : decode cX11_lot 64 = .ok (.bipush 69, 2) := by decide +kernel
theorem dX11_lot_66 : decode cX11_lot 66 = .ok (.iconst 2, 1) := by decide +kernel
theorem dX11_lot_67 : decode cX11_lot 67 = .ok (.aload_n 0, 1) := by decide +kernel
theorem dX11_lot_68 : decode cX11_lot 68 = .ok (.getfield 7, 3) := by decide +kernel
theorem dX11_lot_71 : decode cX11_lot 71 = .ok (.bipush 13, 2) := by decide +kernel
theorem dX11_lot_73 : decode cX11_lot 73 = .ok (.iaload, 1) := by decide +kernel
theorem dX11_lot_74 : decode cX11_lot 74 = .ok (.imul, 1) := by decide +kernel
theorem dX11_lot_75 : decode cX11_lot 75 = .ok (.iadd, 1) := by decide +kernel
theorem dX11_lot_76 : decode cX11_lot 76 = .ok (.iconst 1, 1) := by decide +kernel
theorem dX11_lot_77 : decode cX11_lot 77 = .ok (.iadd, 1) := by decide +kernel
theorem dX11_lot_78 : decode cX11_lot 78 = .ok (.iload_n 2, 1) := by decide +kernel
theorem dX11_lot_79 : decode cX11_lot 79 = .ok (.iastore, 1) := by decide +kernel
theorem dX11_lot_80 : decode cX11_lot 80 = .ok (.aload_n 0, 1) := by decide +kernel
theorem dX11_lot_81 : decode cX11_lot 81 = .ok (.getfield 7, 3) := by decide +kernel
theorem dX11_lot_84 : decode cX11_lot 84 = .ok (.bipush 13, 2) := by decide +kernel
theorem dX11_lot_86 : decode cX11_lot 86 = .ok (.dup2, 1) := by decide +kernel
theorem dX11_lot_87 : decode cX11_lot 87 = .ok (.iaload, 1) := by decide +kernel
theorem dX11_lot_88 : decode cX11_lot 88 = .ok (.iconst 1, 1) := by decide +kernel
theorem dX11_lot_89 : decode cX11_lot 89 = .ok (.iadd, 1) := by decide +kernel
theorem dX11_lot_90 : decode cX11_lot 90 = .ok (.iastore, 1) := by decide +kernel
theorem dX11_lot_91 : decode cX11_lot 91 = .ok (.aload_n 0, 1) := by decide +kernel
theorem dX11_lot_92 : decode cX11_lot 92 = .ok (.getfield 7, 3) := by decide +kernel
theorem dX11_lot_95 : decode cX11_lot 95 = .ok (.bipush 9, 2) := by decide +kernel
theorem dX11_lot_97 : decode cX11_lot 97 = .ok (.dup2, 1) := by decide +kernel
theorem dX11_lot_98 : decode cX11_lot 98 = .ok (.iaload, 1) := by decide +kernel
theorem dX11_lot_99 : decode cX11_lot 99 = .ok (.iload_n 2, 1) := by decide +kernel
theorem dX11_lot_100 : decode cX11_lot 100 = .ok (.iadd, 1) := by decide +kernel
theorem dX11_lot_101 : decode cX11_lot 101 = .ok (.iastore, 1) := by decide +kernel
theorem dX11_lot_102 : decode cX11_lot 102 = .ok (.aload_n 0, 1) := by decide +kernel
theorem dX11_lot_103 : decode cX11_lot 103 = .ok (.getfield 7, 3) := by decide +kernel
theorem dX11_lot_106 : decode cX11_lot 106 = .ok (.bipush 13, 2) := by decide +kernel
theorem dX11_lot_108 : decode cX11_lot 108 = .ok (.iaload, 1) := by decide +kernel
theorem dX11_lot_109 : decode cX11_lot 109 = .ok (.ireturn, 1) := by decide +kernel
theorem dX11_gate_0 : decode cX11_gate 0 = .ok (.iload_n 1, 1) := by decide +kernel
theorem dX11_gate_1 : decode cX11_gate 1 = .ok (.iconst 0, 1) := by decide +kernel
theorem dX11_gate_2 : decode cX11_gate 2 = .ok (.sipush 200, 3) := by decide +kernel
theorem dX11_gate_5 : decode cX11_gate 5 = .ok (.invokestatic 37, 3) := by decide +kernel
theorem dX11_gate_8 : decode cX11_gate 8 = .ok (.ifCond .ne 6, 3) := by decide +kernel
theorem dX11_gate_11 : decode cX11_gate 11 = .ok (.ldc 41, 2) := by decide +kernel
theorem dX11_gate_13 : decode cX11_gate 13 = .ok (.ireturn, 1) := by decide +kernel
theorem dX11_gate_14 : decode cX11_gate 14 = .ok (.aload_n 0, 1) := by decide +kernel
theorem dX11_gate_15 : decode cX11_gate 15 = .ok (.invokevirtual 43, 3) := by decide +kernel
theorem dX11_gate_18 : decode cX11_gate 18 = .ok (.aload_n 0, 1) := by decide +kernel
theorem dX11_gate_19 : decode cX11_gate 19 = .ok (.getfield 7, 3) := by decide +kernel
theorem dX11_gate_22 : decode cX11_gate 22 = .ok (.iconst 0, 1) := by decide +kernel
theorem dX11_gate_23 : decode cX11_gate 23 = .ok (.iaload, 1) := by decide +kernel
theorem dX11_gate_24 : decode cX11_gate 24 = .ok (.istore_n 2, 1) := by decide +kernel
theorem dX11_gate_25 : decode cX11_gate 25 = .ok (.aload_n 0, 1) := by decide +kernel
theorem dX11_gate_26 : decode cX11_gate 26 = .ok (.getfield 7, 3) := by decide +kernel
theorem dX11_gate_29 : decode cX11_gate 29 = .ok (.iconst 0, 1) := by decide +kernel
theorem dX11_gate_30 : decode cX11_gate 30 = .ok (.iload_n 1, 1) := by decide +kernel
theorem dX11_gate_31 : decode cX11_gate 31 = .ok (.iastore, 1) := by decide +kernel
theorem dX11_gate_32 : decode cX11_gate 32 = .ok (.iload_n 2, 1) := by decide +kernel
theorem dX11_gate_33 : decode cX11_gate 33 = .ok (.ireturn, 1) := by decide +kernel
theorem dX11_run_0 : decode cX11_run 0 = .ok (.iload_n 1, 1) := by decide +kernel
theorem dX11_run_1 : decode cX11_run 1 = .ok (.iconst 0, 1) := by decide +kernel
theorem dX11_run_2 : decode cX11_run 2 = .ok (.iconst 1, 1) := by decide +kernel
theorem dX11_run_3 : decode cX11_run 3 = .ok (.invokestatic 37, 3) := by decide +kernel
theorem dX11_run_6 : decode cX11_run 6 = .ok (.ifCond .ne 6, 3) := by decide +kernel
theorem dX11_run_9 : decode cX11_run 9 = .ok (.ldc 41, 2) := by decide +kernel
theorem dX11_run_11 : decode cX11_run 11 = .ok (.ireturn, 1) := by decide +kernel
theorem dX11_run_12 : decode cX11_run 12 = .ok (.aload_n 0, 1) := by decide +kernel
theorem dX11_run_13 : decode cX11_run 13 = .ok (.invokevirtual 46, 3) := by decide +kernel
theorem dX11_run_16 : decode cX11_run 16 = .ok (.ifCond .eq 6, 3) := by decide +kernel
theorem dX11_run_19 : decode cX11_run 19 = .ok (.ldc 50, 2) := by decide +kernel
theorem dX11_run_21 : decode cX11_run 21 = .ok (.ireturn, 1) := by decide +kernel
theorem dX11_run_22 : decode cX11_run 22 = .ok (.aload_n 0, 1) := by decide +kernel
theorem dX11_run_23 : decode cX11_run 23 = .ok (.invokevirtual 43, 3) := by decide +kernel
theorem dX11_run_26 : decode cX11_run 26 = .ok (.aload_n 0, 1) := by decide +kernel
theorem dX11_run_27 : decode cX11_run 27 = .ok (.getfield 7, 3) := by decide +kernel
theorem dX11_run_30 : decode cX11_run 30 = .ok (.iconst 1, 1) := by decide +kernel
theorem dX11_run_31 : decode cX11_run 31 = .ok (.iaload, 1) := by decide +kernel
theorem dX11_run_32 : decode cX11_run 32 = .ok (.istore_n 2, 1) := by decide +kernel
theorem dX11_run_33 : decode cX11_run 33 = .ok (.aload_n 0, 1) := by decide +kernel
theorem dX11_run_34 : decode cX11_run 34 = .ok (.getfield 7, 3) := by decide +kernel
theorem dX11_run_37 : decode cX11_run 37 = .ok (.iconst 1, 1) := by decide +kernel
theorem dX11_run_38 : decode cX11_run 38 = .ok (.iload_n 1, 1) := by decide +kernel
theorem dX11_run_39 : decode cX11_run 39 = .ok (.iastore, 1) := by decide +kernel
theorem dX11_run_40 : decode cX11_run 40 = .ok (.iload_n 2, 1) := by decide +kernel
theorem dX11_run_41 : decode cX11_run 41 = .ok (.ireturn, 1) := by decide +kernel
theorem dX11_bin_0 : decode cX11_bin 0 = .ok (.aload_n 0, 1) := by decide +kernel
theorem dX11_bin_1 : decode cX11_bin 1 = .ok (.invokevirtual 46, 3) := by decide +kernel
theorem dX11_bin_4 : decode cX11_bin 4 = .ok (.ifCond .eq 6, 3) := by decide +kernel
theorem dX11_bin_7 : decode cX11_bin 7 = .ok (.ldc 50, 2) := by decide +kernel
theorem dX11_bin_9 : decode cX11_bin 9 = .ok (.ireturn, 1) := by decide +kernel
theorem dX11_bin_10 : decode cX11_bin 10 = .ok (.aload_n 0, 1) := by decide +kernel
theorem dX11_bin_11 : decode cX11_bin 11 = .ok (.getfield 7, 3) := by decide +kernel
theorem dX11_bin_14 : decode cX11_bin 14 = .ok (.bipush 12, 2) := by decide +kernel
theorem dX11_bin_16 : decode cX11_bin 16 = .ok (.iaload, 1) := by decide +kernel
theorem dX11_bin_17 : decode cX11_bin 17 = .ok (.istore_n 1, 1) := by decide +kernel
theorem dX11_bin_18 : decode cX11_bin 18 = .ok (.iload_n 1, 1) := by decide +kernel
theorem dX11_bin_19 : decode cX11_bin 19 = .ok (.bipush 8, 2) := by decide +kernel
theorem dX11_bin_21 : decode cX11_bin 21 = .ok (.if_icmp .ne 6, 3) := by decide +kernel
theorem dX11_bin_24 : decode cX11_bin 24 = .ok (.ldc 42, 2) := by decide +kernel
theorem dX11_bin_26 : decode cX11_bin 26 = .ok (.ireturn, 1) := by decide +kernel
theorem dX11_bin_27 : decode cX11_bin 27 = .ok (.aload_n 0, 1) := by decide +kernel
theorem dX11_bin_28 : decode cX11_bin 28 = .ok (.invokevirtual 43, 3) := by decide +kernel
theorem dX11_bin_31 : decode cX11_bin 31 = .ok (.iconst 0, 1) := by decide +kernel
theorem dX11_bin_32 : decode cX11_bin 32 = .ok (.istore_n 2, 1) := by decide +kernel
theorem dX11_bin_33 : decode cX11_bin 33 = .ok (.iload_n 2, 1) := by decide +kernel
theorem dX11_bin_34 : decode cX11_bin 34 = .ok (.bipush 6, 2) := by decide +kernel
theorem dX11_bin_36 : decode cX11_bin 36 = .ok (.if_icmp .ge 24, 3) := by decide +kernel
theorem dX11_bin_39 : decode cX11_bin 39 = .ok (.aload_n 0, 1) := by decide +kernel
theorem dX11_bin_40 : decode cX11_bin 40 = .ok (.getfield 7, 3) := by decide +kernel
theorem dX11_bin_43 : decode cX11_bin 43 = .ok (.bipush 81, 2) := by decide +kernel
theorem dX11_bin_45 : decode cX11_bin 45 = .ok (.bipush 6, 2) := by decide +kernel
theorem dX11_bin_47 : decode cX11_bin 47 = .ok (.iload_n 1, 1) := by decide +kernel
theorem dX11_bin_48 : decode cX11_bin 48 = .ok (.imul, 1) := by decide +kernel
theorem dX11_bin_49 : decode cX11_bin 49 = .ok (.iadd, 1) := by decide +kernel
theorem dX11_bin_50 : decode cX11_bin 50 = .ok (.iload_n 2, 1) := by decide +kernel
theorem dX11_bin_51 : decode cX11_bin 51 = .ok (.iadd, 1) := by decide +kernel
theorem dX11_bin_52 : decode cX11_bin 52 = .ok (.iconst 0, 1) := by decide +kernel
theorem dX11_bin_53 : decode cX11_bin 53 = .ok (.iastore, 1) := by decide +kernel
theorem dX11_bin_54 : decode cX11_bin 54 = .ok (.iinc 2 1, 3) := by decide +kernel
theorem dX11_bin_57 : decode cX11_bin 57 = .ok (.goto (-24), 3) := by decide +kernel
theorem dX11_bin_60 : decode cX11_bin 60 = .ok (.aload_n 0, 1) := by decide +kernel
theorem dX11_bin_61 : decode cX11_bin 61 = .ok (.getfield 7, 3) := by decide +kernel
theorem dX11_bin_64 : decode cX11_bin 64 = .ok (.bipush 12, 2) := by decide +kernel
theorem dX11_bin_66 : decode cX11_bin 66 = .ok (.dup2, 1) := by decide +kernel
theorem dX11_bin_67 : decode cX11_bin 67 = .ok (.iaload, 1) := by decide +kernel
theorem dX11_bin_68 : decode cX11_bin 68 = .ok (.iconst 1, 1) := by decide +kernel
theorem dX11_bin_69 : decode cX11_bin 69 = .ok (.iadd, 1) := by decide +kernel
theorem dX11_bin_70 : decode cX11_bin 70 = .ok (.iastore, 1) := by decide +kernel
theorem dX11_bin_71 : decode cX11_bin 71 = .ok (.iload_n 1, 1) := by decide +kernel
theorem dX11_bin_72 : decode cX11_bin 72 = .ok (.ireturn, 1) := by decide +kernel
theorem dX11_mass_0 : decode cX11_mass 0 = .ok (.iconst 0, 1) := by decide +kernel
theorem dX11_mass_1 : decode cX11_mass 1 = .ok (.istore_n 3, 1) := by decide +kernel
theorem dX11_mass_2 : decode cX11_mass 2 = .ok (.bipush 21, 2) := by decide +kernel
theorem dX11_mass_4 : decode cX11_mass 4 = .ok (.iconst 4, 1) := by decide +kernel
theorem dX11_mass_5 : decode cX11_mass 5 = .ok (.iload_n 1, 1) := by decide +kernel
theorem dX11_mass_6 : decode cX11_mass 6 = .ok (.imul, 1) := by decide +kernel
theorem dX11_mass_7 : decode cX11_mass 7 = .ok (.iadd, 1) := by decide +kernel
theorem dX11_mass_8 : decode cX11_mass 8 = .ok (.istore 4, 2) := by decide +kernel
theorem dX11_mass_10 : decode cX11_mass 10 = .ok (.iload 4, 2) := by decide +kernel
theorem dX11_mass_12 : decode cX11_mass 12 = .ok (.bipush 21, 2) := by decide +kernel
theorem dX11_mass_14 : decode cX11_mass 14 = .ok (.iconst 4, 1) := by decide +kernel
theorem dX11_mass_15 : decode cX11_mass 15 = .ok (.iload_n 2, 1) := by decide +kernel
theorem dX11_mass_16 : decode cX11_mass 16 = .ok (.imul, 1) := by decide +kernel
theorem dX11_mass_17 : decode cX11_mass 17 = .ok (.iadd, 1) := by decide +kernel
theorem dX11_mass_18 : decode cX11_mass 18 = .ok (.iconst 4, 1) := by decide +kernel
theorem dX11_mass_19 : decode cX11_mass 19 = .ok (.iadd, 1) := by decide +kernel
theorem dX11_mass_20 : decode cX11_mass 20 = .ok (.if_icmp .ge 19, 3) := by decide +kernel
theorem dX11_mass_23 : decode cX11_mass 23 = .ok (.iload_n 3, 1) := by decide +kernel
theorem dX11_mass_24 : decode cX11_mass 24 = .ok (.aload_n 0, 1) := by decide +kernel
theorem dX11_mass_25 : decode cX11_mass 25 = .ok (.getfield 7, 3) := by decide +kernel
theorem dX11_mass_28 : decode cX11_mass 28 = .ok (.iload 4, 2) := by decide +kernel
theorem dX11_mass_30 : decode cX11_mass 30 = .ok (.iaload, 1) := by decide +kernel
theorem dX11_mass_31 : decode cX11_mass 31 = .ok (.iadd, 1) := by decide +kernel
theorem dX11_mass_32 : decode cX11_mass 32 = .ok (.istore_n 3, 1) := by decide +kernel
theorem dX11_mass_33 : decode cX11_mass 33 = .ok (.iinc 4 1, 3) := by decide +kernel
theorem dX11_mass_36 : decode cX11_mass 36 = .ok (.goto (-26), 3) := by decide +kernel
theorem dX11_mass_39 : decode cX11_mass 39 = .ok (.iload_n 3, 1) := by decide +kernel
theorem dX11_mass_40 : decode cX11_mass 40 = .ok (.ireturn, 1) := by decide +kernel
theorem dX11_batch_0 : decode cX11_batch 0 = .ok (.iload_n 1, 1) := by decide +kernel
theorem dX11_batch_1 : decode cX11_batch 1 = .ok (.iconst 1, 1) := by decide +kernel
theorem dX11_batch_2 : decode cX11_batch 2 = .ok (.sipush 9999, 3) := by decide +kernel
theorem dX11_batch_5 : decode cX11_batch 5 = .ok (.invokestatic 37, 3) := by decide +kernel
theorem dX11_batch_8 : decode cX11_batch 8 = .ok (.ifCond .ne 6, 3) := by decide +kernel
theorem dX11_batch_11 : decode cX11_batch 11 = .ok (.ldc 41, 2) := by decide +kernel
theorem dX11_batch_13 : decode cX11_batch 13 = .ok (.ireturn, 1) := by decide +kernel
theorem dX11_batch_14 : decode cX11_batch 14 = .ok (.aload_n 0, 1) := by decide +kernel
theorem dX11_batch_15 : decode cX11_batch 15 = .ok (.invokevirtual 46, 3) := by decide +kernel
theorem dX11_batch_18 : decode cX11_batch 18 = .ok (.ifCond .ne 13, 3) := by decide +kernel
theorem dX11_batch_21 : decode cX11_batch 21 = .ok (.aload_n 0, 1) := by decide +kernel
theorem dX11_batch_22 : decode cX11_batch 22 = .ok (.getfield 7, 3) := by decide +kernel
theorem dX11_batch_25 : decode cX11_batch 25 = .ok (.bipush 12, 2) := by decide +kernel
theorem dX11_batch_27 : decode cX11_batch 27 = .ok (.iaload, 1) := by decide +kernel
theorem dX11_batch_28 : decode cX11_batch 28 = .ok (.ifCond .ne 6, 3) := by decide +kernel
theorem dX11_batch_31 : decode cX11_batch 31 = .ok (.ldc 50, 2) := by decide +kernel
theorem dX11_batch_33 : decode cX11_batch 33 = .ok (.ireturn, 1) := by decide +kernel
theorem dX11_batch_34 : decode cX11_batch 34 = .ok (.aload_n 0, 1) := by decide +kernel
theorem dX11_batch_35 : decode cX11_batch 35 = .ok (.invokevirtual 43, 3) := by decide +kernel
theorem dX11_batch_38 : decode cX11_batch 38 = .ok (.aload_n 0, 1) := by decide +kernel
theorem dX11_batch_39 : decode cX11_batch 39 = .ok (.getfield 7, 3) := by decide +kernel
theorem dX11_batch_42 : decode cX11_batch 42 = .ok (.bipush 15, 2) := by decide +kernel
theorem dX11_batch_44 : decode cX11_batch 44 = .ok (.iload_n 1, 1) := by decide +kernel
theorem dX11_batch_45 : decode cX11_batch 45 = .ok (.iastore, 1) := by decide +kernel
theorem dX11_batch_46 : decode cX11_batch 46 = .ok (.aload_n 0, 1) := by decide +kernel
theorem dX11_batch_47 : decode cX11_batch 47 = .ok (.getfield 7, 3) := by decide +kernel
theorem dX11_batch_50 : decode cX11_batch 50 = .ok (.bipush 16, 2) := by decide +kernel
theorem dX11_batch_52 : decode cX11_batch 52 = .ok (.iconst 0, 1) := by decide +kernel
theorem dX11_batch_53 : decode cX11_batch 53 = .ok (.iastore, 1) := by decide +kernel
theorem dX11_batch_54 : decode cX11_batch 54 = .ok (.aload_n 0, 1) := by decide +kernel
theorem dX11_batch_55 : decode cX11_batch 55 = .ok (.getfield 7, 3) := by decide +kernel
theorem dX11_batch_58 : decode cX11_batch 58 = .ok (.bipush 17, 2) := by decide +kernel
theorem dX11_batch_60 : decode cX11_batch 60 = .ok (.iconst 0, 1) := by decide +kernel
theorem dX11_batch_61 : decode cX11_batch 61 = .ok (.iastore, 1) := by decide +kernel
theorem dX11_batch_62 : decode cX11_batch 62 = .ok (.aload_n 0, 1) := by decide +kernel
theorem dX11_batch_63 : decode cX11_batch 63 = .ok (.getfield 7, 3) := by decide +kernel
theorem dX11_batch_66 : decode cX11_batch 66 = .ok (.iconst 1, 1) := by decide +kernel
theorem dX11_batch_67 : decode cX11_batch 67 = .ok (.iconst 0, 1) := by decide +kernel
theorem dX11_batch_68 : decode cX11_batch 68 = .ok (.iastore, 1) := by decide +kernel
theorem dX11_batch_69 : decode cX11_batch 69 = .ok (.aload_n 0, 1) := by decide +kernel
theorem dX11_batch_70 : decode cX11_batch 70 = .ok (.iconst 0, 1) := by decide +kernel
theorem dX11_batch_71 : decode cX11_batch 71 = .ok (.bipush 11, 2) := by decide +kernel
theorem dX11_batch_73 : decode cX11_batch 73 = .ok (.invokevirtual 51, 3) := by decide +kernel
theorem dX11_batch_76 : decode cX11_batch 76 = .ok (.ireturn, 1) := by decide +kernel
theorem dX11_falls_0 : decode cX11_falls 0 = .ok (.aload_n 0, 1) := by decide +kernel
theorem dX11_falls_1 : decode cX11_falls 1 = .ok (.bipush 11, 2) := by decide +kernel
theorem dX11_falls_3 : decode cX11_falls 3 = .ok (.bipush 11, 2) := by decide +kernel
theorem dX11_falls_5 : decode cX11_falls 5 = .ok (.invokevirtual 51, 3) := by decide +kernel
theorem dX11_falls_8 : decode cX11_falls 8 = .ok (.istore_n 1, 1) := by decide +kernel
theorem dX11_falls_9 : decode cX11_falls 9 = .ok (.aload_n 0, 1) := by decide +kernel
theorem dX11_falls_10 : decode cX11_falls 10 = .ok (.getfield 7, 3) := by decide +kernel
theorem dX11_falls_13 : decode cX11_falls 13 = .ok (.bipush 12, 2) := by decide +kernel
theorem dX11_falls_15 : decode cX11_falls 15 = .ok (.iaload, 1) := by decide +kernel
theorem dX11_falls_16 : decode cX11_falls 16 = .ok (.iconst 1, 1) := by decide +kernel
theorem dX11_falls_17 : decode cX11_falls 17 = .ok (.isub, 1) := by decide +kernel
theorem dX11_falls_18 : decode cX11_falls 18 = .ok (.istore_n 2, 1) := by decide +kernel
theorem dX11_falls_19 : decode cX11_falls 19 = .ok (.aload_n 0, 1) := by decide +kernel
theorem dX11_falls_20 : decode cX11_falls 20 = .ok (.getfield 7, 3) := by decide +kernel
theorem dX11_falls_23 : decode cX11_falls 23 = .ok (.bipush 11, 2) := by decide +kernel
theorem dX11_falls_25 : decode cX11_falls 25 = .ok (.dup2, 1) := by decide +kernel
theorem dX11_falls_26 : decode cX11_falls 26 = .ok (.iaload, 1) := by decide +kernel
theorem dX11_falls_27 : decode cX11_falls 27 = .ok (.iload_n 1, 1) := by decide +kernel
theorem dX11_falls_28 : decode cX11_falls 28 = .ok (.iadd, 1) := by decide +kernel
theorem dX11_falls_29 : decode cX11_falls 29 = .ok (.iastore, 1) := by decide +kernel
theorem dX11_falls_30 : decode cX11_falls 30 = .ok (.aload_n 0, 1) := by decide +kernel
theorem dX11_falls_31 : decode cX11_falls 31 = .ok (.getfield 7, 3) := by decide +kernel
theorem dX11_falls_34 : decode cX11_falls 34 = .ok (.bipush 10, 2) := by decide +kernel
theorem dX11_falls_36 : decode cX11_falls 36 = .ok (.dup2, 1) := by decide +kernel
theorem dX11_falls_37 : decode cX11_falls 37 = .ok (.iaload, 1) := by decide +kernel
theorem dX11_falls_38 : decode cX11_falls 38 = .ok (.iload_n 2, 1) := by decide +kernel
theorem dX11_falls_39 : decode cX11_falls 39 = .ok (.ifCond .ge 7, 3) := by decide +kernel
theorem dX11_falls_42 : decode cX11_falls 42 = .ok (.iload_n 1, 1) := by decide +kernel
theorem dX11_falls_43 : decode cX11_falls 43 = .ok (.goto 4, 3) := by decide +kernel
theorem dX11_falls_46 : decode cX11_falls 46 = .ok (.iconst 0, 1) := by decide +kernel
theorem dX11_falls_47 : decode cX11_falls 47 = .ok (.iadd, 1) := by decide +kernel
theorem dX11_falls_48 : decode cX11_falls 48 = .ok (.iastore, 1) := by decide +kernel
theorem dX11_falls_49 : decode cX11_falls 49 = .ok (.aload_n 0, 1) := by decide +kernel
theorem dX11_falls_50 : decode cX11_falls 50 = .ok (.getfield 7, 3) := by decide +kernel
theorem dX11_falls_53 : decode cX11_falls 53 = .ok (.bipush 17, 2) := by decide +kernel
theorem dX11_falls_55 : decode cX11_falls 55 = .ok (.dup2, 1) := by decide +kernel
theorem dX11_falls_56 : decode cX11_falls 56 = .ok (.iaload, 1) := by decide +kernel
theorem dX11_falls_57 : decode cX11_falls 57 = .ok (.iload_n 2, 1) := by decide +kernel
theorem dX11_falls_58 : decode cX11_falls 58 = .ok (.ifCond .ge 7, 3) := by decide +kernel
theorem dX11_falls_61 : decode cX11_falls 61 = .ok (.iconst 0, 1) := by decide +kernel
theorem dX11_falls_62 : decode cX11_falls 62 = .ok (.goto 4, 3) := by decide +kernel
theorem dX11_falls_65 : decode cX11_falls 65 = .ok (.iload_n 1, 1) := by decide +kernel
theorem dX11_falls_66 : decode cX11_falls 66 = .ok (.iadd, 1) := by decide +kernel
theorem dX11_falls_67 : decode cX11_falls 67 = .ok (.iastore, 1) := by decide +kernel
theorem dX11_falls_68 : decode cX11_falls 68 = .ok (.iconst 0, 1) := by decide +kernel
theorem dX11_falls_69 : decode cX11_falls 69 = .ok (.istore_n 3, 1) := by decide +kernel
theorem dX11_falls_70 : decode cX11_falls 70 = .ok (.iload_n 3, 1) := by decide +kernel
theorem dX11_falls_71 : decode cX11_falls 71 = .ok (.iconst 4, 1) := by decide +kernel
theorem dX11_falls_72 : decode cX11_falls 72 = .ok (.if_icmp .ge 71, 3) := by decide +kernel
theorem dX11_falls_75 : decode cX11_falls 75 = .ok (.iload_n 2, 1) := by decide +kernel
theorem dX11_falls_76 : decode cX11_falls 76 = .ok (.ifCond .lt 67, 3) := by decide +kernel
theorem dX11_falls_79 : decode cX11_falls 79 = .ok (.aload_n 0, 1) := by decide +kernel
theorem dX11_falls_80 : decode cX11_falls 80 = .ok (.getfield 7, 3) := by decide +kernel
theorem dX11_falls_83 : decode cX11_falls 83 = .ok (.bipush 65, 2) := by decide +kernel
theorem dX11_falls_85 : decode cX11_falls 85 = .ok (.iload_n 3, 1) := by decide +kernel
theorem dX11_falls_86 : decode cX11_falls 86 = .ok (.iadd, 1) := by decide +kernel
theorem dX11_falls_87 : decode cX11_falls 87 = .ok (.iaload, 1) := by decide +kernel
theorem dX11_falls_88 : decode cX11_falls 88 = .ok (.istore 4, 2) := by decide +kernel
theorem dX11_falls_90 : decode cX11_falls 90 = .ok (.aload_n 0, 1) := by decide +kernel
theorem dX11_falls_91 : decode cX11_falls 91 = .ok (.getfield 7, 3) := by decide +kernel
theorem dX11_falls_94 : decode cX11_falls 94 = .ok (.bipush 81, 2) := by decide +kernel
theorem dX11_falls_96 : decode cX11_falls 96 = .ok (.bipush 6, 2) := by decide +kernel
theorem dX11_falls_98 : decode cX11_falls 98 = .ok (.iload_n 2, 1) := by decide +kernel
theorem dX11_falls_99 : decode cX11_falls 99 = .ok (.imul, 1) := by decide +kernel
theorem dX11_falls_100 : decode cX11_falls 100 = .ok (.iadd, 1) := by decide +kernel
theorem dX11_falls_101 : decode cX11_falls 101 = .ok (.iload_n 3, 1) := by decide +kernel
theorem dX11_falls_102 : decode cX11_falls 102 = .ok (.iadd, 1) := by decide +kernel
theorem dX11_falls_103 : decode cX11_falls 103 = .ok (.dup2, 1) := by decide +kernel
theorem dX11_falls_104 : decode cX11_falls 104 = .ok (.iaload, 1) := by decide +kernel
theorem dX11_falls_105 : decode cX11_falls 105 = .ok (.iload 4, 2) := by decide +kernel
theorem dX11_falls_107 : decode cX11_falls 107 = .ok (.iadd, 1) := by decide +kernel
theorem dX11_falls_108 : decode cX11_falls 108 = .ok (.iastore, 1) := by decide +kernel
theorem dX11_falls_109 : decode cX11_falls 109 = .ok (.aload_n 0, 1) := by decide +kernel
theorem dX11_falls_110 : decode cX11_falls 110 = .ok (.getfield 7, 3) := by decide +kernel
theorem dX11_falls_113 : decode cX11_falls 113 = .ok (.sipush 129, 3) := by decide +kernel
theorem dX11_falls_116 : decode cX11_falls 116 = .ok (.iconst 2, 1) := by decide +kernel
theorem dX11_falls_117 : decode cX11_falls 117 = .ok (.aload_n 0, 1) := by decide +kernel
theorem dX11_falls_118 : decode cX11_falls 118 = .ok (.getfield 7, 3) := by decide +kernel
theorem dX11_falls_121 : decode cX11_falls 121 = .ok (.sipush 145, 3) := by decide +kernel
theorem dX11_falls_124 : decode cX11_falls 124 = .ok (.iload_n 3, 1) := by decide +kernel
theorem dX11_falls_125 : decode cX11_falls 125 = .ok (.iadd, 1) := by decide +kernel
theorem dX11_falls_126 : decode cX11_falls 126 = .ok (.iaload, 1) := by decide +kernel
theorem dX11_falls_127 : decode cX11_falls 127 = .ok (.imul, 1) := by decide +kernel
theorem dX11_falls_128 : decode cX11_falls 128 = .ok (.iadd, 1) := by decide +kernel
theorem dX11_falls_129 : decode cX11_falls 129 = .ok (.iconst 1, 1) := by decide +kernel
theorem dX11_falls_130 : decode cX11_falls 130 = .ok (.iadd, 1) := by decide +kernel
theorem dX11_falls_131 : decode cX11_falls 131 = .ok (.dup2, 1) := by decide +kernel
theorem dX11_falls_132 : decode cX11_falls 132 = .ok (.iaload, 1) := by decide +kernel
theorem dX11_falls_133 : decode cX11_falls 133 = .ok (.iload 4, 2) := by decide +kernel
theorem dX11_falls_135 : decode cX11_falls 135 = .ok (.iadd, 1) := by decide +kernel
theorem dX11_falls_136 : decode cX11_falls 136 = .ok (.iastore, 1) := by decide +kernel
theorem dX11_falls_137 : decode cX11_falls 137 = .ok (.iinc 3 1, 3) := by decide +kernel
theorem dX11_falls_140 : decode cX11_falls 140 = .ok (.goto (-70), 3) := by decide +kernel
theorem dX11_falls_143 : decode cX11_falls 143 = .ok (.iload_n 2, 1) := by decide +kernel
theorem dX11_falls_144 : decode cX11_falls 144 = .ok (.ifCond .lt 25, 3) := by decide +kernel
theorem dX11_falls_147 : decode cX11_falls 147 = .ok (.iload_n 1, 1) := by decide +kernel
theorem dX11_falls_148 : decode cX11_falls 148 = .ok (.ifCond .le 21, 3) := by decide +kernel
theorem dX11_falls_151 : decode cX11_falls 151 = .ok (.aload_n 0, 1) := by decide +kernel
theorem dX11_falls_152 : decode cX11_falls 152 = .ok (.getfield 7, 3) := by decide +kernel
theorem dX11_falls_155 : decode cX11_falls 155 = .ok (.bipush 81, 2) := by decide +kernel
theorem dX11_falls_157 : decode cX11_falls 157 = .ok (.bipush 6, 2) := by decide +kernel
theorem dX11_falls_159 : decode cX11_falls 159 = .ok (.iload_n 2, 1) := by decide +kernel
theorem dX11_falls_160 : decode cX11_falls 160 = .ok (.imul, 1) := by decide +kernel
theorem dX11_falls_161 : decode cX11_falls 161 = .ok (.iadd, 1) := by decide +kernel
theorem dX11_falls_162 : decode cX11_falls 162 = .ok (.iconst 5, 1) := by decide +kernel
theorem dX11_falls_163 : decode cX11_falls 163 = .ok (.iadd, 1) := by decide +kernel
theorem dX11_falls_164 : decode cX11_falls 164 = .ok (.dup2, 1) := by decide +kernel
theorem dX11_falls_165 : decode cX11_falls 165 = .ok (.iaload, 1) := by decide +kernel
theorem dX11_falls_166 : decode cX11_falls 166 = .ok (.iconst 1, 1) := by decide +kernel
theorem dX11_falls_167 : decode cX11_falls 167 = .ok (.iadd, 1) := by decide +kernel
theorem dX11_falls_168 : decode cX11_falls 168 = .ok (.iastore, 1) := by decide +kernel
theorem dX11_falls_169 : decode cX11_falls 169 = .ok (.return_, 1) := by decide +kernel
theorem dX11_feeds_0 : decode cX11_feeds 0 = .ok (.aload_n 0, 1) := by decide +kernel
theorem dX11_feeds_1 : decode cX11_feeds 1 = .ok (.getfield 7, 3) := by decide +kernel
theorem dX11_feeds_4 : decode cX11_feeds 4 = .ok (.iconst 0, 1) := by decide +kernel
theorem dX11_feeds_5 : decode cX11_feeds 5 = .ok (.iaload, 1) := by decide +kernel
theorem dX11_feeds_6 : decode cX11_feeds 6 = .ok (.istore_n 1, 1) := by decide +kernel
theorem dX11_feeds_7 : decode cX11_feeds 7 = .ok (.iload_n 1, 1) := by decide +kernel
theorem dX11_feeds_8 : decode cX11_feeds 8 = .ok (.ifCond .le 135, 3) := by decide +kernel
theorem dX11_feeds_11 : decode cX11_feeds 11 = .ok (.aload_n 0, 1) := by decide +kernel
theorem dX11_feeds_12 : decode cX11_feeds 12 = .ok (.getfield 7, 3) := by decide +kernel
theorem dX11_feeds_15 : decode cX11_feeds 15 = .ok (.bipush 13, 2) := by decide +kernel
theorem dX11_feeds_17 : decode cX11_feeds 17 = .ok (.iaload, 1) := by decide +kernel
theorem dX11_feeds_18 : decode cX11_feeds 18 = .ok (.ifCond .le 125, 3) := by decide +kernel
theorem dX11_feeds_21 : decode cX11_feeds 21 = .ok (.aload_n 0, 1) := by decide +kernel
theorem dX11_feeds_22 : decode cX11_feeds 22 = .ok (.getfield 7, 3) := by decide +kernel
theorem dX11_feeds_25 : decode cX11_feeds 25 = .ok (.bipush 70, 2) := by decide +kernel
theorem dX11_feeds_27 : decode cX11_feeds 27 = .ok (.iaload, 1) := by decide +kernel
theorem dX11_feeds_28 : decode cX11_feeds 28 = .ok (.iload_n 1, 1) := by decide +kernel
theorem dX11_feeds_29 : decode cX11_feeds 29 = .ok (.if_icmp .ge 13, 3) := by decide +kernel
theorem dX11_feeds_32 : decode cX11_feeds 32 = .ok (.aload_n 0, 1) := by decide +kernel
theorem dX11_feeds_33 : decode cX11_feeds 33 = .ok (.getfield 7, 3) := by decide +kernel
theorem dX11_feeds_36 : decode cX11_feeds 36 = .ok (.bipush 70, 2) := by decide +kernel
theorem dX11_feeds_38 : decode cX11_feeds 38 = .ok (.iaload, 1) := by decide +kernel
theorem dX11_feeds_39 : decode cX11_feeds 39 = .ok (.goto 4, 3) := by decide +kernel
theorem dX11_feeds_42 : decode cX11_feeds 42 = .ok (.iload_n 1, 1) := by decide +kernel
theorem dX11_feeds_43 : decode cX11_feeds 43 = .ok (.istore_n 2, 1) := by decide +kernel
theorem dX11_feeds_44 : decode cX11_feeds 44 = .ok (.aload_n 0, 1) := by decide +kernel
theorem dX11_feeds_45 : decode cX11_feeds 45 = .ok (.getfield 7, 3) := by decide +kernel
theorem dX11_feeds_48 : decode cX11_feeds 48 = .ok (.bipush 21, 2) := by decide +kernel
theorem dX11_feeds_50 : decode cX11_feeds 50 = .ok (.aload_n 0, 1) := by decide +kernel
theorem dX11_feeds_51 : decode cX11_feeds 51 = .ok (.getfield 7, 3) := by decide +kernel
theorem dX11_feeds_54 : decode cX11_feeds 54 = .ok (.bipush 69, 2) := by decide +kernel
theorem dX11_feeds_56 : decode cX11_feeds 56 = .ok (.iaload, 1) := by decide +kernel
theorem dX11_feeds_57 : decode cX11_feeds 57 = .ok (.iadd, 1) := by decide +kernel
theorem dX11_feeds_58 : decode cX11_feeds 58 = .ok (.dup2, 1) := by decide +kernel
theorem dX11_feeds_59 : decode cX11_feeds 59 = .ok (.iaload, 1) := by decide +kernel
theorem dX11_feeds_60 : decode cX11_feeds 60 = .ok (.iload_n 2, 1) := by decide +kernel
theorem dX11_feeds_61 : decode cX11_feeds 61 = .ok (.iadd, 1) := by decide +kernel
theorem dX11_feeds_62 : decode cX11_feeds 62 = .ok (.iastore, 1) := by decide +kernel
theorem dX11_feeds_63 : decode cX11_feeds 63 = .ok (.aload_n 0, 1) := by decide +kernel
theorem dX11_feeds_64 : decode cX11_feeds 64 = .ok (.getfield 7, 3) := by decide +kernel
theorem dX11_feeds_67 : decode cX11_feeds 67 = .ok (.bipush 70, 2) := by decide +kernel
theorem dX11_feeds_69 : decode cX11_feeds 69 = .ok (.dup2, 1) := by decide +kernel
theorem dX11_feeds_70 : decode cX11_feeds 70 = .ok (.iaload, 1) := by decide +kernel
theorem dX11_feeds_71 : decode cX11_feeds 71 = .ok (.iload_n 2, 1) := by decide +kernel
theorem dX11_feeds_72 : decode cX11_feeds 72 = .ok (.isub, 1) := by decide +kernel
theorem dX11_feeds_73 : decode cX11_feeds 73 = .ok (.iastore, 1) := by decide +kernel
theorem dX11_feeds_74 : decode cX11_feeds 74 = .ok (.iload_n 1, 1) := by decide +kernel
theorem dX11_feeds_75 : decode cX11_feeds 75 = .ok (.iload_n 2, 1) := by decide +kernel
theorem dX11_feeds_76 : decode cX11_feeds 76 = .ok (.isub, 1) := by decide +kernel
theorem dX11_feeds_77 : decode cX11_feeds 77 = .ok (.istore_n 1, 1) := by decide +kernel
theorem dX11_feeds_78 : decode cX11_feeds 78 = .ok (.aload_n 0, 1) := by decide +kernel
theorem dX11_feeds_79 : decode cX11_feeds 79 = .ok (.getfield 7, 3) := by decide +kernel
theorem dX11_feeds_82 : decode cX11_feeds 82 = .ok (.bipush 70, 2) := by decide +kernel
theorem dX11_feeds_84 : decode cX11_feeds 84 = .ok (.iaload, 1) := by decide +kernel
theorem dX11_feeds_85 : decode cX11_feeds 85 = .ok (.ifCond .ne 55, 3) := by decide +kernel
theorem dX11_feeds_88 : decode cX11_feeds 88 = .ok (.aload_n 0, 1) := by decide +kernel
theorem dX11_feeds_89 : decode cX11_feeds 89 = .ok (.getfield 7, 3) := by decide +kernel
theorem dX11_feeds_92 : decode cX11_feeds 92 = .ok (.bipush 13, 2) := by decide +kernel
theorem dX11_feeds_94 : decode cX11_feeds 94 = .ok (.dup2, 1) := by decide +kernel
theorem dX11_feeds_95 : decode cX11_feeds 95 = .ok (.iaload, 1) := by decide +kernel
theorem dX11_feeds_96 : decode cX11_feeds 96 = .ok (.iconst 1, 1) := by decide +kernel
theorem dX11_feeds_97 : decode cX11_feeds 97 = .ok (.isub, 1) := by decide +kernel
theorem dX11_feeds_98 : decode cX11_feeds 98 = .ok (.iastore, 1) := by decide +kernel
theorem dX11_feeds_99 : decode cX11_feeds 99 = .ok (.iconst 0, 1) := by decide +kernel
theorem dX11_feeds_100 : decode cX11_feeds 100 = .ok (.istore_n 3, 1) := by decide +kernel
theorem dX11_feeds_101 : decode cX11_feeds 101 = .ok (.iload_n 3, 1) := by decide +kernel
theorem dX11_feeds_102 : decode cX11_feeds 102 = .ok (.iconst 2, 1) := by decide +kernel
theorem dX11_feeds_103 : decode cX11_feeds 103 = .ok (.aload_n 0, 1) := by decide +kernel
theorem dX11_feeds_104 : decode cX11_feeds 104 = .ok (.getfield 7, 3) := by decide +kernel
theorem dX11_feeds_107 : decode cX11_feeds 107 = .ok (.bipush 13, 2) := by decide +kernel
theorem dX11_feeds_109 : decode cX11_feeds 109 = .ok (.iaload, 1) := by decide +kernel
theorem dX11_feeds_110 : decode cX11_feeds 110 = .ok (.imul, 1) := by decide +kernel
theorem dX11_feeds_111 : decode cX11_feeds 111 = .ok (.if_icmp .ge 29, 3) := by decide +kernel
theorem dX11_feeds_114 : decode cX11_feeds 114 = .ok (.aload_n 0, 1) := by decide +kernel
theorem dX11_feeds_115 : decode cX11_feeds 115 = .ok (.getfield 7, 3) := by decide +kernel
theorem dX11_feeds_118 : decode cX11_feeds 118 = .ok (.bipush 69, 2) := by decide +kernel
theorem dX11_feeds_120 : decode cX11_feeds 120 = .ok (.iload_n 3, 1) := by decide +kernel
theorem dX11_feeds_121 : decode cX11_feeds 121 = .ok (.iadd, 1) := by decide +kernel
theorem dX11_feeds_122 : decode cX11_feeds 122 = .ok (.aload_n 0, 1) := by decide +kernel
theorem dX11_feeds_123 : decode cX11_feeds 123 = .ok (.getfield 7, 3) := by decide +kernel
theorem dX11_feeds_126 : decode cX11_feeds 126 = .ok (.bipush 69, 2) := by decide +kernel
theorem dX11_feeds_128 : decode cX11_feeds 128 = .ok (.iload_n 3, 1) := by decide +kernel
theorem dX11_feeds_129 : decode cX11_feeds 129 = .ok (.iadd, 1) := by decide +kernel
theorem dX11_feeds_130 : decode cX11_feeds 130 = .ok (.iconst 2, 1) := by decide +kernel
theorem dX11_feeds_131 : decode cX11_feeds 131 = .ok (.iadd, 1) := by decide +kernel
theorem dX11_feeds_132 : decode cX11_feeds 132 = .ok (.iaload, 1) := by decide +kernel
theorem dX11_feeds_133 : decode cX11_feeds 133 = .ok (.iastore, 1) := by decide +kernel
theorem dX11_feeds_134 : decode cX11_feeds 134 = .ok (.iinc 3 1, 3) := by decide +kernel
theorem dX11_feeds_137 : decode cX11_feeds 137 = .ok (.goto (-36), 3) := by decide +kernel
theorem dX11_feeds_140 : decode cX11_feeds 140 = .ok (.goto (-133), 3) := by decide +kernel
theorem dX11_feeds_143 : decode cX11_feeds 143 = .ok (.aload_n 0, 1) := by decide +kernel
theorem dX11_feeds_144 : decode cX11_feeds 144 = .ok (.iconst 0, 1) := by decide +kernel
theorem dX11_feeds_145 : decode cX11_feeds 145 = .ok (.iconst 0, 1) := by decide +kernel
theorem dX11_feeds_146 : decode cX11_feeds 146 = .ok (.invokevirtual 51, 3) := by decide +kernel
theorem dX11_feeds_149 : decode cX11_feeds 149 = .ok (.aload_n 0, 1) := by decide +kernel
theorem dX11_feeds_150 : decode cX11_feeds 150 = .ok (.getfield 7, 3) := by decide +kernel
theorem dX11_feeds_153 : decode cX11_feeds 153 = .ok (.bipush 18, 2) := by decide +kernel
theorem dX11_feeds_155 : decode cX11_feeds 155 = .ok (.iaload, 1) := by decide +kernel
theorem dX11_feeds_156 : decode cX11_feeds 156 = .ok (.isub, 1) := by decide +kernel
theorem dX11_feeds_157 : decode cX11_feeds 157 = .ok (.istore_n 2, 1) := by decide +kernel
theorem dX11_feeds_158 : decode cX11_feeds 158 = .ok (.iconst 3, 1) := by decide +kernel
theorem dX11_feeds_159 : decode cX11_feeds 159 = .ok (.istore_n 3, 1) := by decide +kernel
theorem dX11_feeds_160 : decode cX11_feeds 160 = .ok (.iload_n 3, 1) := by decide +kernel
theorem dX11_feeds_161 : decode cX11_feeds 161 = .ok (.ifCond .lt 72, 3) := by decide +kernel
theorem dX11_feeds_164 : decode cX11_feeds 164 = .ok (.iload_n 2, 1) := by decide +kernel
theorem dX11_feeds_165 : decode cX11_feeds 165 = .ok (.ifCond .le 68, 3) := by decide +kernel
theorem dX11_feeds_168 : decode cX11_feeds 168 = .ok (.aload_n 0, 1) := by decide +kernel
theorem dX11_feeds_169 : decode cX11_feeds 169 = .ok (.getfield 7, 3) := by decide +kernel
theorem dX11_feeds_172 : decode cX11_feeds 172 = .ok (.bipush 21, 2) := by decide +kernel
theorem dX11_feeds_174 : decode cX11_feeds 174 = .ok (.iload_n 3, 1) := by decide +kernel
theorem dX11_feeds_175 : decode cX11_feeds 175 = .ok (.iadd, 1) := by decide +kernel
theorem dX11_feeds_176 : decode cX11_feeds 176 = .ok (.iaload, 1) := by decide +kernel
theorem dX11_feeds_177 : decode cX11_feeds 177 = .ok (.iload_n 2, 1) := by decide +kernel
theorem dX11_feeds_178 : decode cX11_feeds 178 = .ok (.if_icmp .ge 15, 3) := by decide +kernel
theorem dX11_feeds_181 : decode cX11_feeds 181 = .ok (.aload_n 0, 1) := by decide +kernel
theorem dX11_feeds_182 : decode cX11_feeds 182 = .ok (.getfield 7, 3) := by decide +kernel
theorem dX11_feeds_185 : decode cX11_feeds 185 = .ok (.bipush 21, 2) := by decide +kernel
theorem dX11_feeds_187 : decode cX11_feeds 187 = .ok (.iload_n 3, 1) := by decide +kernel
theorem dX11_feeds_188 : decode cX11_feeds 188 = .ok (.iadd, 1) := by decide +kernel
theorem dX11_feeds_189 : decode cX11_feeds 189 = .ok (.iaload, 1) := by decide +kernel
theorem dX11_feeds_190 : decode cX11_feeds 190 = .ok (.goto 4, 3) := by decide +kernel
theorem dX11_feeds_193 : decode cX11_feeds 193 = .ok (.iload_n 2, 1) := by decide +kernel
theorem dX11_feeds_194 : decode cX11_feeds 194 = .ok (.istore 4, 2) := by decide +kernel
theorem dX11_feeds_196 : decode cX11_feeds 196 = .ok (.aload_n 0, 1) := by decide +kernel
theorem dX11_feeds_197 : decode cX11_feeds 197 = .ok (.getfield 7, 3) := by decide +kernel
theorem dX11_feeds_200 : decode cX11_feeds 200 = .ok (.bipush 21, 2) := by decide +kernel
theorem dX11_feeds_202 : decode cX11_feeds 202 = .ok (.iload_n 3, 1) := by decide +kernel
theorem dX11_feeds_203 : decode cX11_feeds 203 = .ok (.iadd, 1) := by decide +kernel
theorem dX11_feeds_204 : decode cX11_feeds 204 = .ok (.dup2, 1) := by decide +kernel
theorem dX11_feeds_205 : decode cX11_feeds 205 = .ok (.iaload, 1) := by decide +kernel
theorem dX11_feeds_206 : decode cX11_feeds 206 = .ok (.iload 4, 2) := by decide +kernel
theorem dX11_feeds_208 : decode cX11_feeds 208 = .ok (.isub, 1) := by decide +kernel
theorem dX11_feeds_209 : decode cX11_feeds 209 = .ok (.iastore, 1) := by decide +kernel
theorem dX11_feeds_210 : decode cX11_feeds 210 = .ok (.aload_n 0, 1) := by decide +kernel
theorem dX11_feeds_211 : decode cX11_feeds 211 = .ok (.getfield 7, 3) := by decide +kernel
theorem dX11_feeds_214 : decode cX11_feeds 214 = .ok (.bipush 10, 2) := by decide +kernel
theorem dX11_feeds_216 : decode cX11_feeds 216 = .ok (.dup2, 1) := by decide +kernel
theorem dX11_feeds_217 : decode cX11_feeds 217 = .ok (.iaload, 1) := by decide +kernel
theorem dX11_feeds_218 : decode cX11_feeds 218 = .ok (.iload 4, 2) := by decide +kernel
theorem dX11_feeds_220 : decode cX11_feeds 220 = .ok (.iadd, 1) := by decide +kernel
theorem dX11_feeds_221 : decode cX11_feeds 221 = .ok (.iastore, 1) := by decide +kernel
theorem dX11_feeds_222 : decode cX11_feeds 222 = .ok (.iload_n 2, 1) := by decide +kernel
theorem dX11_feeds_223 : decode cX11_feeds 223 = .ok (.iload 4, 2) := by decide +kernel
theorem dX11_feeds_225 : decode cX11_feeds 225 = .ok (.isub, 1) := by decide +kernel
theorem dX11_feeds_226 : decode cX11_feeds 226 = .ok (.istore_n 2, 1) := by decide +kernel
theorem dX11_feeds_227 : decode cX11_feeds 227 = .ok (.iinc 3 (-1), 3) := by decide +kernel
theorem dX11_feeds_230 : decode cX11_feeds 230 = .ok (.goto (-70), 3) := by decide +kernel
theorem dX11_feeds_233 : decode cX11_feeds 233 = .ok (.return_, 1) := by decide +kernel
theorem dX11_reading_0 : decode cX11_reading 0 = .ok (.aload_n 0, 1) := by decide +kernel
theorem dX11_reading_1 : decode cX11_reading 1 = .ok (.iconst 4, 1) := by decide +kernel
theorem dX11_reading_2 : decode cX11_reading 2 = .ok (.bipush 7, 2) := by decide +kernel
theorem dX11_reading_4 : decode cX11_reading 4 = .ok (.invokevirtual 51, 3) := by decide +kernel
theorem dX11_reading_7 : decode cX11_reading 7 = .ok (.aload_n 0, 1) := by decide +kernel
theorem dX11_reading_8 : decode cX11_reading 8 = .ok (.getfield 7, 3) := by decide +kernel
theorem dX11_reading_11 : decode cX11_reading 11 = .ok (.iconst 3, 1) := by decide +kernel
theorem dX11_reading_12 : decode cX11_reading 12 = .ok (.iaload, 1) := by decide +kernel
theorem dX11_reading_13 : decode cX11_reading 13 = .ok (.iadd, 1) := by decide +kernel
theorem dX11_reading_14 : decode cX11_reading 14 = .ok (.aload_n 0, 1) := by decide +kernel
theorem dX11_reading_15 : decode cX11_reading 15 = .ok (.getfield 7, 3) := by decide +kernel
theorem dX11_reading_18 : decode cX11_reading 18 = .ok (.iconst 4, 1) := by decide +kernel
theorem dX11_reading_19 : decode cX11_reading 19 = .ok (.iaload, 1) := by decide +kernel
theorem dX11_reading_20 : decode cX11_reading 20 = .ok (.isub, 1) := by decide +kernel
theorem dX11_reading_21 : decode cX11_reading 21 = .ok (.ireturn, 1) := by decide +kernel
theorem dX11_reads_0 : decode cX11_reads 0 = .ok (.aload_n 0, 1) := by decide +kernel
theorem dX11_reads_1 : decode cX11_reads 1 = .ok (.invokevirtual 55, 3) := by decide +kernel
theorem dX11_reads_4 : decode cX11_reads 4 = .ok (.aload_n 0, 1) := by decide +kernel
theorem dX11_reads_5 : decode cX11_reads 5 = .ok (.getfield 7, 3) := by decide +kernel
theorem dX11_reads_8 : decode cX11_reads 8 = .ok (.bipush 6, 2) := by decide +kernel
theorem dX11_reads_10 : decode cX11_reads 10 = .ok (.iaload, 1) := by decide +kernel
theorem dX11_reads_11 : decode cX11_reads 11 = .ok (.iadd, 1) := by decide +kernel
theorem dX11_reads_12 : decode cX11_reads 12 = .ok (.istore_n 1, 1) := by decide +kernel
theorem dX11_reads_13 : decode cX11_reads 13 = .ok (.aload_n 0, 1) := by decide +kernel
theorem dX11_reads_14 : decode cX11_reads 14 = .ok (.getfield 7, 3) := by decide +kernel
theorem dX11_reads_17 : decode cX11_reads 17 = .ok (.iconst 5, 1) := by decide +kernel
theorem dX11_reads_18 : decode cX11_reads 18 = .ok (.dup2, 1) := by decide +kernel
theorem dX11_reads_19 : decode cX11_reads 19 = .ok (.iaload, 1) := by decide +kernel
theorem dX11_reads_20 : decode cX11_reads 20 = .ok (.iload_n 1, 1) := by decide +kernel
theorem dX11_reads_21 : decode cX11_reads 21 = .ok (.iconst 4, 1) := by decide +kernel
theorem dX11_reads_22 : decode cX11_reads 22 = .ok (.idiv, 1) := by decide +kernel
theorem dX11_reads_23 : decode cX11_reads 23 = .ok (.iadd, 1) := by decide +kernel
theorem dX11_reads_24 : decode cX11_reads 24 = .ok (.iastore, 1) := by decide +kernel
theorem dX11_reads_25 : decode cX11_reads 25 = .ok (.aload_n 0, 1) := by decide +kernel
theorem dX11_reads_26 : decode cX11_reads 26 = .ok (.getfield 7, 3) := by decide +kernel
theorem dX11_reads_29 : decode cX11_reads 29 = .ok (.bipush 6, 2) := by decide +kernel
theorem dX11_reads_31 : decode cX11_reads 31 = .ok (.iload_n 1, 1) := by decide +kernel
theorem dX11_reads_32 : decode cX11_reads 32 = .ok (.iconst 4, 1) := by decide +kernel
theorem dX11_reads_33 : decode cX11_reads 33 = .ok (.irem, 1) := by decide +kernel
theorem dX11_reads_34 : decode cX11_reads 34 = .ok (.iastore, 1) := by decide +kernel
theorem dX11_reads_35 : decode cX11_reads 35 = .ok (.aload_n 0, 1) := by decide +kernel
theorem dX11_reads_36 : decode cX11_reads 36 = .ok (.getfield 7, 3) := by decide +kernel
theorem dX11_reads_39 : decode cX11_reads 39 = .ok (.bipush 12, 2) := by decide +kernel
theorem dX11_reads_41 : decode cX11_reads 41 = .ok (.iaload, 1) := by decide +kernel
theorem dX11_reads_42 : decode cX11_reads 42 = .ok (.ifCond .le 31, 3) := by decide +kernel
theorem dX11_reads_45 : decode cX11_reads 45 = .ok (.aload_n 0, 1) := by decide +kernel
theorem dX11_reads_46 : decode cX11_reads 46 = .ok (.getfield 7, 3) := by decide +kernel
theorem dX11_reads_49 : decode cX11_reads 49 = .ok (.bipush 81, 2) := by decide +kernel
theorem dX11_reads_51 : decode cX11_reads 51 = .ok (.bipush 6, 2) := by decide +kernel
theorem dX11_reads_53 : decode cX11_reads 53 = .ok (.aload_n 0, 1) := by decide +kernel
theorem dX11_reads_54 : decode cX11_reads 54 = .ok (.getfield 7, 3) := by decide +kernel
theorem dX11_reads_57 : decode cX11_reads 57 = .ok (.bipush 12, 2) := by decide +kernel
theorem dX11_reads_59 : decode cX11_reads 59 = .ok (.iaload, 1) := by decide +kernel
theorem dX11_reads_60 : decode cX11_reads 60 = .ok (.iconst 1, 1) := by decide +kernel
theorem dX11_reads_61 : decode cX11_reads 61 = .ok (.isub, 1) := by decide +kernel
theorem dX11_reads_62 : decode cX11_reads 62 = .ok (.imul, 1) := by decide +kernel
theorem dX11_reads_63 : decode cX11_reads 63 = .ok (.iadd, 1) := by decide +kernel
theorem dX11_reads_64 : decode cX11_reads 64 = .ok (.iconst 4, 1) := by decide +kernel
theorem dX11_reads_65 : decode cX11_reads 65 = .ok (.iadd, 1) := by decide +kernel
theorem dX11_reads_66 : decode cX11_reads 66 = .ok (.dup2, 1) := by decide +kernel
theorem dX11_reads_67 : decode cX11_reads 67 = .ok (.iaload, 1) := by decide +kernel
theorem dX11_reads_68 : decode cX11_reads 68 = .ok (.iload_n 1, 1) := by decide +kernel
theorem dX11_reads_69 : decode cX11_reads 69 = .ok (.iconst 4, 1) := by decide +kernel
theorem dX11_reads_70 : decode cX11_reads 70 = .ok (.idiv, 1) := by decide +kernel
theorem dX11_reads_71 : decode cX11_reads 71 = .ok (.iadd, 1) := by decide +kernel
theorem dX11_reads_72 : decode cX11_reads 72 = .ok (.iastore, 1) := by decide +kernel
theorem dX11_reads_73 : decode cX11_reads 73 = .ok (.return_, 1) := by decide +kernel
theorem dX11_goes_0 : decode cX11_goes 0 = .ok (.aload_n 0, 1) := by decide +kernel
theorem dX11_goes_1 : decode cX11_goes 1 = .ok (.invokevirtual 59, 3) := by decide +kernel
theorem dX11_goes_4 : decode cX11_goes 4 = .ok (.bipush 68, 2) := by decide +kernel
theorem dX11_goes_6 : decode cX11_goes 6 = .ok (.istore_n 1, 1) := by decide +kernel
theorem dX11_goes_7 : decode cX11_goes 7 = .ok (.iload_n 1, 1) := by decide +kernel
theorem dX11_goes_8 : decode cX11_goes 8 = .ok (.bipush 25, 2) := by decide +kernel
theorem dX11_goes_10 : decode cX11_goes 10 = .ok (.if_icmp .lt 23, 3) := by decide +kernel
theorem dX11_goes_13 : decode cX11_goes 13 = .ok (.aload_n 0, 1) := by decide +kernel
theorem dX11_goes_14 : decode cX11_goes 14 = .ok (.getfield 7, 3) := by decide +kernel
theorem dX11_goes_17 : decode cX11_goes 17 = .ok (.iload_n 1, 1) := by decide +kernel
theorem dX11_goes_18 : decode cX11_goes 18 = .ok (.aload_n 0, 1) := by decide +kernel
theorem dX11_goes_19 : decode cX11_goes 19 = .ok (.getfield 7, 3) := by decide +kernel
theorem dX11_goes_22 : decode cX11_goes 22 = .ok (.iload_n 1, 1) := by decide +kernel
theorem dX11_goes_23 : decode cX11_goes 23 = .ok (.iconst 4, 1) := by decide +kernel
theorem dX11_goes_24 : decode cX11_goes 24 = .ok (.isub, 1) := by decide +kernel
theorem dX11_goes_25 : decode cX11_goes 25 = .ok (.iaload, 1) := by decide +kernel
theorem dX11_goes_26 : decode cX11_goes 26 = .ok (.iastore, 1) := by decide +kernel
theorem dX11_goes_27 : decode cX11_goes 27 = .ok (.iinc 1 (-1), 3) := by decide +kernel
theorem dX11_goes_30 : decode cX11_goes 30 = .ok (.goto (-23), 3) := by decide +kernel
theorem dX11_goes_33 : decode cX11_goes 33 = .ok (.iconst 0, 1) := by decide +kernel
theorem dX11_goes_34 : decode cX11_goes 34 = .ok (.istore_n 1, 1) := by decide +kernel
theorem dX11_goes_35 : decode cX11_goes 35 = .ok (.iload_n 1, 1) := by decide +kernel
theorem dX11_goes_36 : decode cX11_goes 36 = .ok (.iconst 4, 1) := by decide +kernel
theorem dX11_goes_37 : decode cX11_goes 37 = .ok (.if_icmp .ge 19, 3) := by decide +kernel
theorem dX11_goes_40 : decode cX11_goes 40 = .ok (.aload_n 0, 1) := by decide +kernel
theorem dX11_goes_41 : decode cX11_goes 41 = .ok (.getfield 7, 3) := by decide +kernel
theorem dX11_goes_44 : decode cX11_goes 44 = .ok (.bipush 21, 2) := by decide +kernel
theorem dX11_goes_46 : decode cX11_goes 46 = .ok (.iload_n 1, 1) := by decide +kernel
theorem dX11_goes_47 : decode cX11_goes 47 = .ok (.iadd, 1) := by decide +kernel
theorem dX11_goes_48 : decode cX11_goes 48 = .ok (.iconst 0, 1) := by decide +kernel
theorem dX11_goes_49 : decode cX11_goes 49 = .ok (.iastore, 1) := by decide +kernel
theorem dX11_goes_50 : decode cX11_goes 50 = .ok (.iinc 1 1, 3) := by decide +kernel
theorem dX11_goes_53 : decode cX11_goes 53 = .ok (.goto (-18), 3) := by decide +kernel
theorem dX11_goes_56 : decode cX11_goes 56 = .ok (.aload_n 0, 1) := by decide +kernel
theorem dX11_goes_57 : decode cX11_goes 57 = .ok (.invokevirtual 46, 3) := by decide +kernel
theorem dX11_goes_60 : decode cX11_goes 60 = .ok (.ifCond .eq 13, 3) := by decide +kernel
theorem dX11_goes_63 : decode cX11_goes 63 = .ok (.aload_n 0, 1) := by decide +kernel
theorem dX11_goes_64 : decode cX11_goes 64 = .ok (.getfield 7, 3) := by decide +kernel
theorem dX11_goes_67 : decode cX11_goes 67 = .ok (.bipush 16, 2) := by decide +kernel
theorem dX11_goes_69 : decode cX11_goes 69 = .ok (.iaload, 1) := by decide +kernel
theorem dX11_goes_70 : decode cX11_goes 70 = .ok (.ifCond .ne 7, 3) := by decide +kernel
theorem dX11_goes_73 : decode cX11_goes 73 = .ok (.aload_n 0, 1) := by decide +kernel
theorem dX11_goes_74 : decode cX11_goes 74 = .ok (.invokevirtual 62, 3) := by decide +kernel
theorem dX11_goes_77 : decode cX11_goes 77 = .ok (.aload_n 0, 1) := by decide +kernel
theorem dX11_goes_78 : decode cX11_goes 78 = .ok (.invokevirtual 65, 3) := by decide +kernel
theorem dX11_goes_81 : decode cX11_goes 81 = .ok (.aload_n 0, 1) := by decide +kernel
theorem dX11_goes_82 : decode cX11_goes 82 = .ok (.getfield 7, 3) := by decide +kernel
theorem dX11_goes_85 : decode cX11_goes 85 = .ok (.bipush 8, 2) := by decide +kernel
theorem dX11_goes_87 : decode cX11_goes 87 = .ok (.iconst 0, 1) := by decide +kernel
theorem dX11_goes_88 : decode cX11_goes 88 = .ok (.iastore, 1) := by decide +kernel
theorem dX11_goes_89 : decode cX11_goes 89 = .ok (.return_, 1) := by decide +kernel
theorem dX11_ticks_0 : decode cX11_ticks 0 = .ok (.aload_n 0, 1) := by decide +kernel
theorem dX11_ticks_1 : decode cX11_ticks 1 = .ok (.getfield 7, 3) := by decide +kernel
theorem dX11_ticks_4 : decode cX11_ticks 4 = .ok (.iconst 2, 1) := by decide +kernel
theorem dX11_ticks_5 : decode cX11_ticks 5 = .ok (.dup2, 1) := by decide +kernel
theorem dX11_ticks_6 : decode cX11_ticks 6 = .ok (.iaload, 1) := by decide +kernel
theorem dX11_ticks_7 : decode cX11_ticks 7 = .ok (.iconst 1, 1) := by decide +kernel
theorem dX11_ticks_8 : decode cX11_ticks 8 = .ok (.iadd, 1) := by decide +kernel
theorem dX11_ticks_9 : decode cX11_ticks 9 = .ok (.iastore, 1) := by decide +kernel
theorem dX11_ticks_10 : decode cX11_ticks 10 = .ok (.aload_n 0, 1) := by decide +kernel
theorem dX11_ticks_11 : decode cX11_ticks 11 = .ok (.getfield 7, 3) := by decide +kernel
theorem dX11_ticks_14 : decode cX11_ticks 14 = .ok (.iconst 3, 1) := by decide +kernel
theorem dX11_ticks_15 : decode cX11_ticks 15 = .ok (.dup2, 1) := by decide +kernel
theorem dX11_ticks_16 : decode cX11_ticks 16 = .ok (.iaload, 1) := by decide +kernel
theorem dX11_ticks_17 : decode cX11_ticks 17 = .ok (.aload_n 0, 1) := by decide +kernel
theorem dX11_ticks_18 : decode cX11_ticks 18 = .ok (.getfield 7, 3) := by decide +kernel
theorem dX11_ticks_21 : decode cX11_ticks 21 = .ok (.iconst 2, 1) := by decide +kernel
theorem dX11_ticks_22 : decode cX11_ticks 22 = .ok (.iaload, 1) := by decide +kernel
theorem dX11_ticks_23 : decode cX11_ticks 23 = .ok (.aload_n 0, 1) := by decide +kernel
theorem dX11_ticks_24 : decode cX11_ticks 24 = .ok (.getfield 7, 3) := by decide +kernel
theorem dX11_ticks_27 : decode cX11_ticks 27 = .ok (.bipush 19, 2) := by decide +kernel
theorem dX11_ticks_29 : decode cX11_ticks 29 = .ok (.iaload, 1) := by decide +kernel
theorem dX11_ticks_30 : decode cX11_ticks 30 = .ok (.irem, 1) := by decide +kernel
theorem dX11_ticks_31 : decode cX11_ticks 31 = .ok (.ifCond .ne 13, 3) := by decide +kernel
theorem dX11_ticks_34 : decode cX11_ticks 34 = .ok (.aload_n 0, 1) := by decide +kernel
theorem dX11_ticks_35 : decode cX11_ticks 35 = .ok (.getfield 7, 3) := by decide +kernel
theorem dX11_ticks_38 : decode cX11_ticks 38 = .ok (.bipush 20, 2) := by decide +kernel
theorem dX11_ticks_40 : decode cX11_ticks 40 = .ok (.iaload, 1) := by decide +kernel
theorem dX11_ticks_41 : decode cX11_ticks 41 = .ok (.goto 4, 3) := by decide +kernel
theorem dX11_ticks_44 : decode cX11_ticks 44 = .ok (.iconst 0, 1) := by decide +kernel
theorem dX11_ticks_45 : decode cX11_ticks 45 = .ok (.iadd, 1) := by decide +kernel
theorem dX11_ticks_46 : decode cX11_ticks 46 = .ok (.iastore, 1) := by decide +kernel
theorem dX11_ticks_47 : decode cX11_ticks 47 = .ok (.aload_n 0, 1) := by decide +kernel
theorem dX11_ticks_48 : decode cX11_ticks 48 = .ok (.invokevirtual 46, 3) := by decide +kernel
theorem dX11_ticks_51 : decode cX11_ticks 51 = .ok (.ifCond .eq 46, 3) := by decide +kernel
theorem dX11_ticks_54 : decode cX11_ticks 54 = .ok (.aload_n 0, 1) := by decide +kernel
theorem dX11_ticks_55 : decode cX11_ticks 55 = .ok (.iconst 0, 1) := by decide +kernel
theorem dX11_ticks_56 : decode cX11_ticks 56 = .ok (.bipush 11, 2) := by decide +kernel
theorem dX11_ticks_58 : decode cX11_ticks 58 = .ok (.invokevirtual 51, 3) := by decide +kernel
theorem dX11_ticks_61 : decode cX11_ticks 61 = .ok (.aload_n 0, 1) := by decide +kernel
theorem dX11_ticks_62 : decode cX11_ticks 62 = .ok (.getfield 7, 3) := by decide +kernel
theorem dX11_ticks_65 : decode cX11_ticks 65 = .ok (.bipush 17, 2) := by decide +kernel
theorem dX11_ticks_67 : decode cX11_ticks 67 = .ok (.iaload, 1) := by decide +kernel
theorem dX11_ticks_68 : decode cX11_ticks 68 = .ok (.iadd, 1) := by decide +kernel
theorem dX11_ticks_69 : decode cX11_ticks 69 = .ok (.aload_n 0, 1) := by decide +kernel
theorem dX11_ticks_70 : decode cX11_ticks 70 = .ok (.getfield 7, 3) := by decide +kernel
theorem dX11_ticks_73 : decode cX11_ticks 73 = .ok (.bipush 15, 2) := by decide +kernel
theorem dX11_ticks_75 : decode cX11_ticks 75 = .ok (.iaload, 1) := by decide +kernel
theorem dX11_ticks_76 : decode cX11_ticks 76 = .ok (.if_icmp .ge 13, 3) := by decide +kernel
theorem dX11_ticks_79 : decode cX11_ticks 79 = .ok (.aload_n 0, 1) := by decide +kernel
theorem dX11_ticks_80 : decode cX11_ticks 80 = .ok (.getfield 7, 3) := by decide +kernel
theorem dX11_ticks_83 : decode cX11_ticks 83 = .ok (.bipush 13, 2) := by decide +kernel
theorem dX11_ticks_85 : decode cX11_ticks 85 = .ok (.iaload, 1) := by decide +kernel
theorem dX11_ticks_86 : decode cX11_ticks 86 = .ok (.ifCond .ne 11, 3) := by decide +kernel
theorem dX11_ticks_89 : decode cX11_ticks 89 = .ok (.aload_n 0, 1) := by decide +kernel
theorem dX11_ticks_90 : decode cX11_ticks 90 = .ok (.getfield 7, 3) := by decide +kernel
theorem dX11_ticks_93 : decode cX11_ticks 93 = .ok (.bipush 16, 2) := by decide +kernel
theorem dX11_ticks_95 : decode cX11_ticks 95 = .ok (.iconst 1, 1) := by decide +kernel
theorem dX11_ticks_96 : decode cX11_ticks 96 = .ok (.iastore, 1) := by decide +kernel
theorem dX11_ticks_97 : decode cX11_ticks 97 = .ok (.aload_n 0, 1) := by decide +kernel
theorem dX11_ticks_98 : decode cX11_ticks 98 = .ok (.invokevirtual 46, 3) := by decide +kernel
theorem dX11_ticks_101 : decode cX11_ticks 101 = .ok (.ifCond .ne 13, 3) := by decide +kernel
theorem dX11_ticks_104 : decode cX11_ticks 104 = .ok (.aload_n 0, 1) := by decide +kernel
theorem dX11_ticks_105 : decode cX11_ticks 105 = .ok (.getfield 7, 3) := by decide +kernel
theorem dX11_ticks_108 : decode cX11_ticks 108 = .ok (.iconst 1, 1) := by decide +kernel
theorem dX11_ticks_109 : decode cX11_ticks 109 = .ok (.iaload, 1) := by decide +kernel
theorem dX11_ticks_110 : decode cX11_ticks 110 = .ok (.iconst 1, 1) := by decide +kernel
theorem dX11_ticks_111 : decode cX11_ticks 111 = .ok (.if_icmp .ne 10, 3) := by decide +kernel
theorem dX11_ticks_114 : decode cX11_ticks 114 = .ok (.aload_n 0, 1) := by decide +kernel
theorem dX11_ticks_115 : decode cX11_ticks 115 = .ok (.invokevirtual 68, 3) := by decide +kernel
theorem dX11_ticks_118 : decode cX11_ticks 118 = .ok (.goto 14, 3) := by decide +kernel
theorem dX11_ticks_121 : decode cX11_ticks 121 = .ok (.aload_n 0, 1) := by decide +kernel
theorem dX11_ticks_122 : decode cX11_ticks 122 = .ok (.getfield 7, 3) := by decide +kernel
theorem dX11_ticks_125 : decode cX11_ticks 125 = .ok (.bipush 8, 2) := by decide +kernel
theorem dX11_ticks_127 : decode cX11_ticks 127 = .ok (.dup2, 1) := by decide +kernel
theorem dX11_ticks_128 : decode cX11_ticks 128 = .ok (.iaload, 1) := by decide +kernel
theorem dX11_ticks_129 : decode cX11_ticks 129 = .ok (.iconst 1, 1) := by decide +kernel
theorem dX11_ticks_130 : decode cX11_ticks 130 = .ok (.iadd, 1) := by decide +kernel
theorem dX11_ticks_131 : decode cX11_ticks 131 = .ok (.iastore, 1) := by decide +kernel
theorem dX11_ticks_132 : decode cX11_ticks 132 = .ok (.aload_n 0, 1) := by decide +kernel
theorem dX11_ticks_133 : decode cX11_ticks 133 = .ok (.invokevirtual 46, 3) := by decide +kernel
theorem dX11_ticks_136 : decode cX11_ticks 136 = .ok (.ifCond .eq 32, 3) := by decide +kernel
theorem dX11_ticks_139 : decode cX11_ticks 139 = .ok (.aload_n 0, 1) := by decide +kernel
theorem dX11_ticks_140 : decode cX11_ticks 140 = .ok (.getfield 7, 3) := by decide +kernel
theorem dX11_ticks_143 : decode cX11_ticks 143 = .ok (.bipush 16, 2) := by decide +kernel
theorem dX11_ticks_145 : decode cX11_ticks 145 = .ok (.iaload, 1) := by decide +kernel
theorem dX11_ticks_146 : decode cX11_ticks 146 = .ok (.iconst 1, 1) := by decide +kernel
theorem dX11_ticks_147 : decode cX11_ticks 147 = .ok (.if_icmp .ne 21, 3) := by decide +kernel
theorem dX11_ticks_150 : decode cX11_ticks 150 = .ok (.aload_n 0, 1) := by decide +kernel
theorem dX11_ticks_151 : decode cX11_ticks 151 = .ok (.iconst 0, 1) := by decide +kernel
theorem dX11_ticks_152 : decode cX11_ticks 152 = .ok (.bipush 11, 2) := by decide +kernel
theorem dX11_ticks_154 : decode cX11_ticks 154 = .ok (.invokevirtual 51, 3) := by decide +kernel
theorem dX11_ticks_157 : decode cX11_ticks 157 = .ok (.ifCond .ne 11, 3) := by decide +kernel
theorem dX11_ticks_160 : decode cX11_ticks 160 = .ok (.aload_n 0, 1) := by decide +kernel
theorem dX11_ticks_161 : decode cX11_ticks 161 = .ok (.getfield 7, 3) := by decide +kernel
theorem dX11_ticks_164 : decode cX11_ticks 164 = .ok (.bipush 15, 2) := by decide +kernel
theorem dX11_ticks_166 : decode cX11_ticks 166 = .ok (.iconst 0, 1) := by decide +kernel
theorem dX11_ticks_167 : decode cX11_ticks 167 = .ok (.iastore, 1) := by decide +kernel
theorem dX11_ticks_168 : decode cX11_ticks 168 = .ok (.return_, 1) := by decide +kernel
theorem dX11_tick_0 : decode cX11_tick 0 = .ok (.iload_n 1, 1) := by decide +kernel
theorem dX11_tick_1 : decode cX11_tick 1 = .ok (.iconst 1, 1) := by decide +kernel
theorem dX11_tick_2 : decode cX11_tick 2 = .ok (.sipush 200, 3) := by decide +kernel
theorem dX11_tick_5 : decode cX11_tick 5 = .ok (.invokestatic 37, 3) := by decide +kernel
theorem dX11_tick_8 : decode cX11_tick 8 = .ok (.ifCond .ne 6, 3) := by decide +kernel
theorem dX11_tick_11 : decode cX11_tick 11 = .ok (.ldc 41, 2) := by decide +kernel
theorem dX11_tick_13 : decode cX11_tick 13 = .ok (.ireturn, 1) := by decide +kernel
theorem dX11_tick_14 : decode cX11_tick 14 = .ok (.aload_n 0, 1) := by decide +kernel
theorem dX11_tick_15 : decode cX11_tick 15 = .ok (.getfield 7, 3) := by decide +kernel
theorem dX11_tick_18 : decode cX11_tick 18 = .ok (.iconst 2, 1) := by decide +kernel
theorem dX11_tick_19 : decode cX11_tick 19 = .ok (.iaload, 1) := by decide +kernel
theorem dX11_tick_20 : decode cX11_tick 20 = .ok (.iload_n 1, 1) := by decide +kernel
theorem dX11_tick_21 : decode cX11_tick 21 = .ok (.iadd, 1) := by decide +kernel
theorem dX11_tick_22 : decode cX11_tick 22 = .ok (.sipush 9000, 3) := by decide +kernel
theorem dX11_tick_25 : decode cX11_tick 25 = .ok (.if_icmp .le 6, 3) := by decide +kernel
theorem dX11_tick_28 : decode cX11_tick 28 = .ok (.ldc 42, 2) := by decide +kernel
theorem dX11_tick_30 : decode cX11_tick 30 = .ok (.ireturn, 1) := by decide +kernel
theorem dX11_tick_31 : decode cX11_tick 31 = .ok (.aload_n 0, 1) := by decide +kernel
theorem dX11_tick_32 : decode cX11_tick 32 = .ok (.invokevirtual 43, 3) := by decide +kernel
theorem dX11_tick_35 : decode cX11_tick 35 = .ok (.aload_n 0, 1) := by decide +kernel
theorem dX11_tick_36 : decode cX11_tick 36 = .ok (.getfield 7, 3) := by decide +kernel
theorem dX11_tick_39 : decode cX11_tick 39 = .ok (.bipush 11, 2) := by decide +kernel
theorem dX11_tick_41 : decode cX11_tick 41 = .ok (.iaload, 1) := by decide +kernel
theorem dX11_tick_42 : decode cX11_tick 42 = .ok (.istore_n 2, 1) := by decide +kernel
theorem dX11_tick_43 : decode cX11_tick 43 = .ok (.iconst 0, 1) := by decide +kernel
theorem dX11_tick_44 : decode cX11_tick 44 = .ok (.istore_n 3, 1) := by decide +kernel
theorem dX11_tick_45 : decode cX11_tick 45 = .ok (.iload_n 3, 1) := by decide +kernel
theorem dX11_tick_46 : decode cX11_tick 46 = .ok (.iload_n 1, 1) := by decide +kernel
theorem dX11_tick_47 : decode cX11_tick 47 = .ok (.if_icmp .ge 13, 3) := by decide +kernel
theorem dX11_tick_50 : decode cX11_tick 50 = .ok (.aload_n 0, 1) := by decide +kernel
theorem dX11_tick_51 : decode cX11_tick 51 = .ok (.invokevirtual 71, 3) := by decide +kernel
theorem dX11_tick_54 : decode cX11_tick 54 = .ok (.iinc 3 1, 3) := by decide +kernel
theorem dX11_tick_57 : decode cX11_tick 57 = .ok (.goto (-12), 3) := by decide +kernel
theorem dX11_tick_60 : decode cX11_tick 60 = .ok (.aload_n 0, 1) := by decide +kernel
theorem dX11_tick_61 : decode cX11_tick 61 = .ok (.getfield 7, 3) := by decide +kernel
theorem dX11_tick_64 : decode cX11_tick 64 = .ok (.bipush 11, 2) := by decide +kernel
theorem dX11_tick_66 : decode cX11_tick 66 = .ok (.iaload, 1) := by decide +kernel
theorem dX11_tick_67 : decode cX11_tick 67 = .ok (.iload_n 2, 1) := by decide +kernel
theorem dX11_tick_68 : decode cX11_tick 68 = .ok (.isub, 1) := by decide +kernel
theorem dX11_tick_69 : decode cX11_tick 69 = .ok (.ireturn, 1) := by decide +kernel
theorem dX11_zero_0 : decode cX11_zero 0 = .ok (.aload_n 0, 1) := by decide +kernel
theorem dX11_zero_1 : decode cX11_zero 1 = .ok (.getfield 7, 3) := by decide +kernel
theorem dX11_zero_4 : decode cX11_zero 4 = .ok (.bipush 8, 2) := by decide +kernel
theorem dX11_zero_6 : decode cX11_zero 6 = .ok (.iaload, 1) := by decide +kernel
theorem dX11_zero_7 : decode cX11_zero 7 = .ok (.iconst 4, 1) := by decide +kernel
theorem dX11_zero_8 : decode cX11_zero 8 = .ok (.if_icmp .ge 16, 3) := by decide +kernel
theorem dX11_zero_11 : decode cX11_zero 11 = .ok (.aload_n 0, 1) := by decide +kernel
theorem dX11_zero_12 : decode cX11_zero 12 = .ok (.iconst 4, 1) := by decide +kernel
theorem dX11_zero_13 : decode cX11_zero 13 = .ok (.bipush 7, 2) := by decide +kernel
theorem dX11_zero_15 : decode cX11_zero 15 = .ok (.invokevirtual 51, 3) := by decide +kernel
theorem dX11_zero_18 : decode cX11_zero 18 = .ok (.ifCond .le 6, 3) := by decide +kernel
theorem dX11_zero_21 : decode cX11_zero 21 = .ok (.ldc 50, 2) := by decide +kernel
theorem dX11_zero_23 : decode cX11_zero 23 = .ok (.ireturn, 1) := by decide +kernel
theorem dX11_zero_24 : decode cX11_zero 24 = .ok (.aload_n 0, 1) := by decide +kernel
theorem dX11_zero_25 : decode cX11_zero 25 = .ok (.invokevirtual 43, 3) := by decide +kernel
theorem dX11_zero_28 : decode cX11_zero 28 = .ok (.aload_n 0, 1) := by decide +kernel
theorem dX11_zero_29 : decode cX11_zero 29 = .ok (.getfield 7, 3) := by decide +kernel
theorem dX11_zero_32 : decode cX11_zero 32 = .ok (.iconst 4, 1) := by decide +kernel
theorem dX11_zero_33 : decode cX11_zero 33 = .ok (.iaload, 1) := by decide +kernel
theorem dX11_zero_34 : decode cX11_zero 34 = .ok (.istore_n 1, 1) := by decide +kernel
theorem dX11_zero_35 : decode cX11_zero 35 = .ok (.aload_n 0, 1) := by decide +kernel
theorem dX11_zero_36 : decode cX11_zero 36 = .ok (.getfield 7, 3) := by decide +kernel
theorem dX11_zero_39 : decode cX11_zero 39 = .ok (.iconst 4, 1) := by decide +kernel
theorem dX11_zero_40 : decode cX11_zero 40 = .ok (.aload_n 0, 1) := by decide +kernel
theorem dX11_zero_41 : decode cX11_zero 41 = .ok (.iconst 4, 1) := by decide +kernel
theorem dX11_zero_42 : decode cX11_zero 42 = .ok (.bipush 7, 2) := by decide +kernel
theorem dX11_zero_44 : decode cX11_zero 44 = .ok (.invokevirtual 51, 3) := by decide +kernel
theorem dX11_zero_47 : decode cX11_zero 47 = .ok (.aload_n 0, 1) := by decide +kernel
theorem dX11_zero_48 : decode cX11_zero 48 = .ok (.getfield 7, 3) := by decide +kernel
theorem dX11_zero_51 : decode cX11_zero 51 = .ok (.iconst 3, 1) := by decide +kernel
theorem dX11_zero_52 : decode cX11_zero 52 = .ok (.iaload, 1) := by decide +kernel
theorem dX11_zero_53 : decode cX11_zero 53 = .ok (.iadd, 1) := by decide +kernel
theorem dX11_zero_54 : decode cX11_zero 54 = .ok (.iastore, 1) := by decide +kernel
theorem dX11_zero_55 : decode cX11_zero 55 = .ok (.iload_n 1, 1) := by decide +kernel
theorem dX11_zero_56 : decode cX11_zero 56 = .ok (.ldc 74, 2) := by decide +kernel
theorem dX11_zero_58 : decode cX11_zero 58 = .ok (.iadd, 1) := by decide +kernel
theorem dX11_zero_59 : decode cX11_zero 59 = .ok (.ireturn, 1) := by decide +kernel
theorem dX11_isBin_0 : decode cX11_isBin 0 = .ok (.iload_n 1, 1) := by decide +kernel
theorem dX11_isBin_1 : decode cX11_isBin 1 = .ok (.ifCond .lt 18, 3) := by decide +kernel
theorem dX11_isBin_4 : decode cX11_isBin 4 = .ok (.iload_n 1, 1) := by decide +kernel
theorem dX11_isBin_5 : decode cX11_isBin 5 = .ok (.aload_n 0, 1) := by decide +kernel
theorem dX11_isBin_6 : decode cX11_isBin 6 = .ok (.getfield 7, 3) := by decide +kernel
theorem dX11_isBin_9 : decode cX11_isBin 9 = .ok (.bipush 12, 2) := by decide +kernel
theorem dX11_isBin_11 : decode cX11_isBin 11 = .ok (.iaload, 1) := by decide +kernel
theorem dX11_isBin_12 : decode cX11_isBin 12 = .ok (.if_icmp .ge 7, 3) := by decide +kernel
theorem dX11_isBin_15 : decode cX11_isBin 15 = .ok (.iconst 1, 1) := by decide +kernel
theorem dX11_isBin_16 : decode cX11_isBin 16 = .ok (.goto 4, 3) := by decide +kernel
theorem dX11_isBin_19 : decode cX11_isBin 19 = .ok (.iconst 0, 1) := by decide +kernel
theorem dX11_isBin_20 : decode cX11_isBin 20 = .ok (.ireturn, 1) := by decide +kernel
theorem dX11_binMass_0 : decode cX11_binMass 0 = .ok (.bipush 81, 2) := by decide +kernel
theorem dX11_binMass_2 : decode cX11_binMass 2 = .ok (.bipush 6, 2) := by decide +kernel
theorem dX11_binMass_4 : decode cX11_binMass 4 = .ok (.iload_n 1, 1) := by decide +kernel
theorem dX11_binMass_5 : decode cX11_binMass 5 = .ok (.imul, 1) := by decide +kernel
theorem dX11_binMass_6 : decode cX11_binMass 6 = .ok (.iadd, 1) := by decide +kernel
theorem dX11_binMass_7 : decode cX11_binMass 7 = .ok (.istore_n 2, 1) := by decide +kernel
theorem dX11_binMass_8 : decode cX11_binMass 8 = .ok (.aload_n 0, 1) := by decide +kernel
theorem dX11_binMass_9 : decode cX11_binMass 9 = .ok (.getfield 7, 3) := by decide +kernel
theorem dX11_binMass_12 : decode cX11_binMass 12 = .ok (.iload_n 2, 1) := by decide +kernel
theorem dX11_binMass_13 : decode cX11_binMass 13 = .ok (.iaload, 1) := by decide +kernel
theorem dX11_binMass_14 : decode cX11_binMass 14 = .ok (.aload_n 0, 1) := by decide +kernel
theorem dX11_binMass_15 : decode cX11_binMass 15 = .ok (.getfield 7, 3) := by decide +kernel
theorem dX11_binMass_18 : decode cX11_binMass 18 = .ok (.iload_n 2, 1) := by decide +kernel
theorem dX11_binMass_19 : decode cX11_binMass 19 = .ok (.iconst 1, 1) := by decide +kernel
theorem dX11_binMass_20 : decode cX11_binMass 20 = .ok (.iadd, 1) := by decide +kernel
theorem dX11_binMass_21 : decode cX11_binMass 21 = .ok (.iaload, 1) := by decide +kernel
theorem dX11_binMass_22 : decode cX11_binMass 22 = .ok (.iadd, 1) := by decide +kernel
theorem dX11_binMass_23 : decode cX11_binMass 23 = .ok (.aload_n 0, 1) := by decide +kernel
theorem dX11_binMass_24 : decode cX11_binMass 24 = .ok (.getfield 7, 3) := by decide +kernel
theorem dX11_binMass_27 : decode cX11_binMass 27 = .ok (.iload_n 2, 1) := by decide +kernel
theorem dX11_binMass_28 : decode cX11_binMass 28 = .ok (.iconst 2, 1) := by decide +kernel
theorem dX11_binMass_29 : decode cX11_binMass 29 = .ok (.iadd, 1) := by decide +kernel
theorem dX11_binMass_30 : decode cX11_binMass 30 = .ok (.iaload, 1) := by decide +kernel
theorem dX11_binMass_31 : decode cX11_binMass 31 = .ok (.iadd, 1) := by decide +kernel
theorem dX11_binMass_32 : decode cX11_binMass 32 = .ok (.aload_n 0, 1) := by decide +kernel
theorem dX11_binMass_33 : decode cX11_binMass 33 = .ok (.getfield 7, 3) := by decide +kernel
theorem dX11_binMass_36 : decode cX11_binMass 36 = .ok (.iload_n 2, 1) := by decide +kernel
theorem dX11_binMass_37 : decode cX11_binMass 37 = .ok (.iconst 3, 1) := by decide +kernel
theorem dX11_binMass_38 : decode cX11_binMass 38 = .ok (.iadd, 1) := by decide +kernel
theorem dX11_binMass_39 : decode cX11_binMass 39 = .ok (.iaload, 1) := by decide +kernel
theorem dX11_binMass_40 : decode cX11_binMass 40 = .ok (.iadd, 1) := by decide +kernel
theorem dX11_binMass_41 : decode cX11_binMass 41 = .ok (.ireturn, 1) := by decide +kernel
theorem dX11_correct_0 : decode cX11_correct 0 = .ok (.aload_n 0, 1) := by decide +kernel
theorem dX11_correct_1 : decode cX11_correct 1 = .ok (.iload_n 1, 1) := by decide +kernel
theorem dX11_correct_2 : decode cX11_correct 2 = .ok (.invokevirtual 75, 3) := by decide +kernel
theorem dX11_correct_5 : decode cX11_correct 5 = .ok (.ifCond .ne 6, 3) := by decide +kernel
theorem dX11_correct_8 : decode cX11_correct 8 = .ok (.ldc 41, 2) := by decide +kernel
theorem dX11_correct_10 : decode cX11_correct 10 = .ok (.ireturn, 1) := by decide +kernel
theorem dX11_correct_11 : decode cX11_correct 11 = .ok (.aload_n 0, 1) := by decide +kernel
theorem dX11_correct_12 : decode cX11_correct 12 = .ok (.getfield 7, 3) := by decide +kernel
theorem dX11_correct_15 : decode cX11_correct 15 = .ok (.bipush 81, 2) := by decide +kernel
theorem dX11_correct_17 : decode cX11_correct 17 = .ok (.bipush 6, 2) := by decide +kernel
theorem dX11_correct_19 : decode cX11_correct 19 = .ok (.iload_n 1, 1) := by decide +kernel
theorem dX11_correct_20 : decode cX11_correct 20 = .ok (.imul, 1) := by decide +kernel
theorem dX11_correct_21 : decode cX11_correct 21 = .ok (.iadd, 1) := by decide +kernel
theorem dX11_correct_22 : decode cX11_correct 22 = .ok (.iconst 4, 1) := by decide +kernel
theorem dX11_correct_23 : decode cX11_correct 23 = .ok (.iadd, 1) := by decide +kernel
theorem dX11_correct_24 : decode cX11_correct 24 = .ok (.iaload, 1) := by decide +kernel
theorem dX11_correct_25 : decode cX11_correct 25 = .ok (.istore_n 2, 1) := by decide +kernel
theorem dX11_correct_26 : decode cX11_correct 26 = .ok (.iload_n 2, 1) := by decide +kernel
theorem dX11_correct_27 : decode cX11_correct 27 = .ok (.ifCond .le 19, 3) := by decide +kernel
theorem dX11_correct_30 : decode cX11_correct 30 = .ok (.ldc2_w 79, 3) := by decide +kernel
theorem dX11_correct_33 : decode cX11_correct 33 = .ok (.aload_n 0, 1) := by decide +kernel
theorem dX11_correct_34 : decode cX11_correct 34 = .ok (.iload_n 1, 1) := by decide +kernel
theorem dX11_correct_35 : decode cX11_correct 35 = .ok (.invokevirtual 81, 3) := by decide +kernel
theorem dX11_correct_38 : decode cX11_correct 38 = .ok (.i2l, 1) := by decide +kernel
theorem dX11_correct_39 : decode cX11_correct 39 = .ok (.lmul, 1) := by decide +kernel
theorem dX11_correct_40 : decode cX11_correct 40 = .ok (.iload_n 2, 1) := by decide +kernel
theorem dX11_correct_41 : decode cX11_correct 41 = .ok (.i2l, 1) := by decide +kernel
theorem dX11_correct_42 : decode cX11_correct 42 = .ok (.ldiv, 1) := by decide +kernel
theorem dX11_correct_43 : decode cX11_correct 43 = .ok (.goto 4, 3) := by decide +kernel
theorem dX11_correct_46 : decode cX11_correct 46 = .ok (.lconst 0, 1) := by decide +kernel
theorem dX11_correct_47 : decode cX11_correct 47 = .ok (.lstore_n 3, 1) := by decide +kernel
theorem dX11_correct_48 : decode cX11_correct 48 = .ok (.lload_n 3, 1) := by decide +kernel
theorem dX11_correct_49 : decode cX11_correct 49 = .ok (.ldc2_w 85, 3) := by decide +kernel
theorem dX11_correct_52 : decode cX11_correct 52 = .ok (.lcmp, 1) := by decide +kernel
theorem dX11_correct_53 : decode cX11_correct 53 = .ok (.ifCond .lt 11, 3) := by decide +kernel
theorem dX11_correct_56 : decode cX11_correct 56 = .ok (.lload_n 3, 1) := by decide +kernel
theorem dX11_correct_57 : decode cX11_correct 57 = .ok (.ldc2_w 87, 3) := by decide +kernel
theorem dX11_correct_60 : decode cX11_correct 60 = .ok (.lcmp, 1) := by decide +kernel
theorem dX11_correct_61 : decode cX11_correct 61 = .ok (.ifCond .le 6, 3) := by decide +kernel
theorem dX11_correct_64 : decode cX11_correct 64 = .ok (.ldc 50, 2) := by decide +kernel
theorem dX11_correct_66 : decode cX11_correct 66 = .ok (.ireturn, 1) := by decide +kernel
theorem dX11_correct_67 : decode cX11_correct 67 = .ok (.aload_n 0, 1) := by decide +kernel
theorem dX11_correct_68 : decode cX11_correct 68 = .ok (.invokevirtual 43, 3) := by decide +kernel
theorem dX11_correct_71 : decode cX11_correct 71 = .ok (.aload_n 0, 1) := by decide +kernel
theorem dX11_correct_72 : decode cX11_correct 72 = .ok (.getfield 7, 3) := by decide +kernel
theorem dX11_correct_75 : decode cX11_correct 75 = .ok (.bipush 7, 2) := by decide +kernel
theorem dX11_correct_77 : decode cX11_correct 77 = .ok (.lload_n 3, 1) := by decide +kernel
theorem dX11_correct_78 : decode cX11_correct 78 = .ok (.l2i, 1) := by decide +kernel
theorem dX11_correct_79 : decode cX11_correct 79 = .ok (.iastore, 1) := by decide +kernel
theorem dX11_correct_80 : decode cX11_correct 80 = .ok (.aload_n 0, 1) := by decide +kernel
theorem dX11_correct_81 : decode cX11_correct 81 = .ok (.getfield 7, 3) := by decide +kernel
theorem dX11_correct_84 : decode cX11_correct 84 = .ok (.bipush 7, 2) := by decide +kernel
theorem dX11_correct_86 : decode cX11_correct 86 = .ok (.iaload, 1) := by decide +kernel
theorem dX11_correct_87 : decode cX11_correct 87 = .ok (.ireturn, 1) := by decide +kernel
theorem dX11_set_0 : decode cX11_set 0 = .ok (.iload_n 1, 1) := by decide +kernel
theorem dX11_set_1 : decode cX11_set 1 = .ok (.iconst 0, 1) := by decide +kernel
theorem dX11_set_2 : decode cX11_set 2 = .ok (.iconst 2, 1) := by decide +kernel
theorem dX11_set_3 : decode cX11_set 3 = .ok (.invokestatic 37, 3) := by decide +kernel
theorem dX11_set_6 : decode cX11_set 6 = .ok (.ifCond .eq 43, 3) := by decide +kernel
theorem dX11_set_9 : decode cX11_set 9 = .ok (.iload_n 2, 1) := by decide +kernel
theorem dX11_set_10 : decode cX11_set 10 = .ok (.iload_n 1, 1) := by decide +kernel
theorem dX11_set_11 : decode cX11_set 11 = .ok (.iconst 2, 1) := by decide +kernel
theorem dX11_set_12 : decode cX11_set 12 = .ok (.if_icmp .ne 8, 3) := by decide +kernel
theorem dX11_set_15 : decode cX11_set 15 = .ok (.bipush (-9), 2) := by decide +kernel
theorem dX11_set_17 : decode cX11_set 17 = .ok (.goto 4, 3) := by decide +kernel
theorem dX11_set_20 : decode cX11_set 20 = .ok (.iconst 1, 1) := by decide +kernel
theorem dX11_set_21 : decode cX11_set 21 = .ok (.iload_n 1, 1) := by decide +kernel
theorem dX11_set_22 : decode cX11_set 22 = .ok (.ifCond .ne 9, 3) := by decide +kernel
theorem dX11_set_25 : decode cX11_set 25 = .ok (.sipush 500, 3) := by decide +kernel
theorem dX11_set_28 : decode cX11_set 28 = .ok (.goto 15, 3) := by decide +kernel
theorem dX11_set_31 : decode cX11_set 31 = .ok (.iload_n 1, 1) := by decide +kernel
theorem dX11_set_32 : decode cX11_set 32 = .ok (.iconst 1, 1) := by decide +kernel
theorem dX11_set_33 : decode cX11_set 33 = .ok (.if_icmp .ne 8, 3) := by decide +kernel
theorem dX11_set_36 : decode cX11_set 36 = .ok (.bipush 99, 2) := by decide +kernel
theorem dX11_set_38 : decode cX11_set 38 = .ok (.goto 5, 3) := by decide +kernel
theorem dX11_set_41 : decode cX11_set 41 = .ok (.bipush 9, 2) := by decide +kernel
theorem dX11_set_43 : decode cX11_set 43 = .ok (.invokestatic 37, 3) := by decide +kernel
theorem dX11_set_46 : decode cX11_set 46 = .ok (.ifCond .ne 6, 3) := by decide +kernel
theorem dX11_set_49 : decode cX11_set 49 = .ok (.ldc 41, 2) := by decide +kernel
theorem dX11_set_51 : decode cX11_set 51 = .ok (.ireturn, 1) := by decide +kernel
theorem dX11_set_52 : decode cX11_set 52 = .ok (.aload_n 0, 1) := by decide +kernel
theorem dX11_set_53 : decode cX11_set 53 = .ok (.invokevirtual 43, 3) := by decide +kernel
theorem dX11_set_56 : decode cX11_set 56 = .ok (.aload_n 0, 1) := by decide +kernel
theorem dX11_set_57 : decode cX11_set 57 = .ok (.getfield 7, 3) := by decide +kernel
theorem dX11_set_60 : decode cX11_set 60 = .ok (.bipush 18, 2) := by decide +kernel
theorem dX11_set_62 : decode cX11_set 62 = .ok (.iload_n 1, 1) := by decide +kernel
theorem dX11_set_63 : decode cX11_set 63 = .ok (.iadd, 1) := by decide +kernel
theorem dX11_set_64 : decode cX11_set 64 = .ok (.iaload, 1) := by decide +kernel
theorem dX11_set_65 : decode cX11_set 65 = .ok (.istore_n 3, 1) := by decide +kernel
theorem dX11_set_66 : decode cX11_set 66 = .ok (.aload_n 0, 1) := by decide +kernel
theorem dX11_set_67 : decode cX11_set 67 = .ok (.getfield 7, 3) := by decide +kernel
theorem dX11_set_70 : decode cX11_set 70 = .ok (.bipush 18, 2) := by decide +kernel
theorem dX11_set_72 : decode cX11_set 72 = .ok (.iload_n 1, 1) := by decide +kernel
theorem dX11_set_73 : decode cX11_set 73 = .ok (.iadd, 1) := by decide +kernel
theorem dX11_set_74 : decode cX11_set 74 = .ok (.iload_n 2, 1) := by decide +kernel
theorem dX11_set_75 : decode cX11_set 75 = .ok (.iastore, 1) := by decide +kernel
theorem dX11_set_76 : decode cX11_set 76 = .ok (.iload_n 3, 1) := by decide +kernel
theorem dX11_set_77 : decode cX11_set 77 = .ok (.ireturn, 1) := by decide +kernel
theorem dX11_isAccount_0 : decode cX11_isAccount 0 = .ok (.iload_n 1, 1) := by decide +kernel
theorem dX11_isAccount_1 : decode cX11_isAccount 1 = .ok (.ifCond .lt 18, 3) := by decide +kernel
theorem dX11_isAccount_4 : decode cX11_isAccount 4 = .ok (.iload_n 1, 1) := by decide +kernel
theorem dX11_isAccount_5 : decode cX11_isAccount 5 = .ok (.aload_n 0, 1) := by decide +kernel
theorem dX11_isAccount_6 : decode cX11_isAccount 6 = .ok (.getfield 7, 3) := by decide +kernel
theorem dX11_isAccount_9 : decode cX11_isAccount 9 = .ok (.bipush 14, 2) := by decide +kernel
theorem dX11_isAccount_11 : decode cX11_isAccount 11 = .ok (.iaload, 1) := by decide +kernel
theorem dX11_isAccount_12 : decode cX11_isAccount 12 = .ok (.if_icmp .ge 7, 3) := by decide +kernel
theorem dX11_isAccount_15 : decode cX11_isAccount 15 = .ok (.iconst 1, 1) := by decide +kernel
theorem dX11_isAccount_16 : decode cX11_isAccount 16 = .ok (.goto 4, 3) := by decide +kernel
theorem dX11_isAccount_19 : decode cX11_isAccount 19 = .ok (.iconst 0, 1) := by decide +kernel
theorem dX11_isAccount_20 : decode cX11_isAccount 20 = .ok (.ireturn, 1) := by decide +kernel
theorem dX11_account_0 : decode cX11_account 0 = .ok (.aload_n 0, 1) := by decide +kernel
theorem dX11_account_1 : decode cX11_account 1 = .ok (.iload_n 1, 1) := by decide +kernel
theorem dX11_account_2 : decode cX11_account 2 = .ok (.invokevirtual 89, 3) := by decide +kernel
theorem dX11_account_5 : decode cX11_account 5 = .ok (.ifCond .ne 6, 3) := by decide +kernel
theorem dX11_account_8 : decode cX11_account 8 = .ok (.ldc 41, 2) := by decide +kernel
theorem dX11_account_10 : decode cX11_account 10 = .ok (.ireturn, 1) := by decide +kernel
theorem dX11_account_11 : decode cX11_account 11 = .ok (.aload_n 0, 1) := by decide +kernel
theorem dX11_account_12 : decode cX11_account 12 = .ok (.getfield 7, 3) := by decide +kernel
theorem dX11_account_15 : decode cX11_account 15 = .ok (.bipush 14, 2) := by decide +kernel
theorem dX11_account_17 : decode cX11_account 17 = .ok (.iaload, 1) := by decide +kernel
theorem dX11_account_18 : decode cX11_account 18 = .ok (.istore_n 2, 1) := by decide +kernel
theorem dX11_account_19 : decode cX11_account 19 = .ok (.iload_n 2, 1) := by decide +kernel
theorem dX11_account_20 : decode cX11_account 20 = .ok (.bipush 8, 2) := by decide +kernel
theorem dX11_account_22 : decode cX11_account 22 = .ok (.if_icmp .ne 6, 3) := by decide +kernel
theorem dX11_account_25 : decode cX11_account 25 = .ok (.ldc 42, 2) := by decide +kernel
theorem dX11_account_27 : decode cX11_account 27 = .ok (.ireturn, 1) := by decide +kernel
theorem dX11_account_28 : decode cX11_account 28 = .ok (.aload_n 0, 1) := by decide +kernel
theorem dX11_account_29 : decode cX11_account 29 = .ok (.invokevirtual 43, 3) := by decide +kernel
theorem dX11_account_32 : decode cX11_account 32 = .ok (.aload_n 0, 1) := by decide +kernel
theorem dX11_account_33 : decode cX11_account 33 = .ok (.getfield 7, 3) := by decide +kernel
theorem dX11_account_36 : decode cX11_account 36 = .ok (.sipush 129, 3) := by decide +kernel
theorem dX11_account_39 : decode cX11_account 39 = .ok (.iconst 2, 1) := by decide +kernel
theorem dX11_account_40 : decode cX11_account 40 = .ok (.iload_n 2, 1) := by decide +kernel
theorem dX11_account_41 : decode cX11_account 41 = .ok (.imul, 1) := by decide +kernel
theorem dX11_account_42 : decode cX11_account 42 = .ok (.iadd, 1) := by decide +kernel
theorem dX11_account_43 : decode cX11_account 43 = .ok (.iload_n 1, 1) := by decide +kernel
theorem dX11_account_44 : decode cX11_account 44 = .ok (.iastore, 1) := by decide +kernel
theorem dX11_account_45 : decode cX11_account 45 = .ok (.aload_n 0, 1) := by decide +kernel
theorem dX11_account_46 : decode cX11_account 46 = .ok (.getfield 7, 3) := by decide +kernel
theorem dX11_account_49 : decode cX11_account 49 = .ok (.sipush 129, 3) := by decide +kernel
theorem dX11_account_52 : decode cX11_account 52 = .ok (.iconst 2, 1) := by decide +kernel
theorem dX11_account_53 : decode cX11_account 53 = .ok (.iload_n 2, 1) := by decide +kernel
theorem dX11_account_54 : decode cX11_account 54 = .ok (.imul, 1) := by decide +kernel
theorem dX11_account_55 : decode cX11_account 55 = .ok (.iadd, 1) := by decide +kernel
theorem dX11_account_56 : decode cX11_account 56 = .ok (.iconst 1, 1) := by decide +kernel
theorem dX11_account_57 : decode cX11_account 57 = .ok (.iadd, 1) := by decide +kernel
theorem dX11_account_58 : decode cX11_account 58 = .ok (.iconst 0, 1) := by decide +kernel
theorem dX11_account_59 : decode cX11_account 59 = .ok (.iastore, 1) := by decide +kernel
theorem dX11_account_60 : decode cX11_account 60 = .ok (.aload_n 0, 1) := by decide +kernel
theorem dX11_account_61 : decode cX11_account 61 = .ok (.getfield 7, 3) := by decide +kernel
theorem dX11_account_64 : decode cX11_account 64 = .ok (.bipush 14, 2) := by decide +kernel
theorem dX11_account_66 : decode cX11_account 66 = .ok (.dup2, 1) := by decide +kernel
theorem dX11_account_67 : decode cX11_account 67 = .ok (.iaload, 1) := by decide +kernel
theorem dX11_account_68 : decode cX11_account 68 = .ok (.iconst 1, 1) := by decide +kernel
theorem dX11_account_69 : decode cX11_account 69 = .ok (.iadd, 1) := by decide +kernel
theorem dX11_account_70 : decode cX11_account 70 = .ok (.iastore, 1) := by decide +kernel
theorem dX11_account_71 : decode cX11_account 71 = .ok (.iload_n 2, 1) := by decide +kernel
theorem dX11_account_72 : decode cX11_account 72 = .ok (.ireturn, 1) := by decide +kernel
theorem dX11_book_0 : decode cX11_book 0 = .ok (.iload_n 1, 1) := by decide +kernel
theorem dX11_book_1 : decode cX11_book 1 = .ok (.iconst 0, 1) := by decide +kernel
theorem dX11_book_2 : decode cX11_book 2 = .ok (.iconst 3, 1) := by decide +kernel
theorem dX11_book_3 : decode cX11_book 3 = .ok (.invokestatic 37, 3) := by decide +kernel
theorem dX11_book_6 : decode cX11_book 6 = .ok (.ifCond .eq 11, 3) := by decide +kernel
theorem dX11_book_9 : decode cX11_book 9 = .ok (.aload_n 0, 1) := by decide +kernel
theorem dX11_book_10 : decode cX11_book 10 = .ok (.iload_n 2, 1) := by decide +kernel
theorem dX11_book_11 : decode cX11_book 11 = .ok (.invokevirtual 89, 3) := by decide +kernel
theorem dX11_book_14 : decode cX11_book 14 = .ok (.ifCond .ne 6, 3) := by decide +kernel
theorem dX11_book_17 : decode cX11_book 17 = .ok (.ldc 41, 2) := by decide +kernel
theorem dX11_book_19 : decode cX11_book 19 = .ok (.ireturn, 1) := by decide +kernel
theorem dX11_book_20 : decode cX11_book 20 = .ok (.aload_n 0, 1) := by decide +kernel
theorem dX11_book_21 : decode cX11_book 21 = .ok (.invokevirtual 43, 3) := by decide +kernel
theorem dX11_book_24 : decode cX11_book 24 = .ok (.aload_n 0, 1) := by decide +kernel
theorem dX11_book_25 : decode cX11_book 25 = .ok (.getfield 7, 3) := by decide +kernel
theorem dX11_book_28 : decode cX11_book 28 = .ok (.sipush 145, 3) := by decide +kernel
theorem dX11_book_31 : decode cX11_book 31 = .ok (.iload_n 1, 1) := by decide +kernel
theorem dX11_book_32 : decode cX11_book 32 = .ok (.iadd, 1) := by decide +kernel
theorem dX11_book_33 : decode cX11_book 33 = .ok (.iaload, 1) := by decide +kernel
theorem dX11_book_34 : decode cX11_book 34 = .ok (.istore_n 3, 1) := by decide +kernel
theorem dX11_book_35 : decode cX11_book 35 = .ok (.aload_n 0, 1) := by decide +kernel
theorem dX11_book_36 : decode cX11_book 36 = .ok (.getfield 7, 3) := by decide +kernel
theorem dX11_book_39 : decode cX11_book 39 = .ok (.sipush 145, 3) := by decide +kernel
theorem dX11_book_42 : decode cX11_book 42 = .ok (.iload_n 1, 1) := by decide +kernel
theorem dX11_book_43 : decode cX11_book 43 = .ok (.iadd, 1) := by decide +kernel
theorem dX11_book_44 : decode cX11_book 44 = .ok (.iload_n 2, 1) := by decide +kernel
theorem dX11_book_45 : decode cX11_book 45 = .ok (.iastore, 1) := by decide +kernel
theorem dX11_book_46 : decode cX11_book 46 = .ok (.iload_n 3, 1) := by decide +kernel
theorem dX11_book_47 : decode cX11_book 47 = .ok (.ireturn, 1) := by decide +kernel
theorem dX11_isUnder_0 : decode cX11_isUnder 0 = .ok (.iload_n 1, 1) := by decide +kernel
theorem dX11_isUnder_1 : decode cX11_isUnder 1 = .ok (.istore_n 3, 1) := by decide +kernel
theorem dX11_isUnder_2 : decode cX11_isUnder 2 = .ok (.iload_n 3, 1) := by decide +kernel
theorem dX11_isUnder_3 : decode cX11_isUnder 3 = .ok (.iload_n 2, 1) := by decide +kernel
theorem dX11_isUnder_4 : decode cX11_isUnder 4 = .ok (.if_icmp .le 19, 3) := by decide +kernel
theorem dX11_isUnder_7 : decode cX11_isUnder 7 = .ok (.aload_n 0, 1) := by decide +kernel
theorem dX11_isUnder_8 : decode cX11_isUnder 8 = .ok (.getfield 7, 3) := by decide +kernel
theorem dX11_isUnder_11 : decode cX11_isUnder 11 = .ok (.sipush 129, 3) := by decide +kernel
theorem dX11_isUnder_14 : decode cX11_isUnder 14 = .ok (.iconst 2, 1) := by decide +kernel
theorem dX11_isUnder_15 : decode cX11_isUnder 15 = .ok (.iload_n 3, 1) := by decide +kernel
theorem dX11_isUnder_16 : decode cX11_isUnder 16 = .ok (.imul, 1) := by decide +kernel
theorem dX11_isUnder_17 : decode cX11_isUnder 17 = .ok (.iadd, 1) := by decide +kernel
theorem dX11_isUnder_18 : decode cX11_isUnder 18 = .ok (.iaload, 1) := by decide +kernel
theorem dX11_isUnder_19 : decode cX11_isUnder 19 = .ok (.istore_n 3, 1) := by decide +kernel
theorem dX11_isUnder_20 : decode cX11_isUnder 20 = .ok (.goto (-18), 3) := by decide +kernel
theorem dX11_isUnder_23 : decode cX11_isUnder 23 = .ok (.iload_n 3, 1) := by decide +kernel
theorem dX11_isUnder_24 : decode cX11_isUnder 24 = .ok (.iload_n 2, 1) := by decide +kernel
theorem dX11_isUnder_25 : decode cX11_isUnder 25 = .ok (.if_icmp .ne 7, 3) := by decide +kernel
theorem dX11_isUnder_28 : decode cX11_isUnder 28 = .ok (.iconst 1, 1) := by decide +kernel
theorem dX11_isUnder_29 : decode cX11_isUnder 29 = .ok (.goto 4, 3) := by decide +kernel
theorem dX11_isUnder_32 : decode cX11_isUnder 32 = .ok (.iconst 0, 1) := by decide +kernel
theorem dX11_isUnder_33 : decode cX11_isUnder 33 = .ok (.ireturn, 1) := by decide +kernel
theorem dX11_depth_0 : decode cX11_depth 0 = .ok (.iconst 0, 1) := by decide +kernel
theorem dX11_depth_1 : decode cX11_depth 1 = .ok (.istore_n 2, 1) := by decide +kernel
theorem dX11_depth_2 : decode cX11_depth 2 = .ok (.iload_n 1, 1) := by decide +kernel
theorem dX11_depth_3 : decode cX11_depth 3 = .ok (.istore_n 3, 1) := by decide +kernel
theorem dX11_depth_4 : decode cX11_depth 4 = .ok (.iload_n 3, 1) := by decide +kernel
theorem dX11_depth_5 : decode cX11_depth 5 = .ok (.ifCond .le 22, 3) := by decide +kernel
theorem dX11_depth_8 : decode cX11_depth 8 = .ok (.iinc 2 1, 3) := by decide +kernel
theorem dX11_depth_11 : decode cX11_depth 11 = .ok (.aload_n 0, 1) := by decide +kernel
theorem dX11_depth_12 : decode cX11_depth 12 = .ok (.getfield 7, 3) := by decide +kernel
theorem dX11_depth_15 : decode cX11_depth 15 = .ok (.sipush 129, 3) := by decide +kernel
theorem dX11_depth_18 : decode cX11_depth 18 = .ok (.iconst 2, 1) := by decide +kernel
theorem dX11_depth_19 : decode cX11_depth 19 = .ok (.iload_n 3, 1) := by decide +kernel
theorem dX11_depth_20 : decode cX11_depth 20 = .ok (.imul, 1) := by decide +kernel
theorem dX11_depth_21 : decode cX11_depth 21 = .ok (.iadd, 1) := by decide +kernel
theorem dX11_depth_22 : decode cX11_depth 22 = .ok (.iaload, 1) := by decide +kernel
theorem dX11_depth_23 : decode cX11_depth 23 = .ok (.istore_n 3, 1) := by decide +kernel
theorem dX11_depth_24 : decode cX11_depth 24 = .ok (.goto (-20), 3) := by decide +kernel
theorem dX11_depth_27 : decode cX11_depth 27 = .ok (.iload_n 2, 1) := by decide +kernel
theorem dX11_depth_28 : decode cX11_depth 28 = .ok (.ireturn, 1) := by decide +kernel
theorem dX11_accountOf_0 : decode cX11_accountOf 0 = .ok (.aload_n 0, 1) := by decide +kernel
theorem dX11_accountOf_1 : decode cX11_accountOf 1 = .ok (.iload_n 1, 1) := by decide +kernel
theorem dX11_accountOf_2 : decode cX11_accountOf 2 = .ok (.invokevirtual 89, 3) := by decide +kernel
theorem dX11_accountOf_5 : decode cX11_accountOf 5 = .ok (.ifCond .eq 12, 3) := by decide +kernel
theorem dX11_accountOf_8 : decode cX11_accountOf 8 = .ok (.iload_n 2, 1) := by decide +kernel
theorem dX11_accountOf_9 : decode cX11_accountOf 9 = .ok (.iconst 0, 1) := by decide +kernel
theorem dX11_accountOf_10 : decode cX11_accountOf 10 = .ok (.iconst 4, 1) := by decide +kernel
theorem dX11_accountOf_11 : decode cX11_accountOf 11 = .ok (.invokestatic 37, 3) := by decide +kernel
theorem dX11_accountOf_14 : decode cX11_accountOf 14 = .ok (.ifCond .ne 6, 3) := by decide +kernel
theorem dX11_accountOf_17 : decode cX11_accountOf 17 = .ok (.ldc 41, 2) := by decide +kernel
theorem dX11_accountOf_19 : decode cX11_accountOf 19 = .ok (.ireturn, 1) := by decide +kernel
theorem dX11_accountOf_20 : decode cX11_accountOf 20 = .ok (.iconst 0, 1) := by decide +kernel
theorem dX11_accountOf_21 : decode cX11_accountOf 21 = .ok (.istore_n 3, 1) := by decide +kernel
theorem dX11_accountOf_22 : decode cX11_accountOf 22 = .ok (.iconst 0, 1) := by decide +kernel
theorem dX11_accountOf_23 : decode cX11_accountOf 23 = .ok (.istore 4, 2) := by decide +kernel
theorem dX11_accountOf_25 : decode cX11_accountOf 25 = .ok (.iload_n 1, 1) := by decide +kernel
theorem dX11_accountOf_26 : decode cX11_accountOf 26 = .ok (.istore 5, 2) := by decide +kernel
theorem dX11_accountOf_28 : decode cX11_accountOf 28 = .ok (.iload 5, 2) := by decide +kernel
theorem dX11_accountOf_30 : decode cX11_accountOf 30 = .ok (.aload_n 0, 1) := by decide +kernel
theorem dX11_accountOf_31 : decode cX11_accountOf 31 = .ok (.getfield 7, 3) := by decide +kernel
theorem dX11_accountOf_34 : decode cX11_accountOf 34 = .ok (.bipush 14, 2) := by decide +kernel
theorem dX11_accountOf_36 : decode cX11_accountOf 36 = .ok (.iaload, 1) := by decide +kernel
theorem dX11_accountOf_37 : decode cX11_accountOf 37 = .ok (.if_icmp .ge 60, 3) := by decide +kernel
theorem dX11_accountOf_40 : decode cX11_accountOf 40 = .ok (.aload_n 0, 1) := by decide +kernel
theorem dX11_accountOf_41 : decode cX11_accountOf 41 = .ok (.iload 5, 2) := by decide +kernel
theorem dX11_accountOf_43 : decode cX11_accountOf 43 = .ok (.iload_n 1, 1) := by decide +kernel
theorem dX11_accountOf_44 : decode cX11_accountOf 44 = .ok (.invokevirtual 92, 3) := by decide +kernel
theorem dX11_accountOf_47 : decode cX11_accountOf 47 = .ok (.istore 6, 2) := by decide +kernel
theorem dX11_accountOf_49 : decode cX11_accountOf 49 = .ok (.iload_n 3, 1) := by decide +kernel
theorem dX11_accountOf_50 : decode cX11_accountOf 50 = .ok (.iload 6, 2) := by decide +kernel
theorem dX11_accountOf_52 : decode cX11_accountOf 52 = .ok (.ifCond .eq 21, 3) := by decide +kernel
theorem dX11_accountOf_55 : decode cX11_accountOf 55 = .ok (.aload_n 0, 1) := by decide +kernel
theorem dX11_accountOf_56 : decode cX11_accountOf 56 = .ok (.getfield 7, 3) := by decide +kernel
theorem dX11_accountOf_59 : decode cX11_accountOf 59 = .ok (.sipush 129, 3) := by decide +kernel
theorem dX11_accountOf_62 : decode cX11_accountOf 62 = .ok (.iconst 2, 1) := by decide +kernel
theorem dX11_accountOf_63 : decode cX11_accountOf 63 = .ok (.iload 5, 2) := by decide +kernel
theorem dX11_accountOf_65 : decode cX11_accountOf 65 = .ok (.imul, 1) := by decide +kernel
theorem dX11_accountOf_66 : decode cX11_accountOf 66 = .ok (.iadd, 1) := by decide +kernel
theorem dX11_accountOf_67 : decode cX11_accountOf 67 = .ok (.iconst 1, 1) := by decide +kernel
theorem dX11_accountOf_68 : decode cX11_accountOf 68 = .ok (.iadd, 1) := by decide +kernel
theorem dX11_accountOf_69 : decode cX11_accountOf 69 = .ok (.iaload, 1) := by decide +kernel
theorem dX11_accountOf_70 : decode cX11_accountOf 70 = .ok (.goto 4, 3) := by decide +kernel
theorem dX11_accountOf_73 : decode cX11_accountOf 73 = .ok (.iconst 0, 1) := by decide +kernel
theorem dX11_accountOf_74 : decode cX11_accountOf 74 = .ok (.iadd, 1) := by decide +kernel
theorem dX11_accountOf_75 : decode cX11_accountOf 75 = .ok (.istore_n 3, 1) := by decide +kernel
theorem dX11_accountOf_76 : decode cX11_accountOf 76 = .ok (.iload 4, 2) := by decide +kernel
theorem dX11_accountOf_78 : decode cX11_accountOf 78 = .ok (.iload 6, 2) := by decide +kernel
theorem dX11_accountOf_80 : decode cX11_accountOf 80 = .ok (.ifCond .eq 7, 3) := by decide +kernel
theorem dX11_accountOf_83 : decode cX11_accountOf 83 = .ok (.iconst 1, 1) := by decide +kernel
theorem dX11_accountOf_84 : decode cX11_accountOf 84 = .ok (.goto 4, 3) := by decide +kernel
theorem dX11_accountOf_87 : decode cX11_accountOf 87 = .ok (.iconst 0, 1) := by decide +kernel
theorem dX11_accountOf_88 : decode cX11_accountOf 88 = .ok (.iadd, 1) := by decide +kernel
theorem dX11_accountOf_89 : decode cX11_accountOf 89 = .ok (.istore 4, 2) := by decide +kernel
theorem dX11_accountOf_91 : decode cX11_accountOf 91 = .ok (.iinc 5 1, 3) := by decide +kernel
theorem dX11_accountOf_94 : decode cX11_accountOf 94 = .ok (.goto (-66), 3) := by decide +kernel
theorem dX11_accountOf_97 : decode cX11_accountOf 97 = .ok (.iload_n 2, 1) := by decide +kernel
theorem dX11_accountOf_98 : decode cX11_accountOf 98 = .ok (.iconst 2, 1) := by decide +kernel
theorem dX11_accountOf_99 : decode cX11_accountOf 99 = .ok (.if_icmp .ge 20, 3) := by decide +kernel
theorem dX11_accountOf_102 : decode cX11_accountOf 102 = .ok (.aload_n 0, 1) := by decide +kernel
theorem dX11_accountOf_103 : decode cX11_accountOf 103 = .ok (.getfield 7, 3) := by decide +kernel
theorem dX11_accountOf_106 : decode cX11_accountOf 106 = .ok (.sipush 129, 3) := by decide +kernel
theorem dX11_accountOf_109 : decode cX11_accountOf 109 = .ok (.iconst 2, 1) := by decide +kernel
theorem dX11_accountOf_110 : decode cX11_accountOf 110 = .ok (.iload_n 1, 1) := by decide +kernel
theorem dX11_accountOf_111 : decode cX11_accountOf 111 = .ok (.imul, 1) := by decide +kernel
theorem dX11_accountOf_112 : decode cX11_accountOf 112 = .ok (.iadd, 1) := by decide +kernel
theorem dX11_accountOf_113 : decode cX11_accountOf 113 = .ok (.iload_n 2, 1) := by decide +kernel
theorem dX11_accountOf_114 : decode cX11_accountOf 114 = .ok (.iadd, 1) := by decide +kernel
theorem dX11_accountOf_115 : decode cX11_accountOf 115 = .ok (.iaload, 1) := by decide +kernel
theorem dX11_accountOf_116 : decode cX11_accountOf 116 = .ok (.goto 29, 3) := by decide +kernel
theorem dX11_accountOf_119 : decode cX11_accountOf 119 = .ok (.iload_n 2, 1) := by decide +kernel
theorem dX11_accountOf_120 : decode cX11_accountOf 120 = .ok (.iconst 2, 1) := by decide +kernel
theorem dX11_accountOf_121 : decode cX11_accountOf 121 = .ok (.if_icmp .ne 7, 3) := by decide +kernel
theorem dX11_accountOf_124 : decode cX11_accountOf 124 = .ok (.iload_n 3, 1) := by decide +kernel
theorem dX11_accountOf_125 : decode cX11_accountOf 125 = .ok (.goto 20, 3) := by decide +kernel
theorem dX11_accountOf_128 : decode cX11_accountOf 128 = .ok (.iload_n 2, 1) := by decide +kernel
theorem dX11_accountOf_129 : decode cX11_accountOf 129 = .ok (.iconst 3, 1) := by decide +kernel
theorem dX11_accountOf_130 : decode cX11_accountOf 130 = .ok (.if_icmp .ne 10, 3) := by decide +kernel
theorem dX11_accountOf_133 : decode cX11_accountOf 133 = .ok (.iload 4, 2) := by decide +kernel
theorem dX11_accountOf_135 : decode cX11_accountOf 135 = .ok (.iconst 1, 1) := by decide +kernel
theorem dX11_accountOf_136 : decode cX11_accountOf 136 = .ok (.isub, 1) := by decide +kernel
theorem dX11_accountOf_137 : decode cX11_accountOf 137 = .ok (.goto 8, 3) := by decide +kernel
theorem dX11_accountOf_140 : decode cX11_accountOf 140 = .ok (.aload_n 0, 1) := by decide +kernel
theorem dX11_accountOf_141 : decode cX11_accountOf 141 = .ok (.iload_n 1, 1) := by decide +kernel
theorem dX11_accountOf_142 : decode cX11_accountOf 142 = .ok (.invokevirtual 96, 3) := by decide +kernel
theorem dX11_accountOf_145 : decode cX11_accountOf 145 = .ok (.ireturn, 1) := by decide +kernel
theorem dX11_massAt_0 : decode cX11_massAt 0 = .ok (.iload_n 1, 1) := by decide +kernel
theorem dX11_massAt_1 : decode cX11_massAt 1 = .ok (.iconst 0, 1) := by decide +kernel
theorem dX11_massAt_2 : decode cX11_massAt 2 = .ok (.bipush 11, 2) := by decide +kernel
theorem dX11_massAt_4 : decode cX11_massAt 4 = .ok (.invokestatic 37, 3) := by decide +kernel
theorem dX11_massAt_7 : decode cX11_massAt 7 = .ok (.ifCond .eq 12, 3) := by decide +kernel
theorem dX11_massAt_10 : decode cX11_massAt 10 = .ok (.iload_n 2, 1) := by decide +kernel
theorem dX11_massAt_11 : decode cX11_massAt 11 = .ok (.iconst (-1), 1) := by decide +kernel
theorem dX11_massAt_12 : decode cX11_massAt 12 = .ok (.iconst 3, 1) := by decide +kernel
theorem dX11_massAt_13 : decode cX11_massAt 13 = .ok (.invokestatic 37, 3) := by decide +kernel
theorem dX11_massAt_16 : decode cX11_massAt 16 = .ok (.ifCond .ne 6, 3) := by decide +kernel
theorem dX11_massAt_19 : decode cX11_massAt 19 = .ok (.ldc 41, 2) := by decide +kernel
theorem dX11_massAt_21 : decode cX11_massAt 21 = .ok (.ireturn, 1) := by decide +kernel
theorem dX11_massAt_22 : decode cX11_massAt 22 = .ok (.iload_n 2, 1) := by decide +kernel
theorem dX11_massAt_23 : decode cX11_massAt 23 = .ok (.ifCond .ge 12, 3) := by decide +kernel
theorem dX11_massAt_26 : decode cX11_massAt 26 = .ok (.aload_n 0, 1) := by decide +kernel
theorem dX11_massAt_27 : decode cX11_massAt 27 = .ok (.iload_n 1, 1) := by decide +kernel
theorem dX11_massAt_28 : decode cX11_massAt 28 = .ok (.iload_n 1, 1) := by decide +kernel
theorem dX11_massAt_29 : decode cX11_massAt 29 = .ok (.invokevirtual 51, 3) := by decide +kernel
theorem dX11_massAt_32 : decode cX11_massAt 32 = .ok (.goto 16, 3) := by decide +kernel
theorem dX11_massAt_35 : decode cX11_massAt 35 = .ok (.aload_n 0, 1) := by decide +kernel
theorem dX11_massAt_36 : decode cX11_massAt 36 = .ok (.getfield 7, 3) := by decide +kernel
theorem dX11_massAt_39 : decode cX11_massAt 39 = .ok (.bipush 21, 2) := by decide +kernel
theorem dX11_massAt_41 : decode cX11_massAt 41 = .ok (.iconst 4, 1) := by decide +kernel
theorem dX11_massAt_42 : decode cX11_massAt 42 = .ok (.iload_n 1, 1) := by decide +kernel
theorem dX11_massAt_43 : decode cX11_massAt 43 = .ok (.imul, 1) := by decide +kernel
theorem dX11_massAt_44 : decode cX11_massAt 44 = .ok (.iadd, 1) := by decide +kernel
theorem dX11_massAt_45 : decode cX11_massAt 45 = .ok (.iload_n 2, 1) := by decide +kernel
theorem dX11_massAt_46 : decode cX11_massAt 46 = .ok (.iadd, 1) := by decide +kernel
theorem dX11_massAt_47 : decode cX11_massAt 47 = .ok (.iaload, 1) := by decide +kernel
theorem dX11_massAt_48 : decode cX11_massAt 48 = .ok (.ireturn, 1) := by decide +kernel
theorem dX11_lotOf_0 : decode cX11_lotOf 0 = .ok (.iload_n 1, 1) := by decide +kernel
theorem dX11_lotOf_1 : decode cX11_lotOf 1 = .ok (.ifCond .lt 12, 3) := by decide +kernel
theorem dX11_lotOf_4 : decode cX11_lotOf 4 = .ok (.iload_n 2, 1) := by decide +kernel
theorem dX11_lotOf_5 : decode cX11_lotOf 5 = .ok (.iconst 0, 1) := by decide +kernel
theorem dX11_lotOf_6 : decode cX11_lotOf 6 = .ok (.iconst 1, 1) := by decide +kernel
theorem dX11_lotOf_7 : decode cX11_lotOf 7 = .ok (.invokestatic 37, 3) := by decide +kernel
theorem dX11_lotOf_10 : decode cX11_lotOf 10 = .ok (.ifCond .ne 6, 3) := by decide +kernel
theorem dX11_lotOf_13 : decode cX11_lotOf 13 = .ok (.ldc 41, 2) := by decide +kernel
theorem dX11_lotOf_15 : decode cX11_lotOf 15 = .ok (.ireturn, 1) := by decide +kernel
theorem dX11_lotOf_16 : decode cX11_lotOf 16 = .ok (.iload_n 1, 1) := by decide +kernel
theorem dX11_lotOf_17 : decode cX11_lotOf 17 = .ok (.aload_n 0, 1) := by decide +kernel
theorem dX11_lotOf_18 : decode cX11_lotOf 18 = .ok (.getfield 7, 3) := by decide +kernel
theorem dX11_lotOf_21 : decode cX11_lotOf 21 = .ok (.bipush 13, 2) := by decide +kernel
theorem dX11_lotOf_23 : decode cX11_lotOf 23 = .ok (.iaload, 1) := by decide +kernel
theorem dX11_lotOf_24 : decode cX11_lotOf 24 = .ok (.if_icmp .lt 8, 3) := by decide +kernel
theorem dX11_lotOf_27 : decode cX11_lotOf 27 = .ok (.ldc 28, 2) := by decide +kernel
theorem dX11_lotOf_29 : decode cX11_lotOf 29 = .ok (.goto 16, 3) := by decide +kernel
theorem dX11_lotOf_32 : decode cX11_lotOf 32 = .ok (.aload_n 0, 1) := by decide +kernel
theorem dX11_lotOf_33 : decode cX11_lotOf 33 = .ok (.getfield 7, 3) := by decide +kernel
theorem dX11_lotOf_36 : decode cX11_lotOf 36 = .ok (.bipush 69, 2) := by decide +kernel
theorem dX11_lotOf_38 : decode cX11_lotOf 38 = .ok (.iconst 2, 1) := by decide +kernel
theorem dX11_lotOf_39 : decode cX11_lotOf 39 = .ok (.iload_n 1, 1) := by decide +kernel
theorem dX11_lotOf_40 : decode cX11_lotOf 40 = .ok (.imul, 1) := by decide +kernel
theorem dX11_lotOf_41 : decode cX11_lotOf 41 = .ok (.iadd, 1) := by decide +kernel
theorem dX11_lotOf_42 : decode cX11_lotOf 42 = .ok (.iload_n 2, 1) := by decide +kernel
theorem dX11_lotOf_43 : decode cX11_lotOf 43 = .ok (.iadd, 1) := by decide +kernel
theorem dX11_lotOf_44 : decode cX11_lotOf 44 = .ok (.iaload, 1) := by decide +kernel
theorem dX11_lotOf_45 : decode cX11_lotOf 45 = .ok (.ireturn, 1) := by decide +kernel
theorem dX11_binOf_0 : decode cX11_binOf 0 = .ok (.aload_n 0, 1) := by decide +kernel
theorem dX11_binOf_1 : decode cX11_binOf 1 = .ok (.iload_n 1, 1) := by decide +kernel
theorem dX11_binOf_2 : decode cX11_binOf 2 = .ok (.invokevirtual 75, 3) := by decide +kernel
theorem dX11_binOf_5 : decode cX11_binOf 5 = .ok (.ifCond .eq 13, 3) := by decide +kernel
theorem dX11_binOf_8 : decode cX11_binOf 8 = .ok (.iload_n 2, 1) := by decide +kernel
theorem dX11_binOf_9 : decode cX11_binOf 9 = .ok (.iconst 0, 1) := by decide +kernel
theorem dX11_binOf_10 : decode cX11_binOf 10 = .ok (.bipush 6, 2) := by decide +kernel
theorem dX11_binOf_12 : decode cX11_binOf 12 = .ok (.invokestatic 37, 3) := by decide +kernel
theorem dX11_binOf_15 : decode cX11_binOf 15 = .ok (.ifCond .ne 6, 3) := by decide +kernel
theorem dX11_binOf_18 : decode cX11_binOf 18 = .ok (.ldc 41, 2) := by decide +kernel
theorem dX11_binOf_20 : decode cX11_binOf 20 = .ok (.ireturn, 1) := by decide +kernel
theorem dX11_binOf_21 : decode cX11_binOf 21 = .ok (.iload_n 2, 1) := by decide +kernel
theorem dX11_binOf_22 : decode cX11_binOf 22 = .ok (.iconst 4, 1) := by decide +kernel
theorem dX11_binOf_23 : decode cX11_binOf 23 = .ok (.if_icmp .ge 20, 3) := by decide +kernel
theorem dX11_binOf_26 : decode cX11_binOf 26 = .ok (.aload_n 0, 1) := by decide +kernel
theorem dX11_binOf_27 : decode cX11_binOf 27 = .ok (.getfield 7, 3) := by decide +kernel
theorem dX11_binOf_30 : decode cX11_binOf 30 = .ok (.bipush 81, 2) := by decide +kernel
theorem dX11_binOf_32 : decode cX11_binOf 32 = .ok (.bipush 6, 2) := by decide +kernel
theorem dX11_binOf_34 : decode cX11_binOf 34 = .ok (.iload_n 1, 1) := by decide +kernel
theorem dX11_binOf_35 : decode cX11_binOf 35 = .ok (.imul, 1) := by decide +kernel
theorem dX11_binOf_36 : decode cX11_binOf 36 = .ok (.iadd, 1) := by decide +kernel
theorem dX11_binOf_37 : decode cX11_binOf 37 = .ok (.iload_n 2, 1) := by decide +kernel
theorem dX11_binOf_38 : decode cX11_binOf 38 = .ok (.iadd, 1) := by decide +kernel
theorem dX11_binOf_39 : decode cX11_binOf 39 = .ok (.iaload, 1) := by decide +kernel
theorem dX11_binOf_40 : decode cX11_binOf 40 = .ok (.goto 55, 3) := by decide +kernel
theorem dX11_binOf_43 : decode cX11_binOf 43 = .ok (.iload_n 2, 1) := by decide +kernel
theorem dX11_binOf_44 : decode cX11_binOf 44 = .ok (.iconst 4, 1) := by decide +kernel
theorem dX11_binOf_45 : decode cX11_binOf 45 = .ok (.if_icmp .ne 11, 3) := by decide +kernel
theorem dX11_binOf_48 : decode cX11_binOf 48 = .ok (.aload_n 0, 1) := by decide +kernel
theorem dX11_binOf_49 : decode cX11_binOf 49 = .ok (.iload_n 1, 1) := by decide +kernel
theorem dX11_binOf_50 : decode cX11_binOf 50 = .ok (.invokevirtual 81, 3) := by decide +kernel
theorem dX11_binOf_53 : decode cX11_binOf 53 = .ok (.goto 42, 3) := by decide +kernel
theorem dX11_binOf_56 : decode cX11_binOf 56 = .ok (.iload_n 2, 1) := by decide +kernel
theorem dX11_binOf_57 : decode cX11_binOf 57 = .ok (.iconst 5, 1) := by decide +kernel
theorem dX11_binOf_58 : decode cX11_binOf 58 = .ok (.if_icmp .ne 23, 3) := by decide +kernel
theorem dX11_binOf_61 : decode cX11_binOf 61 = .ok (.aload_n 0, 1) := by decide +kernel
theorem dX11_binOf_62 : decode cX11_binOf 62 = .ok (.getfield 7, 3) := by decide +kernel
theorem dX11_binOf_65 : decode cX11_binOf 65 = .ok (.bipush 81, 2) := by decide +kernel
theorem dX11_binOf_67 : decode cX11_binOf 67 = .ok (.bipush 6, 2) := by decide +kernel
theorem dX11_binOf_69 : decode cX11_binOf 69 = .ok (.iload_n 1, 1) := by decide +kernel
theorem dX11_binOf_70 : decode cX11_binOf 70 = .ok (.imul, 1) := by decide +kernel
theorem dX11_binOf_71 : decode cX11_binOf 71 = .ok (.iadd, 1) := by decide +kernel
theorem dX11_binOf_72 : decode cX11_binOf 72 = .ok (.iconst 4, 1) := by decide +kernel
theorem dX11_binOf_73 : decode cX11_binOf 73 = .ok (.iadd, 1) := by decide +kernel
theorem dX11_binOf_74 : decode cX11_binOf 74 = .ok (.iaload, 1) := by decide +kernel
theorem dX11_binOf_75 : decode cX11_binOf 75 = .ok (.ldc 99, 2) := by decide +kernel
theorem dX11_binOf_77 : decode cX11_binOf 77 = .ok (.iadd, 1) := by decide +kernel
theorem dX11_binOf_78 : decode cX11_binOf 78 = .ok (.goto 17, 3) := by decide +kernel
theorem dX11_binOf_81 : decode cX11_binOf 81 = .ok (.aload_n 0, 1) := by decide +kernel
theorem dX11_binOf_82 : decode cX11_binOf 82 = .ok (.getfield 7, 3) := by decide +kernel
theorem dX11_binOf_85 : decode cX11_binOf 85 = .ok (.bipush 81, 2) := by decide +kernel
theorem dX11_binOf_87 : decode cX11_binOf 87 = .ok (.bipush 6, 2) := by decide +kernel
theorem dX11_binOf_89 : decode cX11_binOf 89 = .ok (.iload_n 1, 1) := by decide +kernel
theorem dX11_binOf_90 : decode cX11_binOf 90 = .ok (.imul, 1) := by decide +kernel
theorem dX11_binOf_91 : decode cX11_binOf 91 = .ok (.iadd, 1) := by decide +kernel
theorem dX11_binOf_92 : decode cX11_binOf 92 = .ok (.iconst 5, 1) := by decide +kernel
theorem dX11_binOf_93 : decode cX11_binOf 93 = .ok (.iadd, 1) := by decide +kernel
theorem dX11_binOf_94 : decode cX11_binOf 94 = .ok (.iaload, 1) := by decide +kernel
theorem dX11_binOf_95 : decode cX11_binOf 95 = .ok (.ireturn, 1) := by decide +kernel
theorem dX11_total_0 : decode cX11_total 0 = .ok (.aload_n 0, 1) := by decide +kernel
theorem dX11_total_1 : decode cX11_total 1 = .ok (.getfield 7, 3) := by decide +kernel
theorem dX11_total_4 : decode cX11_total 4 = .ok (.iconst 5, 1) := by decide +kernel
theorem dX11_total_5 : decode cX11_total 5 = .ok (.iaload, 1) := by decide +kernel
theorem dX11_total_6 : decode cX11_total 6 = .ok (.i2l, 1) := by decide +kernel
theorem dX11_total_7 : decode cX11_total 7 = .ok (.aload_n 0, 1) := by decide +kernel
theorem dX11_total_8 : decode cX11_total 8 = .ok (.getfield 7, 3) := by decide +kernel
theorem dX11_total_11 : decode cX11_total 11 = .ok (.bipush 7, 2) := by decide +kernel
theorem dX11_total_13 : decode cX11_total 13 = .ok (.iaload, 1) := by decide +kernel
theorem dX11_total_14 : decode cX11_total 14 = .ok (.i2l, 1) := by decide +kernel
theorem dX11_total_15 : decode cX11_total 15 = .ok (.lmul, 1) := by decide +kernel
theorem dX11_total_16 : decode cX11_total 16 = .ok (.ldc2_w 79, 3) := by decide +kernel
theorem dX11_total_19 : decode cX11_total 19 = .ok (.ldiv, 1) := by decide +kernel
theorem dX11_total_20 : decode cX11_total 20 = .ok (.l2i, 1) := by decide +kernel
theorem dX11_total_21 : decode cX11_total 21 = .ok (.ireturn, 1) := by decide +kernel
theorem dX11_scale_0 : decode cX11_scale 0 = .ok (.iload_n 1, 1) := by decide +kernel
theorem dX11_scale_1 : decode cX11_scale 1 = .ok (.tableswitch 105 0 6 #[43, 51, 61, 71, 81, 89, 97], 43) := by decide +kernel
theorem dX11_scale_44 : decode cX11_scale 44 = .ok (.aload_n 0, 1) := by decide +kernel
theorem dX11_scale_45 : decode cX11_scale 45 = .ok (.invokevirtual 55, 3) := by decide +kernel
theorem dX11_scale_48 : decode cX11_scale 48 = .ok (.ldc 74, 2) := by decide +kernel
theorem dX11_scale_50 : decode cX11_scale 50 = .ok (.iadd, 1) := by decide +kernel
theorem dX11_scale_51 : decode cX11_scale 51 = .ok (.ireturn, 1) := by decide +kernel
theorem dX11_scale_52 : decode cX11_scale 52 = .ok (.aload_n 0, 1) := by decide +kernel
theorem dX11_scale_53 : decode cX11_scale 53 = .ok (.getfield 7, 3) := by decide +kernel
theorem dX11_scale_56 : decode cX11_scale 56 = .ok (.iconst 3, 1) := by decide +kernel
theorem dX11_scale_57 : decode cX11_scale 57 = .ok (.iaload, 1) := by decide +kernel
theorem dX11_scale_58 : decode cX11_scale 58 = .ok (.ldc 74, 2) := by decide +kernel
theorem dX11_scale_60 : decode cX11_scale 60 = .ok (.iadd, 1) := by decide +kernel
theorem dX11_scale_61 : decode cX11_scale 61 = .ok (.ireturn, 1) := by decide +kernel
theorem dX11_scale_62 : decode cX11_scale 62 = .ok (.aload_n 0, 1) := by decide +kernel
theorem dX11_scale_63 : decode cX11_scale 63 = .ok (.getfield 7, 3) := by decide +kernel
theorem dX11_scale_66 : decode cX11_scale 66 = .ok (.iconst 4, 1) := by decide +kernel
theorem dX11_scale_67 : decode cX11_scale 67 = .ok (.iaload, 1) := by decide +kernel
theorem dX11_scale_68 : decode cX11_scale 68 = .ok (.ldc 74, 2) := by decide +kernel
theorem dX11_scale_70 : decode cX11_scale 70 = .ok (.iadd, 1) := by decide +kernel
theorem dX11_scale_71 : decode cX11_scale 71 = .ok (.ireturn, 1) := by decide +kernel
theorem dX11_scale_72 : decode cX11_scale 72 = .ok (.aload_n 0, 1) := by decide +kernel
theorem dX11_scale_73 : decode cX11_scale 73 = .ok (.getfield 7, 3) := by decide +kernel
theorem dX11_scale_76 : decode cX11_scale 76 = .ok (.iconst 5, 1) := by decide +kernel
theorem dX11_scale_77 : decode cX11_scale 77 = .ok (.iaload, 1) := by decide +kernel
theorem dX11_scale_78 : decode cX11_scale 78 = .ok (.ldc 99, 2) := by decide +kernel
theorem dX11_scale_80 : decode cX11_scale 80 = .ok (.iadd, 1) := by decide +kernel
theorem dX11_scale_81 : decode cX11_scale 81 = .ok (.ireturn, 1) := by decide +kernel
theorem dX11_scale_82 : decode cX11_scale 82 = .ok (.aload_n 0, 1) := by decide +kernel
theorem dX11_scale_83 : decode cX11_scale 83 = .ok (.invokevirtual 100, 3) := by decide +kernel
theorem dX11_scale_86 : decode cX11_scale 86 = .ok (.ldc 99, 2) := by decide +kernel
theorem dX11_scale_88 : decode cX11_scale 88 = .ok (.iadd, 1) := by decide +kernel
theorem dX11_scale_89 : decode cX11_scale 89 = .ok (.ireturn, 1) := by decide +kernel
theorem dX11_scale_90 : decode cX11_scale 90 = .ok (.aload_n 0, 1) := by decide +kernel
theorem dX11_scale_91 : decode cX11_scale 91 = .ok (.getfield 7, 3) := by decide +kernel
theorem dX11_scale_94 : decode cX11_scale 94 = .ok (.bipush 7, 2) := by decide +kernel
theorem dX11_scale_96 : decode cX11_scale 96 = .ok (.iaload, 1) := by decide +kernel
theorem dX11_scale_97 : decode cX11_scale 97 = .ok (.ireturn, 1) := by decide +kernel
theorem dX11_scale_98 : decode cX11_scale 98 = .ok (.aload_n 0, 1) := by decide +kernel
theorem dX11_scale_99 : decode cX11_scale 99 = .ok (.getfield 7, 3) := by decide +kernel
theorem dX11_scale_102 : decode cX11_scale 102 = .ok (.bipush 8, 2) := by decide +kernel
theorem dX11_scale_104 : decode cX11_scale 104 = .ok (.iaload, 1) := by decide +kernel
theorem dX11_scale_105 : decode cX11_scale 105 = .ok (.ireturn, 1) := by decide +kernel
theorem dX11_scale_106 : decode cX11_scale 106 = .ok (.ldc 41, 2) := by decide +kernel
theorem dX11_scale_108 : decode cX11_scale 108 = .ok (.ireturn, 1) := by decide +kernel
theorem dX11_hopper_0 : decode cX11_hopper 0 = .ok (.iconst 0, 1) := by decide +kernel
theorem dX11_hopper_1 : decode cX11_hopper 1 = .ok (.istore_n 1, 1) := by decide +kernel
theorem dX11_hopper_2 : decode cX11_hopper 2 = .ok (.iconst 0, 1) := by decide +kernel
theorem dX11_hopper_3 : decode cX11_hopper 3 = .ok (.istore_n 2, 1) := by decide +kernel
theorem dX11_hopper_4 : decode cX11_hopper 4 = .ok (.iload_n 2, 1) := by decide +kernel
theorem dX11_hopper_5 : decode cX11_hopper 5 = .ok (.aload_n 0, 1) := by decide +kernel
theorem dX11_hopper_6 : decode cX11_hopper 6 = .ok (.getfield 7, 3) := by decide +kernel
theorem dX11_hopper_9 : decode cX11_hopper 9 = .ok (.bipush 13, 2) := by decide +kernel
theorem dX11_hopper_11 : decode cX11_hopper 11 = .ok (.iaload, 1) := by decide +kernel
theorem dX11_hopper_12 : decode cX11_hopper 12 = .ok (.if_icmp .ge 25, 3) := by decide +kernel
theorem dX11_hopper_15 : decode cX11_hopper 15 = .ok (.iload_n 1, 1) := by decide +kernel
theorem dX11_hopper_16 : decode cX11_hopper 16 = .ok (.aload_n 0, 1) := by decide +kernel
theorem dX11_hopper_17 : decode cX11_hopper 17 = .ok (.getfield 7, 3) := by decide +kernel
theorem dX11_hopper_20 : decode cX11_hopper 20 = .ok (.bipush 69, 2) := by decide +kernel
theorem dX11_hopper_22 : decode cX11_hopper 22 = .ok (.iconst 2, 1) := by decide +kernel
theorem dX11_hopper_23 : decode cX11_hopper 23 = .ok (.iload_n 2, 1) := by decide +kernel
theorem dX11_hopper_24 : decode cX11_hopper 24 = .ok (.imul, 1) := by decide +kernel
theorem dX11_hopper_25 : decode cX11_hopper 25 = .ok (.iadd, 1) := by decide +kernel
theorem dX11_hopper_26 : decode cX11_hopper 26 = .ok (.iconst 1, 1) := by decide +kernel
theorem dX11_hopper_27 : decode cX11_hopper 27 = .ok (.iadd, 1) := by decide +kernel
theorem dX11_hopper_28 : decode cX11_hopper 28 = .ok (.iaload, 1) := by decide +kernel
theorem dX11_hopper_29 : decode cX11_hopper 29 = .ok (.iadd, 1) := by decide +kernel
theorem dX11_hopper_30 : decode cX11_hopper 30 = .ok (.istore_n 1, 1) := by decide +kernel
theorem dX11_hopper_31 : decode cX11_hopper 31 = .ok (.iinc 2 1, 3) := by decide +kernel
theorem dX11_hopper_34 : decode cX11_hopper 34 = .ok (.goto (-30), 3) := by decide +kernel
theorem dX11_hopper_37 : decode cX11_hopper 37 = .ok (.iload_n 1, 1) := by decide +kernel
theorem dX11_hopper_38 : decode cX11_hopper 38 = .ok (.ireturn, 1) := by decide +kernel
theorem dX11_inBins_0 : decode cX11_inBins 0 = .ok (.iconst 0, 1) := by decide +kernel
theorem dX11_inBins_1 : decode cX11_inBins 1 = .ok (.istore_n 1, 1) := by decide +kernel
theorem dX11_inBins_2 : decode cX11_inBins 2 = .ok (.iconst 0, 1) := by decide +kernel
theorem dX11_inBins_3 : decode cX11_inBins 3 = .ok (.istore_n 2, 1) := by decide +kernel
theorem dX11_inBins_4 : decode cX11_inBins 4 = .ok (.iload_n 2, 1) := by decide +kernel
theorem dX11_inBins_5 : decode cX11_inBins 5 = .ok (.aload_n 0, 1) := by decide +kernel
theorem dX11_inBins_6 : decode cX11_inBins 6 = .ok (.getfield 7, 3) := by decide +kernel
theorem dX11_inBins_9 : decode cX11_inBins 9 = .ok (.bipush 12, 2) := by decide +kernel
theorem dX11_inBins_11 : decode cX11_inBins 11 = .ok (.iaload, 1) := by decide +kernel
theorem dX11_inBins_12 : decode cX11_inBins 12 = .ok (.if_icmp .ge 17, 3) := by decide +kernel
theorem dX11_inBins_15 : decode cX11_inBins 15 = .ok (.iload_n 1, 1) := by decide +kernel
theorem dX11_inBins_16 : decode cX11_inBins 16 = .ok (.aload_n 0, 1) := by decide +kernel
theorem dX11_inBins_17 : decode cX11_inBins 17 = .ok (.iload_n 2, 1) := by decide +kernel
theorem dX11_inBins_18 : decode cX11_inBins 18 = .ok (.invokevirtual 81, 3) := by decide +kernel
theorem dX11_inBins_21 : decode cX11_inBins 21 = .ok (.iadd, 1) := by decide +kernel
theorem dX11_inBins_22 : decode cX11_inBins 22 = .ok (.istore_n 1, 1) := by decide +kernel
theorem dX11_inBins_23 : decode cX11_inBins 23 = .ok (.iinc 2 1, 3) := by decide +kernel
theorem dX11_inBins_26 : decode cX11_inBins 26 = .ok (.goto (-22), 3) := by decide +kernel
theorem dX11_inBins_29 : decode cX11_inBins 29 = .ok (.iload_n 1, 1) := by decide +kernel
theorem dX11_inBins_30 : decode cX11_inBins 30 = .ok (.ireturn, 1) := by decide +kernel
theorem dX11_batchTold_0 : decode cX11_batchTold 0 = .ok (.aload_n 0, 1) := by decide +kernel
theorem dX11_batchTold_1 : decode cX11_batchTold 1 = .ok (.invokevirtual 46, 3) := by decide +kernel
theorem dX11_batchTold_4 : decode cX11_batchTold 4 = .ok (.ifCond .ne 8, 3) := by decide +kernel
theorem dX11_batchTold_7 : decode cX11_batchTold 7 = .ok (.ldc 28, 2) := by decide +kernel
theorem dX11_batchTold_9 : decode cX11_batchTold 9 = .ok (.goto 25, 3) := by decide +kernel
theorem dX11_batchTold_12 : decode cX11_batchTold 12 = .ok (.iload_n 1, 1) := by decide +kernel
theorem dX11_batchTold_13 : decode cX11_batchTold 13 = .ok (.iconst 5, 1) := by decide +kernel
theorem dX11_batchTold_14 : decode cX11_batchTold 14 = .ok (.if_icmp .ne 13, 3) := by decide +kernel
theorem dX11_batchTold_17 : decode cX11_batchTold 17 = .ok (.aload_n 0, 1) := by decide +kernel
theorem dX11_batchTold_18 : decode cX11_batchTold 18 = .ok (.getfield 7, 3) := by decide +kernel
theorem dX11_batchTold_21 : decode cX11_batchTold 21 = .ok (.bipush 15, 2) := by decide +kernel
theorem dX11_batchTold_23 : decode cX11_batchTold 23 = .ok (.iaload, 1) := by decide +kernel
theorem dX11_batchTold_24 : decode cX11_batchTold 24 = .ok (.goto 10, 3) := by decide +kernel
theorem dX11_batchTold_27 : decode cX11_batchTold 27 = .ok (.aload_n 0, 1) := by decide +kernel
theorem dX11_batchTold_28 : decode cX11_batchTold 28 = .ok (.getfield 7, 3) := by decide +kernel
theorem dX11_batchTold_31 : decode cX11_batchTold 31 = .ok (.bipush 16, 2) := by decide +kernel
theorem dX11_batchTold_33 : decode cX11_batchTold 33 = .ok (.iaload, 1) := by decide +kernel
theorem dX11_batchTold_34 : decode cX11_batchTold 34 = .ok (.ireturn, 1) := by decide +kernel
theorem dX11_count_0 : decode cX11_count 0 = .ok (.iload_n 1, 1) := by decide +kernel
theorem dX11_count_1 : decode cX11_count 1 = .ok (.tableswitch 199 0 15 #[79, 87, 94, 101, 109, 134, 134, 140, 147, 155, 160, 168, 173, 181, 189, 194], 79) := by decide +kernel
theorem dX11_count_80 : decode cX11_count 80 = .ok (.aload_n 0, 1) := by decide +kernel
theorem dX11_count_81 : decode cX11_count 81 = .ok (.getfield 7, 3) := by decide +kernel
theorem dX11_count_84 : decode cX11_count 84 = .ok (.bipush 13, 2) := by decide +kernel
theorem dX11_count_86 : decode cX11_count 86 = .ok (.iaload, 1) := by decide +kernel
theorem dX11_count_87 : decode cX11_count 87 = .ok (.ireturn, 1) := by decide +kernel
theorem dX11_count_88 : decode cX11_count 88 = .ok (.aload_n 0, 1) := by decide +kernel
theorem dX11_count_89 : decode cX11_count 89 = .ok (.getfield 7, 3) := by decide +kernel
theorem dX11_count_92 : decode cX11_count 92 = .ok (.iconst 0, 1) := by decide +kernel
theorem dX11_count_93 : decode cX11_count 93 = .ok (.iaload, 1) := by decide +kernel
theorem dX11_count_94 : decode cX11_count 94 = .ok (.ireturn, 1) := by decide +kernel
theorem dX11_count_95 : decode cX11_count 95 = .ok (.aload_n 0, 1) := by decide +kernel
theorem dX11_count_96 : decode cX11_count 96 = .ok (.getfield 7, 3) := by decide +kernel
theorem dX11_count_99 : decode cX11_count 99 = .ok (.iconst 1, 1) := by decide +kernel
theorem dX11_count_100 : decode cX11_count 100 = .ok (.iaload, 1) := by decide +kernel
theorem dX11_count_101 : decode cX11_count 101 = .ok (.ireturn, 1) := by decide +kernel
theorem dX11_count_102 : decode cX11_count 102 = .ok (.aload_n 0, 1) := by decide +kernel
theorem dX11_count_103 : decode cX11_count 103 = .ok (.getfield 7, 3) := by decide +kernel
theorem dX11_count_106 : decode cX11_count 106 = .ok (.bipush 12, 2) := by decide +kernel
theorem dX11_count_108 : decode cX11_count 108 = .ok (.iaload, 1) := by decide +kernel
theorem dX11_count_109 : decode cX11_count 109 = .ok (.ireturn, 1) := by decide +kernel
theorem dX11_count_110 : decode cX11_count 110 = .ok (.aload_n 0, 1) := by decide +kernel
theorem dX11_count_111 : decode cX11_count 111 = .ok (.getfield 7, 3) := by decide +kernel
theorem dX11_count_114 : decode cX11_count 114 = .ok (.bipush 12, 2) := by decide +kernel
theorem dX11_count_116 : decode cX11_count 116 = .ok (.iaload, 1) := by decide +kernel
theorem dX11_count_117 : decode cX11_count 117 = .ok (.ifCond .ne 8, 3) := by decide +kernel
theorem dX11_count_120 : decode cX11_count 120 = .ok (.ldc 28, 2) := by decide +kernel
theorem dX11_count_122 : decode cX11_count 122 = .ok (.goto 12, 3) := by decide +kernel
theorem dX11_count_125 : decode cX11_count 125 = .ok (.aload_n 0, 1) := by decide +kernel
theorem dX11_count_126 : decode cX11_count 126 = .ok (.getfield 7, 3) := by decide +kernel
theorem dX11_count_129 : decode cX11_count 129 = .ok (.bipush 12, 2) := by decide +kernel
theorem dX11_count_131 : decode cX11_count 131 = .ok (.iaload, 1) := by decide +kernel
theorem dX11_count_132 : decode cX11_count 132 = .ok (.iconst 1, 1) := by decide +kernel
theorem dX11_count_133 : decode cX11_count 133 = .ok (.isub, 1) := by decide +kernel
theorem dX11_count_134 : decode cX11_count 134 = .ok (.ireturn, 1) := by decide +kernel
theorem dX11_count_135 : decode cX11_count 135 = .ok (.aload_n 0, 1) := by decide +kernel
theorem dX11_count_136 : decode cX11_count 136 = .ok (.iload_n 1, 1) := by decide +kernel
theorem dX11_count_137 : decode cX11_count 137 = .ok (.invokevirtual 103, 3) := by decide +kernel
theorem dX11_count_140 : decode cX11_count 140 = .ok (.ireturn, 1) := by decide +kernel
theorem dX11_count_141 : decode cX11_count 141 = .ok (.aload_n 0, 1) := by decide +kernel
theorem dX11_count_142 : decode cX11_count 142 = .ok (.getfield 7, 3) := by decide +kernel
theorem dX11_count_145 : decode cX11_count 145 = .ok (.iconst 2, 1) := by decide +kernel
theorem dX11_count_146 : decode cX11_count 146 = .ok (.iaload, 1) := by decide +kernel
theorem dX11_count_147 : decode cX11_count 147 = .ok (.ireturn, 1) := by decide +kernel
theorem dX11_count_148 : decode cX11_count 148 = .ok (.aload_n 0, 1) := by decide +kernel
theorem dX11_count_149 : decode cX11_count 149 = .ok (.iconst 0, 1) := by decide +kernel
theorem dX11_count_150 : decode cX11_count 150 = .ok (.bipush 11, 2) := by decide +kernel
theorem dX11_count_152 : decode cX11_count 152 = .ok (.invokevirtual 51, 3) := by decide +kernel
theorem dX11_count_155 : decode cX11_count 155 = .ok (.ireturn, 1) := by decide +kernel
theorem dX11_count_156 : decode cX11_count 156 = .ok (.aload_n 0, 1) := by decide +kernel
theorem dX11_count_157 : decode cX11_count 157 = .ok (.invokevirtual 106, 3) := by decide +kernel
theorem dX11_count_160 : decode cX11_count 160 = .ok (.ireturn, 1) := by decide +kernel
theorem dX11_count_161 : decode cX11_count 161 = .ok (.aload_n 0, 1) := by decide +kernel
theorem dX11_count_162 : decode cX11_count 162 = .ok (.getfield 7, 3) := by decide +kernel
theorem dX11_count_165 : decode cX11_count 165 = .ok (.bipush 9, 2) := by decide +kernel
theorem dX11_count_167 : decode cX11_count 167 = .ok (.iaload, 1) := by decide +kernel
theorem dX11_count_168 : decode cX11_count 168 = .ok (.ireturn, 1) := by decide +kernel
theorem dX11_count_169 : decode cX11_count 169 = .ok (.aload_n 0, 1) := by decide +kernel
theorem dX11_count_170 : decode cX11_count 170 = .ok (.invokevirtual 109, 3) := by decide +kernel
theorem dX11_count_173 : decode cX11_count 173 = .ok (.ireturn, 1) := by decide +kernel
theorem dX11_count_174 : decode cX11_count 174 = .ok (.aload_n 0, 1) := by decide +kernel
theorem dX11_count_175 : decode cX11_count 175 = .ok (.getfield 7, 3) := by decide +kernel
theorem dX11_count_178 : decode cX11_count 178 = .ok (.bipush 10, 2) := by decide +kernel
theorem dX11_count_180 : decode cX11_count 180 = .ok (.iaload, 1) := by decide +kernel
theorem dX11_count_181 : decode cX11_count 181 = .ok (.ireturn, 1) := by decide +kernel
theorem dX11_count_182 : decode cX11_count 182 = .ok (.aload_n 0, 1) := by decide +kernel
theorem dX11_count_183 : decode cX11_count 183 = .ok (.getfield 7, 3) := by decide +kernel
theorem dX11_count_186 : decode cX11_count 186 = .ok (.bipush 14, 2) := by decide +kernel
theorem dX11_count_188 : decode cX11_count 188 = .ok (.iaload, 1) := by decide +kernel
theorem dX11_count_189 : decode cX11_count 189 = .ok (.ireturn, 1) := by decide +kernel
theorem dX11_count_190 : decode cX11_count 190 = .ok (.aload_n 0, 1) := by decide +kernel
theorem dX11_count_191 : decode cX11_count 191 = .ok (.getfield 33, 3) := by decide +kernel
theorem dX11_count_194 : decode cX11_count 194 = .ok (.ireturn, 1) := by decide +kernel
theorem dX11_count_195 : decode cX11_count 195 = .ok (.aload_n 0, 1) := by decide +kernel
theorem dX11_count_196 : decode cX11_count 196 = .ok (.getfield 112, 3) := by decide +kernel
theorem dX11_count_199 : decode cX11_count 199 = .ok (.ireturn, 1) := by decide +kernel
theorem dX11_count_200 : decode cX11_count 200 = .ok (.iload_n 1, 1) := by decide +kernel
theorem dX11_count_201 : decode cX11_count 201 = .ok (.bipush 20, 2) := by decide +kernel
theorem dX11_count_203 : decode cX11_count 203 = .ok (.bipush 22, 2) := by decide +kernel
theorem dX11_count_205 : decode cX11_count 205 = .ok (.invokestatic 37, 3) := by decide +kernel
theorem dX11_count_208 : decode cX11_count 208 = .ok (.ifCond .eq 31, 3) := by decide +kernel
theorem dX11_count_211 : decode cX11_count 211 = .ok (.aload_n 0, 1) := by decide +kernel
theorem dX11_count_212 : decode cX11_count 212 = .ok (.getfield 7, 3) := by decide +kernel
theorem dX11_count_215 : decode cX11_count 215 = .ok (.bipush 18, 2) := by decide +kernel
theorem dX11_count_217 : decode cX11_count 217 = .ok (.iload_n 1, 1) := by decide +kernel
theorem dX11_count_218 : decode cX11_count 218 = .ok (.iadd, 1) := by decide +kernel
theorem dX11_count_219 : decode cX11_count 219 = .ok (.bipush 20, 2) := by decide +kernel
theorem dX11_count_221 : decode cX11_count 221 = .ok (.isub, 1) := by decide +kernel
theorem dX11_count_222 : decode cX11_count 222 = .ok (.iaload, 1) := by decide +kernel
theorem dX11_count_223 : decode cX11_count 223 = .ok (.iload_n 1, 1) := by decide +kernel
theorem dX11_count_224 : decode cX11_count 224 = .ok (.bipush 22, 2) := by decide +kernel
theorem dX11_count_226 : decode cX11_count 226 = .ok (.if_icmp .ne 8, 3) := by decide +kernel
theorem dX11_count_229 : decode cX11_count 229 = .ok (.bipush 10, 2) := by decide +kernel
theorem dX11_count_231 : decode cX11_count 231 = .ok (.goto 4, 3) := by decide +kernel
theorem dX11_count_234 : decode cX11_count 234 = .ok (.iconst 0, 1) := by decide +kernel
theorem dX11_count_235 : decode cX11_count 235 = .ok (.iadd, 1) := by decide +kernel
theorem dX11_count_236 : decode cX11_count 236 = .ok (.goto 32, 3) := by decide +kernel
theorem dX11_count_239 : decode cX11_count 239 = .ok (.iload_n 1, 1) := by decide +kernel
theorem dX11_count_240 : decode cX11_count 240 = .ok (.bipush 30, 2) := by decide +kernel
theorem dX11_count_242 : decode cX11_count 242 = .ok (.bipush 33, 2) := by decide +kernel
theorem dX11_count_244 : decode cX11_count 244 = .ok (.invokestatic 37, 3) := by decide +kernel
theorem dX11_count_247 : decode cX11_count 247 = .ok (.ifCond .eq 19, 3) := by decide +kernel
theorem dX11_count_250 : decode cX11_count 250 = .ok (.aload_n 0, 1) := by decide +kernel
theorem dX11_count_251 : decode cX11_count 251 = .ok (.getfield 7, 3) := by decide +kernel
theorem dX11_count_254 : decode cX11_count 254 = .ok (.sipush 145, 3) := by decide +kernel
theorem dX11_count_257 : decode cX11_count 257 = .ok (.iload_n 1, 1) := by decide +kernel
theorem dX11_count_258 : decode cX11_count 258 = .ok (.iadd, 1) := by decide +kernel
theorem dX11_count_259 : decode cX11_count 259 = .ok (.bipush 30, 2) := by decide +kernel
theorem dX11_count_261 : decode cX11_count 261 = .ok (.isub, 1) := by decide +kernel
theorem dX11_count_262 : decode cX11_count 262 = .ok (.iaload, 1) := by decide +kernel
theorem dX11_count_263 : decode cX11_count 263 = .ok (.goto 5, 3) := by decide +kernel
theorem dX11_count_266 : decode cX11_count 266 = .ok (.ldc 41, 2) := by decide +kernel
theorem dX11_count_268 : decode cX11_count 268 = .ok (.ireturn, 1) := by decide +kernel
theorem dX11_lasts_0 : decode cX11_lasts 0 = .ok (.aload_n 0, 1) := by decide +kernel
theorem dX11_lasts_1 : decode cX11_lasts 1 = .ok (.getfield 7, 3) := by decide +kernel
theorem dX11_lasts_4 : decode cX11_lasts 4 = .ok (.aload_n 0, 1) := by decide +kernel
theorem dX11_lasts_5 : decode cX11_lasts 5 = .ok (.getfield 19, 3) := by decide +kernel
theorem dX11_lasts_8 : decode cX11_lasts 8 = .ok (.invokestatic 115, 3) := by decide +kernel
theorem dX11_lasts_11 : decode cX11_lasts 11 = .ok (.iconst 0, 1) := by decide +kernel
theorem dX11_lasts_12 : decode cX11_lasts 12 = .ok (.istore_n 1, 1) := by decide +kernel
theorem dX11_lasts_13 : decode cX11_lasts 13 = .ok (.aload_n 0, 1) := by decide +kernel
theorem dX11_lasts_14 : decode cX11_lasts 14 = .ok (.invokevirtual 46, 3) := by decide +kernel
theorem dX11_lasts_17 : decode cX11_lasts 17 = .ok (.ifCond .eq 20, 3) := by decide +kernel
theorem dX11_lasts_20 : decode cX11_lasts 20 = .ok (.iload_n 1, 1) := by decide +kernel
theorem dX11_lasts_21 : decode cX11_lasts 21 = .ok (.sipush 2000, 3) := by decide +kernel
theorem dX11_lasts_24 : decode cX11_lasts 24 = .ok (.if_icmp .ge 13, 3) := by decide +kernel
theorem dX11_lasts_27 : decode cX11_lasts 27 = .ok (.aload_n 0, 1) := by decide +kernel
theorem dX11_lasts_28 : decode cX11_lasts 28 = .ok (.invokevirtual 71, 3) := by decide +kernel
theorem dX11_lasts_31 : decode cX11_lasts 31 = .ok (.iinc 1 1, 3) := by decide +kernel
theorem dX11_lasts_34 : decode cX11_lasts 34 = .ok (.goto (-21), 3) := by decide +kernel
theorem dX11_lasts_37 : decode cX11_lasts 37 = .ok (.aload_n 0, 1) := by decide +kernel
theorem dX11_lasts_38 : decode cX11_lasts 38 = .ok (.invokevirtual 46, 3) := by decide +kernel
theorem dX11_lasts_41 : decode cX11_lasts 41 = .ok (.ifCond .ne 7, 3) := by decide +kernel
theorem dX11_lasts_44 : decode cX11_lasts 44 = .ok (.iconst 1, 1) := by decide +kernel
theorem dX11_lasts_45 : decode cX11_lasts 45 = .ok (.goto 4, 3) := by decide +kernel
theorem dX11_lasts_48 : decode cX11_lasts 48 = .ok (.iconst 0, 1) := by decide +kernel
theorem dX11_lasts_49 : decode cX11_lasts 49 = .ok (.istore_n 2, 1) := by decide +kernel
theorem dX11_lasts_50 : decode cX11_lasts 50 = .ok (.aload_n 0, 1) := by decide +kernel
theorem dX11_lasts_51 : decode cX11_lasts 51 = .ok (.aload_n 0, 1) := by decide +kernel
theorem dX11_lasts_52 : decode cX11_lasts 52 = .ok (.aload_n 0, 1) := by decide +kernel
theorem dX11_lasts_53 : decode cX11_lasts 53 = .ok (.getfield 7, 3) := by decide +kernel
theorem dX11_lasts_56 : decode cX11_lasts 56 = .ok (.bipush 12, 2) := by decide +kernel
theorem dX11_lasts_58 : decode cX11_lasts 58 = .ok (.iaload, 1) := by decide +kernel
theorem dX11_lasts_59 : decode cX11_lasts 59 = .ok (.iconst 1, 1) := by decide +kernel
theorem dX11_lasts_60 : decode cX11_lasts 60 = .ok (.isub, 1) := by decide +kernel
theorem dX11_lasts_61 : decode cX11_lasts 61 = .ok (.invokevirtual 81, 3) := by decide +kernel
theorem dX11_lasts_64 : decode cX11_lasts 64 = .ok (.putfield 119, 3) := by decide +kernel
theorem dX11_lasts_67 : decode cX11_lasts 67 = .ok (.aload_n 0, 1) := by decide +kernel
theorem dX11_lasts_68 : decode cX11_lasts 68 = .ok (.getfield 19, 3) := by decide +kernel
theorem dX11_lasts_71 : decode cX11_lasts 71 = .ok (.aload_n 0, 1) := by decide +kernel
theorem dX11_lasts_72 : decode cX11_lasts 72 = .ok (.getfield 7, 3) := by decide +kernel
theorem dX11_lasts_75 : decode cX11_lasts 75 = .ok (.invokestatic 115, 3) := by decide +kernel
theorem dX11_lasts_78 : decode cX11_lasts 78 = .ok (.iload_n 2, 1) := by decide +kernel
theorem dX11_lasts_79 : decode cX11_lasts 79 = .ok (.ifCond .eq 7, 3) := by decide +kernel
theorem dX11_lasts_82 : decode cX11_lasts 82 = .ok (.iload_n 1, 1) := by decide +kernel
theorem dX11_lasts_83 : decode cX11_lasts 83 = .ok (.goto 5, 3) := by decide +kernel
theorem dX11_lasts_86 : decode cX11_lasts 86 = .ok (.ldc 28, 2) := by decide +kernel
theorem dX11_lasts_88 : decode cX11_lasts 88 = .ok (.ireturn, 1) := by decide +kernel
theorem dX11_batchIn_0 : decode cX11_batchIn 0 = .ok (.aload_n 0, 1) := by decide +kernel
theorem dX11_batchIn_1 : decode cX11_batchIn 1 = .ok (.invokevirtual 46, 3) := by decide +kernel
theorem dX11_batchIn_4 : decode cX11_batchIn 4 = .ok (.ifCond .eq 10, 3) := by decide +kernel
theorem dX11_batchIn_7 : decode cX11_batchIn 7 = .ok (.aload_n 0, 1) := by decide +kernel
theorem dX11_batchIn_8 : decode cX11_batchIn 8 = .ok (.invokevirtual 122, 3) := by decide +kernel
theorem dX11_batchIn_11 : decode cX11_batchIn 11 = .ok (.goto 5, 3) := by decide +kernel
theorem dX11_batchIn_14 : decode cX11_batchIn 14 = .ok (.ldc 50, 2) := by decide +kernel
theorem dX11_batchIn_16 : decode cX11_batchIn 16 = .ok (.ireturn, 1) := by decide +kernel
theorem dX11_batchOut_0 : decode cX11_batchOut 0 = .ok (.aload_n 0, 1) := by decide +kernel
theorem dX11_batchOut_1 : decode cX11_batchOut 1 = .ok (.invokevirtual 46, 3) := by decide +kernel
theorem dX11_batchOut_4 : decode cX11_batchOut 4 = .ok (.ifCond .ne 6, 3) := by decide +kernel
theorem dX11_batchOut_7 : decode cX11_batchOut 7 = .ok (.ldc 50, 2) := by decide +kernel
theorem dX11_batchOut_9 : decode cX11_batchOut 9 = .ok (.ireturn, 1) := by decide +kernel
theorem dX11_batchOut_10 : decode cX11_batchOut 10 = .ok (.aload_n 0, 1) := by decide +kernel
theorem dX11_batchOut_11 : decode cX11_batchOut 11 = .ok (.invokevirtual 122, 3) := by decide +kernel
theorem dX11_batchOut_14 : decode cX11_batchOut 14 = .ok (.ifCond .ge 8, 3) := by decide +kernel
theorem dX11_batchOut_17 : decode cX11_batchOut 17 = .ok (.ldc 28, 2) := by decide +kernel
theorem dX11_batchOut_19 : decode cX11_batchOut 19 = .ok (.goto 7, 3) := by decide +kernel
theorem dX11_batchOut_22 : decode cX11_batchOut 22 = .ok (.aload_n 0, 1) := by decide +kernel
theorem dX11_batchOut_23 : decode cX11_batchOut 23 = .ok (.getfield 119, 3) := by decide +kernel
theorem dX11_batchOut_26 : decode cX11_batchOut 26 = .ok (.ireturn, 1) := by decide +kernel
theorem dX11_error_0 : decode cX11_error 0 = .ok (.aload_n 0, 1) := by decide +kernel
theorem dX11_error_1 : decode cX11_error 1 = .ok (.invokevirtual 100, 3) := by decide +kernel
theorem dX11_error_4 : decode cX11_error 4 = .ok (.aload_n 0, 1) := by decide +kernel
theorem dX11_error_5 : decode cX11_error 5 = .ok (.getfield 7, 3) := by decide +kernel
theorem dX11_error_8 : decode cX11_error 8 = .ok (.bipush 11, 2) := by decide +kernel
theorem dX11_error_10 : decode cX11_error 10 = .ok (.iaload, 1) := by decide +kernel
theorem dX11_error_11 : decode cX11_error 11 = .ok (.isub, 1) := by decide +kernel
theorem dX11_error_12 : decode cX11_error 12 = .ok (.ldc 99, 2) := by decide +kernel
theorem dX11_error_14 : decode cX11_error 14 = .ok (.iadd, 1) := by decide +kernel
theorem dX11_error_15 : decode cX11_error 15 = .ok (.ireturn, 1) := by decide +kernel
theorem dX11_undo_0 : decode cX11_undo 0 = .ok (.aload_n 0, 1) := by decide +kernel
theorem dX11_undo_1 : decode cX11_undo 1 = .ok (.getfield 33, 3) := by decide +kernel
theorem dX11_undo_4 : decode cX11_undo 4 = .ok (.ifCond .ne 6, 3) := by decide +kernel
theorem dX11_undo_7 : decode cX11_undo 7 = .ok (.ldc 50, 2) := by decide +kernel
theorem dX11_undo_9 : decode cX11_undo 9 = .ok (.ireturn, 1) := by decide +kernel
theorem dX11_undo_10 : decode cX11_undo 10 = .ok (.aload_n 0, 1) := by decide +kernel
theorem dX11_undo_11 : decode cX11_undo 11 = .ok (.dup, 1) := by decide +kernel
theorem dX11_undo_12 : decode cX11_undo 12 = .ok (.getfield 33, 3) := by decide +kernel
theorem dX11_undo_15 : decode cX11_undo 15 = .ok (.iconst 1, 1) := by decide +kernel
theorem dX11_undo_16 : decode cX11_undo 16 = .ok (.isub, 1) := by decide +kernel
theorem dX11_undo_17 : decode cX11_undo 17 = .ok (.putfield 33, 3) := by decide +kernel
theorem dX11_undo_20 : decode cX11_undo 20 = .ok (.iconst 0, 1) := by decide +kernel
theorem dX11_undo_21 : decode cX11_undo 21 = .ok (.istore_n 1, 1) := by decide +kernel
theorem dX11_undo_22 : decode cX11_undo 22 = .ok (.iload_n 1, 1) := by decide +kernel
theorem dX11_undo_23 : decode cX11_undo 23 = .ok (.sipush 149, 3) := by decide +kernel
theorem dX11_undo_26 : decode cX11_undo 26 = .ok (.if_icmp .ge 30, 3) := by decide +kernel
theorem dX11_undo_29 : decode cX11_undo 29 = .ok (.aload_n 0, 1) := by decide +kernel
theorem dX11_undo_30 : decode cX11_undo 30 = .ok (.getfield 7, 3) := by decide +kernel
theorem dX11_undo_33 : decode cX11_undo 33 = .ok (.iload_n 1, 1) := by decide +kernel
theorem dX11_undo_34 : decode cX11_undo 34 = .ok (.aload_n 0, 1) := by decide +kernel
theorem dX11_undo_35 : decode cX11_undo 35 = .ok (.getfield 13, 3) := by decide +kernel
theorem dX11_undo_38 : decode cX11_undo 38 = .ok (.sipush 149, 3) := by decide +kernel
theorem dX11_undo_41 : decode cX11_undo 41 = .ok (.aload_n 0, 1) := by decide +kernel
theorem dX11_undo_42 : decode cX11_undo 42 = .ok (.getfield 33, 3) := by decide +kernel
theorem dX11_undo_45 : decode cX11_undo 45 = .ok (.imul, 1) := by decide +kernel
theorem dX11_undo_46 : decode cX11_undo 46 = .ok (.iload_n 1, 1) := by decide +kernel
theorem dX11_undo_47 : decode cX11_undo 47 = .ok (.iadd, 1) := by decide +kernel
theorem dX11_undo_48 : decode cX11_undo 48 = .ok (.iaload, 1) := by decide +kernel
theorem dX11_undo_49 : decode cX11_undo 49 = .ok (.iastore, 1) := by decide +kernel
theorem dX11_undo_50 : decode cX11_undo 50 = .ok (.iinc 1 1, 3) := by decide +kernel
theorem dX11_undo_53 : decode cX11_undo 53 = .ok (.goto (-31), 3) := by decide +kernel
theorem dX11_undo_56 : decode cX11_undo 56 = .ok (.aload_n 0, 1) := by decide +kernel
theorem dX11_undo_57 : decode cX11_undo 57 = .ok (.getfield 33, 3) := by decide +kernel
theorem dX11_undo_60 : decode cX11_undo 60 = .ok (.ireturn, 1) := by decide +kernel
theorem dX11_type_0 : decode cX11_type 0 = .ok (.iload_n 1, 1) := by decide +kernel
theorem dX11_type_1 : decode cX11_type 1 = .ok (.bipush 32, 2) := by decide +kernel
theorem dX11_type_3 : decode cX11_type 3 = .ok (.bipush 126, 2) := by decide +kernel
theorem dX11_type_5 : decode cX11_type 5 = .ok (.invokestatic 37, 3) := by decide +kernel
theorem dX11_type_8 : decode cX11_type 8 = .ok (.ifCond .ne 6, 3) := by decide +kernel
theorem dX11_type_11 : decode cX11_type 11 = .ok (.ldc 41, 2) := by decide +kernel
theorem dX11_type_13 : decode cX11_type 13 = .ok (.ireturn, 1) := by decide +kernel
theorem dX11_type_14 : decode cX11_type 14 = .ok (.aload_n 0, 1) := by decide +kernel
theorem dX11_type_15 : decode cX11_type 15 = .ok (.getfield 112, 3) := by decide +kernel
theorem dX11_type_18 : decode cX11_type 18 = .ok (.bipush 60, 2) := by decide +kernel
theorem dX11_type_20 : decode cX11_type 20 = .ok (.if_icmp .ne 6, 3) := by decide +kernel
theorem dX11_type_23 : decode cX11_type 23 = .ok (.ldc 42, 2) := by decide +kernel
theorem dX11_type_25 : decode cX11_type 25 = .ok (.ireturn, 1) := by decide +kernel
theorem dX11_type_26 : decode cX11_type 26 = .ok (.aload_n 0, 1) := by decide +kernel
theorem dX11_type_27 : decode cX11_type 27 = .ok (.getfield 22, 3) := by decide +kernel
theorem dX11_type_30 : decode cX11_type 30 = .ok (.aload_n 0, 1) := by decide +kernel
theorem dX11_type_31 : decode cX11_type 31 = .ok (.getfield 112, 3) := by decide +kernel
theorem dX11_type_34 : decode cX11_type 34 = .ok (.iload_n 1, 1) := by decide +kernel
theorem dX11_type_35 : decode cX11_type 35 = .ok (.iastore, 1) := by decide +kernel
theorem dX11_type_36 : decode cX11_type 36 = .ok (.aload_n 0, 1) := by decide +kernel
theorem dX11_type_37 : decode cX11_type 37 = .ok (.dup, 1) := by decide +kernel
theorem dX11_type_38 : decode cX11_type 38 = .ok (.getfield 112, 3) := by decide +kernel
theorem dX11_type_41 : decode cX11_type 41 = .ok (.iconst 1, 1) := by decide +kernel
theorem dX11_type_42 : decode cX11_type 42 = .ok (.iadd, 1) := by decide +kernel
theorem dX11_type_43 : decode cX11_type 43 = .ok (.putfield 112, 3) := by decide +kernel
theorem dX11_type_46 : decode cX11_type 46 = .ok (.aload_n 0, 1) := by decide +kernel
theorem dX11_type_47 : decode cX11_type 47 = .ok (.getfield 112, 3) := by decide +kernel
theorem dX11_type_50 : decode cX11_type 50 = .ok (.ireturn, 1) := by decide +kernel
theorem dX11_clearText_0 : decode cX11_clearText 0 = .ok (.aload_n 0, 1) := by decide +kernel
theorem dX11_clearText_1 : decode cX11_clearText 1 = .ok (.getfield 112, 3) := by decide +kernel
theorem dX11_clearText_4 : decode cX11_clearText 4 = .ok (.istore_n 1, 1) := by decide +kernel
theorem dX11_clearText_5 : decode cX11_clearText 5 = .ok (.aload_n 0, 1) := by decide +kernel
theorem dX11_clearText_6 : decode cX11_clearText 6 = .ok (.iconst 0, 1) := by decide +kernel
theorem dX11_clearText_7 : decode cX11_clearText 7 = .ok (.putfield 112, 3) := by decide +kernel
theorem dX11_clearText_10 : decode cX11_clearText 10 = .ok (.iload_n 1, 1) := by decide +kernel
theorem dX11_clearText_11 : decode cX11_clearText 11 = .ok (.ireturn, 1) := by decide +kernel
theorem dX11_isAt_0 : decode cX11_isAt 0 = .ok (.aload_n 0, 1) := by decide +kernel
theorem dX11_isAt_1 : decode cX11_isAt 1 = .ok (.getfield 125, 3) := by decide +kernel
theorem dX11_isAt_4 : decode cX11_isAt 4 = .ok (.aload_n 0, 1) := by decide +kernel
theorem dX11_isAt_5 : decode cX11_isAt 5 = .ok (.getfield 112, 3) := by decide +kernel
theorem dX11_isAt_8 : decode cX11_isAt 8 = .ok (.if_icmp .ge 24, 3) := by decide +kernel
theorem dX11_isAt_11 : decode cX11_isAt 11 = .ok (.aload_n 0, 1) := by decide +kernel
theorem dX11_isAt_12 : decode cX11_isAt 12 = .ok (.getfield 22, 3) := by decide +kernel
theorem dX11_isAt_15 : decode cX11_isAt 15 = .ok (.aload_n 0, 1) := by decide +kernel
theorem dX11_isAt_16 : decode cX11_isAt 16 = .ok (.getfield 125, 3) := by decide +kernel
theorem dX11_isAt_19 : decode cX11_isAt 19 = .ok (.iaload, 1) := by decide +kernel
theorem dX11_isAt_20 : decode cX11_isAt 20 = .ok (.iload_n 1, 1) := by decide +kernel
theorem dX11_isAt_21 : decode cX11_isAt 21 = .ok (.iload_n 2, 1) := by decide +kernel
theorem dX11_isAt_22 : decode cX11_isAt 22 = .ok (.invokestatic 37, 3) := by decide +kernel
theorem dX11_isAt_25 : decode cX11_isAt 25 = .ok (.ifCond .eq 7, 3) := by decide +kernel
theorem dX11_isAt_28 : decode cX11_isAt 28 = .ok (.iconst 1, 1) := by decide +kernel
theorem dX11_isAt_29 : decode cX11_isAt 29 = .ok (.goto 4, 3) := by decide +kernel
theorem dX11_isAt_32 : decode cX11_isAt 32 = .ok (.iconst 0, 1) := by decide +kernel
theorem dX11_isAt_33 : decode cX11_isAt 33 = .ok (.ireturn, 1) := by decide +kernel
theorem dX11_passes_0 : decode cX11_passes 0 = .ok (.aload_n 0, 1) := by decide +kernel
theorem dX11_passes_1 : decode cX11_passes 1 = .ok (.iload_n 1, 1) := by decide +kernel
theorem dX11_passes_2 : decode cX11_passes 2 = .ok (.iload_n 1, 1) := by decide +kernel
theorem dX11_passes_3 : decode cX11_passes 3 = .ok (.invokevirtual 128, 3) := by decide +kernel
theorem dX11_passes_6 : decode cX11_passes 6 = .ok (.istore_n 2, 1) := by decide +kernel
theorem dX11_passes_7 : decode cX11_passes 7 = .ok (.aload_n 0, 1) := by decide +kernel
theorem dX11_passes_8 : decode cX11_passes 8 = .ok (.dup, 1) := by decide +kernel
theorem dX11_passes_9 : decode cX11_passes 9 = .ok (.getfield 125, 3) := by decide +kernel
theorem dX11_passes_12 : decode cX11_passes 12 = .ok (.iload_n 2, 1) := by decide +kernel
theorem dX11_passes_13 : decode cX11_passes 13 = .ok (.ifCond .eq 7, 3) := by decide +kernel
theorem dX11_passes_16 : decode cX11_passes 16 = .ok (.iconst 1, 1) := by decide +kernel
theorem dX11_passes_17 : decode cX11_passes 17 = .ok (.goto 4, 3) := by decide +kernel
theorem dX11_passes_20 : decode cX11_passes 20 = .ok (.iconst 0, 1) := by decide +kernel
theorem dX11_passes_21 : decode cX11_passes 21 = .ok (.iadd, 1) := by decide +kernel
theorem dX11_passes_22 : decode cX11_passes 22 = .ok (.putfield 125, 3) := by decide +kernel
theorem dX11_passes_25 : decode cX11_passes 25 = .ok (.iload_n 2, 1) := by decide +kernel
theorem dX11_passes_26 : decode cX11_passes 26 = .ok (.ireturn, 1) := by decide +kernel
theorem dX11_number_0 : decode cX11_number 0 = .ok (.aload_n 0, 1) := by decide +kernel
theorem dX11_number_1 : decode cX11_number 1 = .ok (.getfield 125, 3) := by decide +kernel
theorem dX11_number_4 : decode cX11_number 4 = .ok (.istore_n 2, 1) := by decide +kernel
theorem dX11_number_5 : decode cX11_number 5 = .ok (.aload_n 0, 1) := by decide +kernel
theorem dX11_number_6 : decode cX11_number 6 = .ok (.getfield 25, 3) := by decide +kernel
theorem dX11_number_9 : decode cX11_number 9 = .ok (.iload_n 1, 1) := by decide +kernel
theorem dX11_number_10 : decode cX11_number 10 = .ok (.iconst 0, 1) := by decide +kernel
theorem dX11_number_11 : decode cX11_number 11 = .ok (.iastore, 1) := by decide +kernel
theorem dX11_number_12 : decode cX11_number 12 = .ok (.aload_n 0, 1) := by decide +kernel
theorem dX11_number_13 : decode cX11_number 13 = .ok (.bipush 48, 2) := by decide +kernel
theorem dX11_number_15 : decode cX11_number 15 = .ok (.bipush 57, 2) := by decide +kernel
theorem dX11_number_17 : decode cX11_number 17 = .ok (.invokevirtual 128, 3) := by decide +kernel
theorem dX11_number_20 : decode cX11_number 20 = .ok (.ifCond .eq 54, 3) := by decide +kernel
theorem dX11_number_23 : decode cX11_number 23 = .ok (.aload_n 0, 1) := by decide +kernel
theorem dX11_number_24 : decode cX11_number 24 = .ok (.getfield 125, 3) := by decide +kernel
theorem dX11_number_27 : decode cX11_number 27 = .ok (.iload_n 2, 1) := by decide +kernel
theorem dX11_number_28 : decode cX11_number 28 = .ok (.isub, 1) := by decide +kernel
theorem dX11_number_29 : decode cX11_number 29 = .ok (.iconst 4, 1) := by decide +kernel
theorem dX11_number_30 : decode cX11_number 30 = .ok (.if_icmp .ge 44, 3) := by decide +kernel
theorem dX11_number_33 : decode cX11_number 33 = .ok (.aload_n 0, 1) := by decide +kernel
theorem dX11_number_34 : decode cX11_number 34 = .ok (.getfield 25, 3) := by decide +kernel
theorem dX11_number_37 : decode cX11_number 37 = .ok (.iload_n 1, 1) := by decide +kernel
theorem dX11_number_38 : decode cX11_number 38 = .ok (.bipush 10, 2) := by decide +kernel
theorem dX11_number_40 : decode cX11_number 40 = .ok (.aload_n 0, 1) := by decide +kernel
theorem dX11_number_41 : decode cX11_number 41 = .ok (.getfield 25, 3) := by decide +kernel
theorem dX11_number_44 : decode cX11_number 44 = .ok (.iload_n 1, 1) := by decide +kernel
theorem dX11_number_45 : decode cX11_number 45 = .ok (.iaload, 1) := by decide +kernel
theorem dX11_number_46 : decode cX11_number 46 = .ok (.imul, 1) := by decide +kernel
theorem dX11_number_47 : decode cX11_number 47 = .ok (.aload_n 0, 1) := by decide +kernel
theorem dX11_number_48 : decode cX11_number 48 = .ok (.getfield 22, 3) := by decide +kernel
theorem dX11_number_51 : decode cX11_number 51 = .ok (.aload_n 0, 1) := by decide +kernel
theorem dX11_number_52 : decode cX11_number 52 = .ok (.getfield 125, 3) := by decide +kernel
theorem dX11_number_55 : decode cX11_number 55 = .ok (.iaload, 1) := by decide +kernel
theorem dX11_number_56 : decode cX11_number 56 = .ok (.iadd, 1) := by decide +kernel
theorem dX11_number_57 : decode cX11_number 57 = .ok (.bipush 48, 2) := by decide +kernel
theorem dX11_number_59 : decode cX11_number 59 = .ok (.isub, 1) := by decide +kernel
theorem dX11_number_60 : decode cX11_number 60 = .ok (.iastore, 1) := by decide +kernel
theorem dX11_number_61 : decode cX11_number 61 = .ok (.aload_n 0, 1) := by decide +kernel
theorem dX11_number_62 : decode cX11_number 62 = .ok (.dup, 1) := by decide +kernel
theorem dX11_number_63 : decode cX11_number 63 = .ok (.getfield 125, 3) := by decide +kernel
theorem dX11_number_66 : decode cX11_number 66 = .ok (.iconst 1, 1) := by decide +kernel
theorem dX11_number_67 : decode cX11_number 67 = .ok (.iadd, 1) := by decide +kernel
theorem dX11_number_68 : decode cX11_number 68 = .ok (.putfield 125, 3) := by decide +kernel
theorem dX11_number_71 : decode cX11_number 71 = .ok (.goto (-59), 3) := by decide +kernel
theorem dX11_number_74 : decode cX11_number 74 = .ok (.aload_n 0, 1) := by decide +kernel
theorem dX11_number_75 : decode cX11_number 75 = .ok (.getfield 125, 3) := by decide +kernel
theorem dX11_number_78 : decode cX11_number 78 = .ok (.iload_n 2, 1) := by decide +kernel
theorem dX11_number_79 : decode cX11_number 79 = .ok (.if_icmp .le 7, 3) := by decide +kernel
theorem dX11_number_82 : decode cX11_number 82 = .ok (.iconst 1, 1) := by decide +kernel
theorem dX11_number_83 : decode cX11_number 83 = .ok (.goto 4, 3) := by decide +kernel
theorem dX11_number_86 : decode cX11_number 86 = .ok (.iconst 0, 1) := by decide +kernel
theorem dX11_number_87 : decode cX11_number 87 = .ok (.ireturn, 1) := by decide +kernel
theorem dX11_parses_0 : decode cX11_parses 0 = .ok (.aload_n 0, 1) := by decide +kernel
theorem dX11_parses_1 : decode cX11_parses 1 = .ok (.aload_n 0, 1) := by decide +kernel
theorem dX11_parses_2 : decode cX11_parses 2 = .ok (.getfield 22, 3) := by decide +kernel
theorem dX11_parses_5 : decode cX11_parses 5 = .ok (.aload_n 0, 1) := by decide +kernel
theorem dX11_parses_6 : decode cX11_parses 6 = .ok (.getfield 125, 3) := by decide +kernel
theorem dX11_parses_9 : decode cX11_parses 9 = .ok (.iaload, 1) := by decide +kernel
theorem dX11_parses_10 : decode cX11_parses 10 = .ok (.putfield 131, 3) := by decide +kernel
theorem dX11_parses_13 : decode cX11_parses 13 = .ok (.aload_n 0, 1) := by decide +kernel
theorem dX11_parses_14 : decode cX11_parses 14 = .ok (.dup, 1) := by decide +kernel
theorem dX11_parses_15 : decode cX11_parses 15 = .ok (.getfield 125, 3) := by decide +kernel
theorem dX11_parses_18 : decode cX11_parses 18 = .ok (.iconst 1, 1) := by decide +kernel
theorem dX11_parses_19 : decode cX11_parses 19 = .ok (.iadd, 1) := by decide +kernel
theorem dX11_parses_20 : decode cX11_parses 20 = .ok (.putfield 125, 3) := by decide +kernel
theorem dX11_parses_23 : decode cX11_parses 23 = .ok (.aload_n 0, 1) := by decide +kernel
theorem dX11_parses_24 : decode cX11_parses 24 = .ok (.getfield 131, 3) := by decide +kernel
theorem dX11_parses_27 : decode cX11_parses 27 = .ok (.bipush 98, 2) := by decide +kernel
theorem dX11_parses_29 : decode cX11_parses 29 = .ok (.if_icmp .eq 30, 3) := by decide +kernel
theorem dX11_parses_32 : decode cX11_parses 32 = .ok (.aload_n 0, 1) := by decide +kernel
theorem dX11_parses_33 : decode cX11_parses 33 = .ok (.getfield 131, 3) := by decide +kernel
theorem dX11_parses_36 : decode cX11_parses 36 = .ok (.bipush 115, 2) := by decide +kernel
theorem dX11_parses_38 : decode cX11_parses 38 = .ok (.if_icmp .eq 21, 3) := by decide +kernel
theorem dX11_parses_41 : decode cX11_parses 41 = .ok (.aload_n 0, 1) := by decide +kernel
theorem dX11_parses_42 : decode cX11_parses 42 = .ok (.getfield 131, 3) := by decide +kernel
theorem dX11_parses_45 : decode cX11_parses 45 = .ok (.bipush 120, 2) := by decide +kernel
theorem dX11_parses_47 : decode cX11_parses 47 = .ok (.if_icmp .eq 12, 3) := by decide +kernel
theorem dX11_parses_50 : decode cX11_parses 50 = .ok (.aload_n 0, 1) := by decide +kernel
theorem dX11_parses_51 : decode cX11_parses 51 = .ok (.getfield 131, 3) := by decide +kernel
theorem dX11_parses_54 : decode cX11_parses 54 = .ok (.bipush 122, 2) := by decide +kernel
theorem dX11_parses_56 : decode cX11_parses 56 = .ok (.if_icmp .ne 10, 3) := by decide +kernel
theorem dX11_parses_59 : decode cX11_parses 59 = .ok (.aload_n 0, 1) := by decide +kernel
theorem dX11_parses_60 : decode cX11_parses 60 = .ok (.bipush 59, 2) := by decide +kernel
theorem dX11_parses_62 : decode cX11_parses 62 = .ok (.invokevirtual 134, 3) := by decide +kernel
theorem dX11_parses_65 : decode cX11_parses 65 = .ok (.ireturn, 1) := by decide +kernel
theorem dX11_parses_66 : decode cX11_parses 66 = .ok (.aload_n 0, 1) := by decide +kernel
theorem dX11_parses_67 : decode cX11_parses 67 = .ok (.getfield 131, 3) := by decide +kernel
theorem dX11_parses_70 : decode cX11_parses 70 = .ok (.bipush 108, 2) := by decide +kernel
theorem dX11_parses_72 : decode cX11_parses 72 = .ok (.if_icmp .ne 43, 3) := by decide +kernel
theorem dX11_parses_75 : decode cX11_parses 75 = .ok (.aload_n 0, 1) := by decide +kernel
theorem dX11_parses_76 : decode cX11_parses 76 = .ok (.iconst 0, 1) := by decide +kernel
theorem dX11_parses_77 : decode cX11_parses 77 = .ok (.invokevirtual 137, 3) := by decide +kernel
theorem dX11_parses_80 : decode cX11_parses 80 = .ok (.ifCond .eq 33, 3) := by decide +kernel
theorem dX11_parses_83 : decode cX11_parses 83 = .ok (.aload_n 0, 1) := by decide +kernel
theorem dX11_parses_84 : decode cX11_parses 84 = .ok (.bipush 44, 2) := by decide +kernel
theorem dX11_parses_86 : decode cX11_parses 86 = .ok (.invokevirtual 134, 3) := by decide +kernel
theorem dX11_parses_89 : decode cX11_parses 89 = .ok (.ifCond .eq 24, 3) := by decide +kernel
theorem dX11_parses_92 : decode cX11_parses 92 = .ok (.aload_n 0, 1) := by decide +kernel
theorem dX11_parses_93 : decode cX11_parses 93 = .ok (.iconst 1, 1) := by decide +kernel
theorem dX11_parses_94 : decode cX11_parses 94 = .ok (.invokevirtual 137, 3) := by decide +kernel
theorem dX11_parses_97 : decode cX11_parses 97 = .ok (.ifCond .eq 16, 3) := by decide +kernel
theorem dX11_parses_100 : decode cX11_parses 100 = .ok (.aload_n 0, 1) := by decide +kernel
theorem dX11_parses_101 : decode cX11_parses 101 = .ok (.bipush 59, 2) := by decide +kernel
theorem dX11_parses_103 : decode cX11_parses 103 = .ok (.invokevirtual 134, 3) := by decide +kernel
theorem dX11_parses_106 : decode cX11_parses 106 = .ok (.ifCond .eq 7, 3) := by decide +kernel
theorem dX11_parses_109 : decode cX11_parses 109 = .ok (.iconst 1, 1) := by decide +kernel
theorem dX11_parses_110 : decode cX11_parses 110 = .ok (.goto 4, 3) := by decide +kernel
theorem dX11_parses_113 : decode cX11_parses 113 = .ok (.iconst 0, 1) := by decide +kernel
theorem dX11_parses_114 : decode cX11_parses 114 = .ok (.ireturn, 1) := by decide +kernel
theorem dX11_parses_115 : decode cX11_parses 115 = .ok (.aload_n 0, 1) := by decide +kernel
theorem dX11_parses_116 : decode cX11_parses 116 = .ok (.getfield 131, 3) := by decide +kernel
theorem dX11_parses_119 : decode cX11_parses 119 = .ok (.bipush 103, 2) := by decide +kernel
theorem dX11_parses_121 : decode cX11_parses 121 = .ok (.if_icmp .eq 30, 3) := by decide +kernel
theorem dX11_parses_124 : decode cX11_parses 124 = .ok (.aload_n 0, 1) := by decide +kernel
theorem dX11_parses_125 : decode cX11_parses 125 = .ok (.getfield 131, 3) := by decide +kernel
theorem dX11_parses_128 : decode cX11_parses 128 = .ok (.bipush 109, 2) := by decide +kernel
theorem dX11_parses_130 : decode cX11_parses 130 = .ok (.if_icmp .eq 21, 3) := by decide +kernel
theorem dX11_parses_133 : decode cX11_parses 133 = .ok (.aload_n 0, 1) := by decide +kernel
theorem dX11_parses_134 : decode cX11_parses 134 = .ok (.getfield 131, 3) := by decide +kernel
theorem dX11_parses_137 : decode cX11_parses 137 = .ok (.bipush 99, 2) := by decide +kernel
theorem dX11_parses_139 : decode cX11_parses 139 = .ok (.if_icmp .eq 12, 3) := by decide +kernel
theorem dX11_parses_142 : decode cX11_parses 142 = .ok (.aload_n 0, 1) := by decide +kernel
theorem dX11_parses_143 : decode cX11_parses 143 = .ok (.getfield 131, 3) := by decide +kernel
theorem dX11_parses_146 : decode cX11_parses 146 = .ok (.bipush 116, 2) := by decide +kernel
theorem dX11_parses_148 : decode cX11_parses 148 = .ok (.if_icmp .ne 24, 3) := by decide +kernel
theorem dX11_parses_151 : decode cX11_parses 151 = .ok (.aload_n 0, 1) := by decide +kernel
theorem dX11_parses_152 : decode cX11_parses 152 = .ok (.iconst 0, 1) := by decide +kernel
theorem dX11_parses_153 : decode cX11_parses 153 = .ok (.invokevirtual 137, 3) := by decide +kernel
theorem dX11_parses_156 : decode cX11_parses 156 = .ok (.ifCond .eq 16, 3) := by decide +kernel
theorem dX11_parses_159 : decode cX11_parses 159 = .ok (.aload_n 0, 1) := by decide +kernel
theorem dX11_parses_160 : decode cX11_parses 160 = .ok (.bipush 59, 2) := by decide +kernel
theorem dX11_parses_162 : decode cX11_parses 162 = .ok (.invokevirtual 134, 3) := by decide +kernel
theorem dX11_parses_165 : decode cX11_parses 165 = .ok (.ifCond .eq 7, 3) := by decide +kernel
theorem dX11_parses_168 : decode cX11_parses 168 = .ok (.iconst 1, 1) := by decide +kernel
theorem dX11_parses_169 : decode cX11_parses 169 = .ok (.goto 4, 3) := by decide +kernel
theorem dX11_parses_172 : decode cX11_parses 172 = .ok (.iconst 0, 1) := by decide +kernel
theorem dX11_parses_173 : decode cX11_parses 173 = .ok (.ireturn, 1) := by decide +kernel
theorem dX11_calls_0 : decode cX11_calls 0 = .ok (.aload_n 0, 1) := by decide +kernel
theorem dX11_calls_1 : decode cX11_calls 1 = .ok (.getfield 131, 3) := by decide +kernel
theorem dX11_calls_4 : decode cX11_calls 4 = .ok (.tableswitch 188 98 122 #[116, 177, 188, 188, 188, 155, 188, 188, 188, 188, 138, 166, 188, 188, 188, 188, 188, 121, 188, 188, 188, 188, 127, 188, 133], 116) := by decide +kernel
theorem dX11_calls_120 : decode cX11_calls 120 = .ok (.aload_n 0, 1) := by decide +kernel
theorem dX11_calls_121 : decode cX11_calls 121 = .ok (.invokevirtual 140, 3) := by decide +kernel
theorem dX11_calls_124 : decode cX11_calls 124 = .ok (.ireturn, 1) := by decide +kernel
theorem dX11_calls_125 : decode cX11_calls 125 = .ok (.aload_n 0, 1) := by decide +kernel
theorem dX11_calls_126 : decode cX11_calls 126 = .ok (.iconst 1, 1) := by decide +kernel
theorem dX11_calls_127 : decode cX11_calls 127 = .ok (.invokevirtual 143, 3) := by decide +kernel
theorem dX11_calls_130 : decode cX11_calls 130 = .ok (.ireturn, 1) := by decide +kernel
theorem dX11_calls_131 : decode cX11_calls 131 = .ok (.aload_n 0, 1) := by decide +kernel
theorem dX11_calls_132 : decode cX11_calls 132 = .ok (.iconst 0, 1) := by decide +kernel
theorem dX11_calls_133 : decode cX11_calls 133 = .ok (.invokevirtual 143, 3) := by decide +kernel
theorem dX11_calls_136 : decode cX11_calls 136 = .ok (.ireturn, 1) := by decide +kernel
theorem dX11_calls_137 : decode cX11_calls 137 = .ok (.aload_n 0, 1) := by decide +kernel
theorem dX11_calls_138 : decode cX11_calls 138 = .ok (.invokevirtual 146, 3) := by decide +kernel
theorem dX11_calls_141 : decode cX11_calls 141 = .ok (.ireturn, 1) := by decide +kernel
theorem dX11_calls_142 : decode cX11_calls 142 = .ok (.aload_n 0, 1) := by decide +kernel
theorem dX11_calls_143 : decode cX11_calls 143 = .ok (.aload_n 0, 1) := by decide +kernel
theorem dX11_calls_144 : decode cX11_calls 144 = .ok (.getfield 25, 3) := by decide +kernel
theorem dX11_calls_147 : decode cX11_calls 147 = .ok (.iconst 0, 1) := by decide +kernel
theorem dX11_calls_148 : decode cX11_calls 148 = .ok (.iaload, 1) := by decide +kernel
theorem dX11_calls_149 : decode cX11_calls 149 = .ok (.aload_n 0, 1) := by decide +kernel
theorem dX11_calls_150 : decode cX11_calls 150 = .ok (.getfield 25, 3) := by decide +kernel
theorem dX11_calls_153 : decode cX11_calls 153 = .ok (.iconst 1, 1) := by decide +kernel
theorem dX11_calls_154 : decode cX11_calls 154 = .ok (.iaload, 1) := by decide +kernel
theorem dX11_calls_155 : decode cX11_calls 155 = .ok (.invokevirtual 149, 3) := by decide +kernel
theorem dX11_calls_158 : decode cX11_calls 158 = .ok (.ireturn, 1) := by decide +kernel
theorem dX11_calls_159 : decode cX11_calls 159 = .ok (.aload_n 0, 1) := by decide +kernel
theorem dX11_calls_160 : decode cX11_calls 160 = .ok (.aload_n 0, 1) := by decide +kernel
theorem dX11_calls_161 : decode cX11_calls 161 = .ok (.getfield 25, 3) := by decide +kernel
theorem dX11_calls_164 : decode cX11_calls 164 = .ok (.iconst 0, 1) := by decide +kernel
theorem dX11_calls_165 : decode cX11_calls 165 = .ok (.iaload, 1) := by decide +kernel
theorem dX11_calls_166 : decode cX11_calls 166 = .ok (.invokevirtual 152, 3) := by decide +kernel
theorem dX11_calls_169 : decode cX11_calls 169 = .ok (.ireturn, 1) := by decide +kernel
theorem dX11_calls_170 : decode cX11_calls 170 = .ok (.aload_n 0, 1) := by decide +kernel
theorem dX11_calls_171 : decode cX11_calls 171 = .ok (.aload_n 0, 1) := by decide +kernel
theorem dX11_calls_172 : decode cX11_calls 172 = .ok (.getfield 25, 3) := by decide +kernel
theorem dX11_calls_175 : decode cX11_calls 175 = .ok (.iconst 0, 1) := by decide +kernel
theorem dX11_calls_176 : decode cX11_calls 176 = .ok (.iaload, 1) := by decide +kernel
theorem dX11_calls_177 : decode cX11_calls 177 = .ok (.invokevirtual 155, 3) := by decide +kernel
theorem dX11_calls_180 : decode cX11_calls 180 = .ok (.ireturn, 1) := by decide +kernel
theorem dX11_calls_181 : decode cX11_calls 181 = .ok (.aload_n 0, 1) := by decide +kernel
theorem dX11_calls_182 : decode cX11_calls 182 = .ok (.aload_n 0, 1) := by decide +kernel
theorem dX11_calls_183 : decode cX11_calls 183 = .ok (.getfield 25, 3) := by decide +kernel
theorem dX11_calls_186 : decode cX11_calls 186 = .ok (.iconst 0, 1) := by decide +kernel
theorem dX11_calls_187 : decode cX11_calls 187 = .ok (.iaload, 1) := by decide +kernel
theorem dX11_calls_188 : decode cX11_calls 188 = .ok (.invokevirtual 158, 3) := by decide +kernel
theorem dX11_calls_191 : decode cX11_calls 191 = .ok (.ireturn, 1) := by decide +kernel
theorem dX11_calls_192 : decode cX11_calls 192 = .ok (.aload_n 0, 1) := by decide +kernel
theorem dX11_calls_193 : decode cX11_calls 193 = .ok (.aload_n 0, 1) := by decide +kernel
theorem dX11_calls_194 : decode cX11_calls 194 = .ok (.getfield 25, 3) := by decide +kernel
theorem dX11_calls_197 : decode cX11_calls 197 = .ok (.iconst 0, 1) := by decide +kernel
theorem dX11_calls_198 : decode cX11_calls 198 = .ok (.iaload, 1) := by decide +kernel
theorem dX11_calls_199 : decode cX11_calls 199 = .ok (.invokevirtual 161, 3) := by decide +kernel
theorem dX11_calls_202 : decode cX11_calls 202 = .ok (.ireturn, 1) := by decide +kernel
theorem dX11_plays_0 : decode cX11_plays 0 = .ok (.aload_n 0, 1) := by decide +kernel
theorem dX11_plays_1 : decode cX11_plays 1 = .ok (.iconst 1, 1) := by decide +kernel
theorem dX11_plays_2 : decode cX11_plays 2 = .ok (.putfield 29, 3) := by decide +kernel
theorem dX11_plays_5 : decode cX11_plays 5 = .ok (.aload_n 0, 1) := by decide +kernel
theorem dX11_plays_6 : decode cX11_plays 6 = .ok (.iconst 0, 1) := by decide +kernel
theorem dX11_plays_7 : decode cX11_plays 7 = .ok (.putfield 125, 3) := by decide +kernel
theorem dX11_plays_10 : decode cX11_plays 10 = .ok (.aload_n 0, 1) := by decide +kernel
theorem dX11_plays_11 : decode cX11_plays 11 = .ok (.iconst 0, 1) := by decide +kernel
theorem dX11_plays_12 : decode cX11_plays 12 = .ok (.putfield 164, 3) := by decide +kernel
theorem dX11_plays_15 : decode cX11_plays 15 = .ok (.iconst 0, 1) := by decide +kernel
theorem dX11_plays_16 : decode cX11_plays 16 = .ok (.istore_n 1, 1) := by decide +kernel
theorem dX11_plays_17 : decode cX11_plays 17 = .ok (.iconst 1, 1) := by decide +kernel
theorem dX11_plays_18 : decode cX11_plays 18 = .ok (.istore_n 2, 1) := by decide +kernel
theorem dX11_plays_19 : decode cX11_plays 19 = .ok (.aload_n 0, 1) := by decide +kernel
theorem dX11_plays_20 : decode cX11_plays 20 = .ok (.getfield 125, 3) := by decide +kernel
theorem dX11_plays_23 : decode cX11_plays 23 = .ok (.aload_n 0, 1) := by decide +kernel
theorem dX11_plays_24 : decode cX11_plays 24 = .ok (.getfield 112, 3) := by decide +kernel
theorem dX11_plays_27 : decode cX11_plays 27 = .ok (.if_icmp .ge 63, 3) := by decide +kernel
theorem dX11_plays_30 : decode cX11_plays 30 = .ok (.iload_n 2, 1) := by decide +kernel
theorem dX11_plays_31 : decode cX11_plays 31 = .ok (.ifCond .eq 59, 3) := by decide +kernel
theorem dX11_plays_34 : decode cX11_plays 34 = .ok (.aload_n 0, 1) := by decide +kernel
theorem dX11_plays_35 : decode cX11_plays 35 = .ok (.getfield 125, 3) := by decide +kernel
theorem dX11_plays_38 : decode cX11_plays 38 = .ok (.istore_n 1, 1) := by decide +kernel
theorem dX11_plays_39 : decode cX11_plays 39 = .ok (.aload_n 0, 1) := by decide +kernel
theorem dX11_plays_40 : decode cX11_plays 40 = .ok (.invokevirtual 167, 3) := by decide +kernel
theorem dX11_plays_43 : decode cX11_plays 43 = .ok (.istore_n 3, 1) := by decide +kernel
theorem dX11_plays_44 : decode cX11_plays 44 = .ok (.aload_n 0, 1) := by decide +kernel
theorem dX11_plays_45 : decode cX11_plays 45 = .ok (.iload_n 3, 1) := by decide +kernel
theorem dX11_plays_46 : decode cX11_plays 46 = .ok (.ifCond .eq 10, 3) := by decide +kernel
theorem dX11_plays_49 : decode cX11_plays 49 = .ok (.aload_n 0, 1) := by decide +kernel
theorem dX11_plays_50 : decode cX11_plays 50 = .ok (.invokevirtual 170, 3) := by decide +kernel
theorem dX11_plays_53 : decode cX11_plays 53 = .ok (.goto 4, 3) := by decide +kernel
theorem dX11_plays_56 : decode cX11_plays 56 = .ok (.iconst 0, 1) := by decide +kernel
theorem dX11_plays_57 : decode cX11_plays 57 = .ok (.putfield 173, 3) := by decide +kernel
theorem dX11_plays_60 : decode cX11_plays 60 = .ok (.iload_n 3, 1) := by decide +kernel
theorem dX11_plays_61 : decode cX11_plays 61 = .ok (.ifCond .eq 14, 3) := by decide +kernel
theorem dX11_plays_64 : decode cX11_plays 64 = .ok (.aload_n 0, 1) := by decide +kernel
theorem dX11_plays_65 : decode cX11_plays 65 = .ok (.getfield 173, 3) := by decide +kernel
theorem dX11_plays_68 : decode cX11_plays 68 = .ok (.ifCond .lt 7, 3) := by decide +kernel
theorem dX11_plays_71 : decode cX11_plays 71 = .ok (.iconst 1, 1) := by decide +kernel
theorem dX11_plays_72 : decode cX11_plays 72 = .ok (.goto 4, 3) := by decide +kernel
theorem dX11_plays_75 : decode cX11_plays 75 = .ok (.iconst 0, 1) := by decide +kernel
theorem dX11_plays_76 : decode cX11_plays 76 = .ok (.istore_n 2, 1) := by decide +kernel
theorem dX11_plays_77 : decode cX11_plays 77 = .ok (.aload_n 0, 1) := by decide +kernel
theorem dX11_plays_78 : decode cX11_plays 78 = .ok (.dup, 1) := by decide +kernel
theorem dX11_plays_79 : decode cX11_plays 79 = .ok (.getfield 164, 3) := by decide +kernel
theorem dX11_plays_82 : decode cX11_plays 82 = .ok (.iconst 1, 1) := by decide +kernel
theorem dX11_plays_83 : decode cX11_plays 83 = .ok (.iadd, 1) := by decide +kernel
theorem dX11_plays_84 : decode cX11_plays 84 = .ok (.putfield 164, 3) := by decide +kernel
theorem dX11_plays_87 : decode cX11_plays 87 = .ok (.goto (-68), 3) := by decide +kernel
theorem dX11_plays_90 : decode cX11_plays 90 = .ok (.aload_n 0, 1) := by decide +kernel
theorem dX11_plays_91 : decode cX11_plays 91 = .ok (.iconst 0, 1) := by decide +kernel
theorem dX11_plays_92 : decode cX11_plays 92 = .ok (.putfield 29, 3) := by decide +kernel
theorem dX11_plays_95 : decode cX11_plays 95 = .ok (.iload_n 2, 1) := by decide +kernel
theorem dX11_plays_96 : decode cX11_plays 96 = .ok (.ifCond .eq 8, 3) := by decide +kernel
theorem dX11_plays_99 : decode cX11_plays 99 = .ok (.ldc 28, 2) := by decide +kernel
theorem dX11_plays_101 : decode cX11_plays 101 = .ok (.goto 4, 3) := by decide +kernel
theorem dX11_plays_104 : decode cX11_plays 104 = .ok (.iload_n 1, 1) := by decide +kernel
theorem dX11_plays_105 : decode cX11_plays 105 = .ok (.ireturn, 1) := by decide +kernel
theorem dX11_fault_0 : decode cX11_fault 0 = .ok (.iload_n 1, 1) := by decide +kernel
theorem dX11_fault_1 : decode cX11_fault 1 = .ok (.iconst 0, 1) := by decide +kernel
theorem dX11_fault_2 : decode cX11_fault 2 = .ok (.iconst 2, 1) := by decide +kernel
theorem dX11_fault_3 : decode cX11_fault 3 = .ok (.invokestatic 37, 3) := by decide +kernel
theorem dX11_fault_6 : decode cX11_fault 6 = .ok (.ifCond .ne 6, 3) := by decide +kernel
theorem dX11_fault_9 : decode cX11_fault 9 = .ok (.ldc 41, 2) := by decide +kernel
theorem dX11_fault_11 : decode cX11_fault 11 = .ok (.ireturn, 1) := by decide +kernel
theorem dX11_fault_12 : decode cX11_fault 12 = .ok (.aload_n 0, 1) := by decide +kernel
theorem dX11_fault_13 : decode cX11_fault 13 = .ok (.getfield 7, 3) := by decide +kernel
theorem dX11_fault_16 : decode cX11_fault 16 = .ok (.aload_n 0, 1) := by decide +kernel
theorem dX11_fault_17 : decode cX11_fault 17 = .ok (.getfield 16, 3) := by decide +kernel
theorem dX11_fault_20 : decode cX11_fault 20 = .ok (.invokestatic 115, 3) := by decide +kernel
theorem dX11_fault_23 : decode cX11_fault 23 = .ok (.aload_n 0, 1) := by decide +kernel
theorem dX11_fault_24 : decode cX11_fault 24 = .ok (.invokevirtual 176, 3) := by decide +kernel
theorem dX11_fault_27 : decode cX11_fault 27 = .ok (.istore_n 2, 1) := by decide +kernel
theorem dX11_fault_28 : decode cX11_fault 28 = .ok (.aload_n 0, 1) := by decide +kernel
theorem dX11_fault_29 : decode cX11_fault 29 = .ok (.getfield 16, 3) := by decide +kernel
theorem dX11_fault_32 : decode cX11_fault 32 = .ok (.aload_n 0, 1) := by decide +kernel
theorem dX11_fault_33 : decode cX11_fault 33 = .ok (.getfield 7, 3) := by decide +kernel
theorem dX11_fault_36 : decode cX11_fault 36 = .ok (.invokestatic 115, 3) := by decide +kernel
theorem dX11_fault_39 : decode cX11_fault 39 = .ok (.iload_n 2, 1) := by decide +kernel
theorem dX11_fault_40 : decode cX11_fault 40 = .ok (.ldc 28, 2) := by decide +kernel
theorem dX11_fault_42 : decode cX11_fault 42 = .ok (.if_icmp .eq 7, 3) := by decide +kernel
theorem dX11_fault_45 : decode cX11_fault 45 = .ok (.iload_n 1, 1) := by decide +kernel
theorem dX11_fault_46 : decode cX11_fault 46 = .ok (.ifCond .ne 7, 3) := by decide +kernel
theorem dX11_fault_49 : decode cX11_fault 49 = .ok (.iload_n 2, 1) := by decide +kernel
theorem dX11_fault_50 : decode cX11_fault 50 = .ok (.goto 39, 3) := by decide +kernel
theorem dX11_fault_53 : decode cX11_fault 53 = .ok (.iload_n 1, 1) := by decide +kernel
theorem dX11_fault_54 : decode cX11_fault 54 = .ok (.iconst 1, 1) := by decide +kernel
theorem dX11_fault_55 : decode cX11_fault 55 = .ok (.if_icmp .ne 18, 3) := by decide +kernel
theorem dX11_fault_58 : decode cX11_fault 58 = .ok (.aload_n 0, 1) := by decide +kernel
theorem dX11_fault_59 : decode cX11_fault 59 = .ok (.getfield 173, 3) := by decide +kernel
theorem dX11_fault_62 : decode cX11_fault 62 = .ok (.ifCond .ne 7, 3) := by decide +kernel
theorem dX11_fault_65 : decode cX11_fault 65 = .ok (.iconst 1, 1) := by decide +kernel
theorem dX11_fault_66 : decode cX11_fault 66 = .ok (.goto 23, 3) := by decide +kernel
theorem dX11_fault_69 : decode cX11_fault 69 = .ok (.iconst 2, 1) := by decide +kernel
theorem dX11_fault_70 : decode cX11_fault 70 = .ok (.goto 19, 3) := by decide +kernel
theorem dX11_fault_73 : decode cX11_fault 73 = .ok (.aload_n 0, 1) := by decide +kernel
theorem dX11_fault_74 : decode cX11_fault 74 = .ok (.getfield 173, 3) := by decide +kernel
theorem dX11_fault_77 : decode cX11_fault 77 = .ok (.ifCond .ne 8, 3) := by decide +kernel
theorem dX11_fault_80 : decode cX11_fault 80 = .ok (.ldc 28, 2) := by decide +kernel
theorem dX11_fault_82 : decode cX11_fault 82 = .ok (.goto 7, 3) := by decide +kernel
theorem dX11_fault_85 : decode cX11_fault 85 = .ok (.aload_n 0, 1) := by decide +kernel
theorem dX11_fault_86 : decode cX11_fault 86 = .ok (.getfield 173, 3) := by decide +kernel
theorem dX11_fault_89 : decode cX11_fault 89 = .ok (.ireturn, 1) := by decide +kernel
theorem dX11_play_0 : decode cX11_play 0 = .ok (.aload_n 0, 1) := by decide +kernel
theorem dX11_play_1 : decode cX11_play 1 = .ok (.getfield 7, 3) := by decide +kernel
theorem dX11_play_4 : decode cX11_play 4 = .ok (.aload_n 0, 1) := by decide +kernel
theorem dX11_play_5 : decode cX11_play 5 = .ok (.getfield 16, 3) := by decide +kernel
theorem dX11_play_8 : decode cX11_play 8 = .ok (.invokestatic 115, 3) := by decide +kernel
theorem dX11_play_11 : decode cX11_play 11 = .ok (.aload_n 0, 1) := by decide +kernel
theorem dX11_play_12 : decode cX11_play 12 = .ok (.invokevirtual 176, 3) := by decide +kernel
theorem dX11_play_15 : decode cX11_play 15 = .ok (.istore_n 1, 1) := by decide +kernel
theorem dX11_play_16 : decode cX11_play 16 = .ok (.aload_n 0, 1) := by decide +kernel
theorem dX11_play_17 : decode cX11_play 17 = .ok (.getfield 16, 3) := by decide +kernel
theorem dX11_play_20 : decode cX11_play 20 = .ok (.aload_n 0, 1) := by decide +kernel
theorem dX11_play_21 : decode cX11_play 21 = .ok (.getfield 7, 3) := by decide +kernel
theorem dX11_play_24 : decode cX11_play 24 = .ok (.invokestatic 115, 3) := by decide +kernel
theorem dX11_play_27 : decode cX11_play 27 = .ok (.iload_n 1, 1) := by decide +kernel
theorem dX11_play_28 : decode cX11_play 28 = .ok (.ldc 28, 2) := by decide +kernel
theorem dX11_play_30 : decode cX11_play 30 = .ok (.if_icmp .eq 6, 3) := by decide +kernel
theorem dX11_play_33 : decode cX11_play 33 = .ok (.ldc 50, 2) := by decide +kernel
theorem dX11_play_35 : decode cX11_play 35 = .ok (.ireturn, 1) := by decide +kernel
theorem dX11_play_36 : decode cX11_play 36 = .ok (.aload_n 0, 1) := by decide +kernel
theorem dX11_play_37 : decode cX11_play 37 = .ok (.invokevirtual 43, 3) := by decide +kernel
theorem dX11_play_40 : decode cX11_play 40 = .ok (.aload_n 0, 1) := by decide +kernel
theorem dX11_play_41 : decode cX11_play 41 = .ok (.invokevirtual 176, 3) := by decide +kernel
theorem dX11_play_44 : decode cX11_play 44 = .ok (.ldc 28, 2) := by decide +kernel
theorem dX11_play_46 : decode cX11_play 46 = .ok (.if_icmp .ne 10, 3) := by decide +kernel
theorem dX11_play_49 : decode cX11_play 49 = .ok (.aload_n 0, 1) := by decide +kernel
theorem dX11_play_50 : decode cX11_play 50 = .ok (.getfield 164, 3) := by decide +kernel
theorem dX11_play_53 : decode cX11_play 53 = .ok (.goto 5, 3) := by decide +kernel
theorem dX11_play_56 : decode cX11_play 56 = .ok (.ldc 28, 2) := by decide +kernel
theorem dX11_play_58 : decode cX11_play 58 = .ok (.ireturn, 1) := by decide +kernel
theorem dL_law_0 : decode cL_law 0 = .ok (.new 7, 3) := by decide +kernel
theorem dL_law_3 : decode cL_law 3 = .ok (.dup, 1) := by decide +kernel
theorem dL_law_4 : decode cL_law 4 = .ok (.invokespecial 9, 3) := by decide +kernel
theorem dL_law_7 : decode cL_law 7 = .ok (.astore_n 1, 1) := by decide +kernel
theorem dL_law_8 : decode cL_law 8 = .ok (.new 10, 3) := by decide +kernel
theorem dL_law_11 : decode cL_law 11 = .ok (.dup, 1) := by decide +kernel
theorem dL_law_12 : decode cL_law 12 = .ok (.invokespecial 12, 3) := by decide +kernel
theorem dL_law_15 : decode cL_law 15 = .ok (.astore_n 2, 1) := by decide +kernel
theorem dL_law_16 : decode cL_law 16 = .ok (.iconst 0, 1) := by decide +kernel
theorem dL_law_17 : decode cL_law 17 = .ok (.istore_n 3, 1) := by decide +kernel
theorem dL_law_18 : decode cL_law 18 = .ok (.iload_n 3, 1) := by decide +kernel
theorem dL_law_19 : decode cL_law 19 = .ok (.aload_n 0, 1) := by decide +kernel
theorem dL_law_20 : decode cL_law 20 = .ok (.arraylength, 1) := by decide +kernel
theorem dL_law_21 : decode cL_law 21 = .ok (.iconst 3, 1) := by decide +kernel
theorem dL_law_22 : decode cL_law 22 = .ok (.isub, 1) := by decide +kernel
theorem dL_law_23 : decode cL_law 23 = .ok (.if_icmp .gt 696, 3) := by decide +kernel
theorem dL_law_26 : decode cL_law 26 = .ok (.aload_n 0, 1) := by decide +kernel
theorem dL_law_27 : decode cL_law 27 = .ok (.iload_n 3, 1) := by decide +kernel
theorem dL_law_28 : decode cL_law 28 = .ok (.iaload, 1) := by decide +kernel
theorem dL_law_29 : decode cL_law 29 = .ok (.bipush 31, 2) := by decide +kernel
theorem dL_law_31 : decode cL_law 31 = .ok (.iand, 1) := by decide +kernel
theorem dL_law_32 : decode cL_law 32 = .ok (.tableswitch 681 0 24 #[116, 149, 172, 195, 208, 231, 254, 267, 290, 323, 346, 379, 412, 445, 478, 511, 534, 557, 570, 583, 596, 609, 632, 645, 668], 116) := by decide +kernel
theorem dL_law_148 : decode cL_law 148 = .ok (.aload_n 1, 1) := by decide +kernel
theorem dL_law_149 : decode cL_law 149 = .ok (.aload_n 0, 1) := by decide +kernel
theorem dL_law_150 : decode cL_law 150 = .ok (.iload_n 3, 1) := by decide +kernel
theorem dL_law_151 : decode cL_law 151 = .ok (.iconst 1, 1) := by decide +kernel
theorem dL_law_152 : decode cL_law 152 = .ok (.iadd, 1) := by decide +kernel
theorem dL_law_153 : decode cL_law 153 = .ok (.iaload, 1) := by decide +kernel
theorem dL_law_154 : decode cL_law 154 = .ok (.aload_n 0, 1) := by decide +kernel
theorem dL_law_155 : decode cL_law 155 = .ok (.iload_n 3, 1) := by decide +kernel
theorem dL_law_156 : decode cL_law 156 = .ok (.iconst 2, 1) := by decide +kernel
theorem dL_law_157 : decode cL_law 157 = .ok (.iadd, 1) := by decide +kernel
theorem dL_law_158 : decode cL_law 158 = .ok (.iaload, 1) := by decide +kernel
theorem dL_law_159 : decode cL_law 159 = .ok (.invokevirtual 13, 3) := by decide +kernel
theorem dL_law_162 : decode cL_law 162 = .ok (.aload_n 2, 1) := by decide +kernel
theorem dL_law_163 : decode cL_law 163 = .ok (.aload_n 0, 1) := by decide +kernel
theorem dL_law_164 : decode cL_law 164 = .ok (.iload_n 3, 1) := by decide +kernel
theorem dL_law_165 : decode cL_law 165 = .ok (.iconst 1, 1) := by decide +kernel
theorem dL_law_166 : decode cL_law 166 = .ok (.iadd, 1) := by decide +kernel
theorem dL_law_167 : decode cL_law 167 = .ok (.iaload, 1) := by decide +kernel
theorem dL_law_168 : decode cL_law 168 = .ok (.aload_n 0, 1) := by decide +kernel
theorem dL_law_169 : decode cL_law 169 = .ok (.iload_n 3, 1) := by decide +kernel
theorem dL_law_170 : decode cL_law 170 = .ok (.iconst 2, 1) := by decide +kernel
theorem dL_law_171 : decode cL_law 171 = .ok (.iadd, 1) := by decide +kernel
theorem dL_law_172 : decode cL_law 172 = .ok (.iaload, 1) := by decide +kernel
theorem dL_law_173 : decode cL_law 173 = .ok (.invokevirtual 17, 3) := by decide +kernel
theorem dL_law_176 : decode cL_law 176 = .ok (.if_icmp .eq 537, 3) := by decide +kernel
theorem dL_law_179 : decode cL_law 179 = .ok (.iconst 0, 1) := by decide +kernel
theorem dL_law_180 : decode cL_law 180 = .ok (.ireturn, 1) := by decide +kernel
theorem dL_law_181 : decode cL_law 181 = .ok (.aload_n 1, 1) := by decide +kernel
theorem dL_law_182 : decode cL_law 182 = .ok (.aload_n 0, 1) := by decide +kernel
theorem dL_law_183 : decode cL_law 183 = .ok (.iload_n 3, 1) := by decide +kernel
theorem dL_law_184 : decode cL_law 184 = .ok (.iconst 1, 1) := by decide +kernel
theorem dL_law_185 : decode cL_law 185 = .ok (.iadd, 1) := by decide +kernel
theorem dL_law_186 : decode cL_law 186 = .ok (.iaload, 1) := by decide +kernel
theorem dL_law_187 : decode cL_law 187 = .ok (.invokevirtual 18, 3) := by decide +kernel
theorem dL_law_190 : decode cL_law 190 = .ok (.aload_n 2, 1) := by decide +kernel
theorem dL_law_191 : decode cL_law 191 = .ok (.aload_n 0, 1) := by decide +kernel
theorem dL_law_192 : decode cL_law 192 = .ok (.iload_n 3, 1) := by decide +kernel
theorem dL_law_193 : decode cL_law 193 = .ok (.iconst 1, 1) := by decide +kernel
theorem dL_law_194 : decode cL_law 194 = .ok (.iadd, 1) := by decide +kernel
theorem dL_law_195 : decode cL_law 195 = .ok (.iaload, 1) := by decide +kernel
theorem dL_law_196 : decode cL_law 196 = .ok (.invokevirtual 22, 3) := by decide +kernel
theorem dL_law_199 : decode cL_law 199 = .ok (.if_icmp .eq 514, 3) := by decide +kernel
theorem dL_law_202 : decode cL_law 202 = .ok (.iconst 0, 1) := by decide +kernel
theorem dL_law_203 : decode cL_law 203 = .ok (.ireturn, 1) := by decide +kernel
theorem dL_law_204 : decode cL_law 204 = .ok (.aload_n 1, 1) := by decide +kernel
theorem dL_law_205 : decode cL_law 205 = .ok (.aload_n 0, 1) := by decide +kernel
theorem dL_law_206 : decode cL_law 206 = .ok (.iload_n 3, 1) := by decide +kernel
theorem dL_law_207 : decode cL_law 207 = .ok (.iconst 1, 1) := by decide +kernel
theorem dL_law_208 : decode cL_law 208 = .ok (.iadd, 1) := by decide +kernel
theorem dL_law_209 : decode cL_law 209 = .ok (.iaload, 1) := by decide +kernel
theorem dL_law_210 : decode cL_law 210 = .ok (.invokevirtual 23, 3) := by decide +kernel
theorem dL_law_213 : decode cL_law 213 = .ok (.aload_n 2, 1) := by decide +kernel
theorem dL_law_214 : decode cL_law 214 = .ok (.aload_n 0, 1) := by decide +kernel
theorem dL_law_215 : decode cL_law 215 = .ok (.iload_n 3, 1) := by decide +kernel
theorem dL_law_216 : decode cL_law 216 = .ok (.iconst 1, 1) := by decide +kernel
theorem dL_law_217 : decode cL_law 217 = .ok (.iadd, 1) := by decide +kernel
theorem dL_law_218 : decode cL_law 218 = .ok (.iaload, 1) := by decide +kernel
theorem dL_law_219 : decode cL_law 219 = .ok (.invokevirtual 26, 3) := by decide +kernel
theorem dL_law_222 : decode cL_law 222 = .ok (.if_icmp .eq 491, 3) := by decide +kernel
theorem dL_law_225 : decode cL_law 225 = .ok (.iconst 0, 1) := by decide +kernel
theorem dL_law_226 : decode cL_law 226 = .ok (.ireturn, 1) := by decide +kernel
theorem dL_law_227 : decode cL_law 227 = .ok (.aload_n 1, 1) := by decide +kernel
theorem dL_law_228 : decode cL_law 228 = .ok (.invokevirtual 27, 3) := by decide +kernel
theorem dL_law_231 : decode cL_law 231 = .ok (.aload_n 2, 1) := by decide +kernel
theorem dL_law_232 : decode cL_law 232 = .ok (.invokevirtual 31, 3) := by decide +kernel
theorem dL_law_235 : decode cL_law 235 = .ok (.if_icmp .eq 478, 3) := by decide +kernel
theorem dL_law_238 : decode cL_law 238 = .ok (.iconst 0, 1) := by decide +kernel
theorem dL_law_239 : decode cL_law 239 = .ok (.ireturn, 1) := by decide +kernel
theorem dL_law_240 : decode cL_law 240 = .ok (.aload_n 1, 1) := by decide +kernel
theorem dL_law_241 : decode cL_law 241 = .ok (.aload_n 0, 1) := by decide +kernel
theorem dL_law_242 : decode cL_law 242 = .ok (.iload_n 3, 1) := by decide +kernel
theorem dL_law_243 : decode cL_law 243 = .ok (.iconst 1, 1) := by decide +kernel
theorem dL_law_244 : decode cL_law 244 = .ok (.iadd, 1) := by decide +kernel
theorem dL_law_245 : decode cL_law 245 = .ok (.iaload, 1) := by decide +kernel
theorem dL_law_246 : decode cL_law 246 = .ok (.invokevirtual 32, 3) := by decide +kernel
theorem dL_law_249 : decode cL_law 249 = .ok (.aload_n 2, 1) := by decide +kernel
theorem dL_law_250 : decode cL_law 250 = .ok (.aload_n 0, 1) := by decide +kernel
theorem dL_law_251 : decode cL_law 251 = .ok (.iload_n 3, 1) := by decide +kernel
theorem dL_law_252 : decode cL_law 252 = .ok (.iconst 1, 1) := by decide +kernel
theorem dL_law_253 : decode cL_law 253 = .ok (.iadd, 1) := by decide +kernel
theorem dL_law_254 : decode cL_law 254 = .ok (.iaload, 1) := by decide +kernel
theorem dL_law_255 : decode cL_law 255 = .ok (.invokevirtual 35, 3) := by decide +kernel
theorem dL_law_258 : decode cL_law 258 = .ok (.if_icmp .eq 455, 3) := by decide +kernel
theorem dL_law_261 : decode cL_law 261 = .ok (.iconst 0, 1) := by decide +kernel
theorem dL_law_262 : decode cL_law 262 = .ok (.ireturn, 1) := by decide +kernel
theorem dL_law_263 : decode cL_law 263 = .ok (.aload_n 1, 1) := by decide +kernel
theorem dL_law_264 : decode cL_law 264 = .ok (.aload_n 0, 1) := by decide +kernel
theorem dL_law_265 : decode cL_law 265 = .ok (.iload_n 3, 1) := by decide +kernel
theorem dL_law_266 : decode cL_law 266 = .ok (.iconst 1, 1) := by decide +kernel
theorem dL_law_267 : decode cL_law 267 = .ok (.iadd, 1) := by decide +kernel
theorem dL_law_268 : decode cL_law 268 = .ok (.iaload, 1) := by decide +kernel
theorem dL_law_269 : decode cL_law 269 = .ok (.invokevirtual 36, 3) := by decide +kernel
theorem dL_law_272 : decode cL_law 272 = .ok (.aload_n 2, 1) := by decide +kernel
theorem dL_law_273 : decode cL_law 273 = .ok (.aload_n 0, 1) := by decide +kernel
theorem dL_law_274 : decode cL_law 274 = .ok (.iload_n 3, 1) := by decide +kernel
theorem dL_law_275 : decode cL_law 275 = .ok (.iconst 1, 1) := by decide +kernel
theorem dL_law_276 : decode cL_law 276 = .ok (.iadd, 1) := by decide +kernel
theorem dL_law_277 : decode cL_law 277 = .ok (.iaload, 1) := by decide +kernel
theorem dL_law_278 : decode cL_law 278 = .ok (.invokevirtual 39, 3) := by decide +kernel
theorem dL_law_281 : decode cL_law 281 = .ok (.if_icmp .eq 432, 3) := by decide +kernel
theorem dL_law_284 : decode cL_law 284 = .ok (.iconst 0, 1) := by decide +kernel
theorem dL_law_285 : decode cL_law 285 = .ok (.ireturn, 1) := by decide +kernel
theorem dL_law_286 : decode cL_law 286 = .ok (.aload_n 1, 1) := by decide +kernel
theorem dL_law_287 : decode cL_law 287 = .ok (.invokevirtual 40, 3) := by decide +kernel
theorem dL_law_290 : decode cL_law 290 = .ok (.aload_n 2, 1) := by decide +kernel
theorem dL_law_291 : decode cL_law 291 = .ok (.invokevirtual 43, 3) := by decide +kernel
theorem dL_law_294 : decode cL_law 294 = .ok (.if_icmp .eq 419, 3) := by decide +kernel
theorem dL_law_297 : decode cL_law 297 = .ok (.iconst 0, 1) := by decide +kernel
theorem dL_law_298 : decode cL_law 298 = .ok (.ireturn, 1) := by decide +kernel
theorem dL_law_299 : decode cL_law 299 = .ok (.aload_n 1, 1) := by decide +kernel
theorem dL_law_300 : decode cL_law 300 = .ok (.aload_n 0, 1) := by decide +kernel
theorem dL_law_301 : decode cL_law 301 = .ok (.iload_n 3, 1) := by decide +kernel
theorem dL_law_302 : decode cL_law 302 = .ok (.iconst 1, 1) := by decide +kernel
theorem dL_law_303 : decode cL_law 303 = .ok (.iadd, 1) := by decide +kernel
theorem dL_law_304 : decode cL_law 304 = .ok (.iaload, 1) := by decide +kernel
theorem dL_law_305 : decode cL_law 305 = .ok (.invokevirtual 44, 3) := by decide +kernel
theorem dL_law_308 : decode cL_law 308 = .ok (.aload_n 2, 1) := by decide +kernel
theorem dL_law_309 : decode cL_law 309 = .ok (.aload_n 0, 1) := by decide +kernel
theorem dL_law_310 : decode cL_law 310 = .ok (.iload_n 3, 1) := by decide +kernel
theorem dL_law_311 : decode cL_law 311 = .ok (.iconst 1, 1) := by decide +kernel
theorem dL_law_312 : decode cL_law 312 = .ok (.iadd, 1) := by decide +kernel
theorem dL_law_313 : decode cL_law 313 = .ok (.iaload, 1) := by decide +kernel
theorem dL_law_314 : decode cL_law 314 = .ok (.invokevirtual 47, 3) := by decide +kernel
theorem dL_law_317 : decode cL_law 317 = .ok (.if_icmp .eq 396, 3) := by decide +kernel
theorem dL_law_320 : decode cL_law 320 = .ok (.iconst 0, 1) := by decide +kernel
theorem dL_law_321 : decode cL_law 321 = .ok (.ireturn, 1) := by decide +kernel
theorem dL_law_322 : decode cL_law 322 = .ok (.aload_n 1, 1) := by decide +kernel
theorem dL_law_323 : decode cL_law 323 = .ok (.aload_n 0, 1) := by decide +kernel
theorem dL_law_324 : decode cL_law 324 = .ok (.iload_n 3, 1) := by decide +kernel
theorem dL_law_325 : decode cL_law 325 = .ok (.iconst 1, 1) := by decide +kernel
theorem dL_law_326 : decode cL_law 326 = .ok (.iadd, 1) := by decide +kernel
theorem dL_law_327 : decode cL_law 327 = .ok (.iaload, 1) := by decide +kernel
theorem dL_law_328 : decode cL_law 328 = .ok (.aload_n 0, 1) := by decide +kernel
theorem dL_law_329 : decode cL_law 329 = .ok (.iload_n 3, 1) := by decide +kernel
theorem dL_law_330 : decode cL_law 330 = .ok (.iconst 2, 1) := by decide +kernel
theorem dL_law_331 : decode cL_law 331 = .ok (.iadd, 1) := by decide +kernel
theorem dL_law_332 : decode cL_law 332 = .ok (.iaload, 1) := by decide +kernel
theorem dL_law_333 : decode cL_law 333 = .ok (.invokevirtual 48, 3) := by decide +kernel
theorem dL_law_336 : decode cL_law 336 = .ok (.aload_n 2, 1) := by decide +kernel
theorem dL_law_337 : decode cL_law 337 = .ok (.aload_n 0, 1) := by decide +kernel
theorem dL_law_338 : decode cL_law 338 = .ok (.iload_n 3, 1) := by decide +kernel
theorem dL_law_339 : decode cL_law 339 = .ok (.iconst 1, 1) := by decide +kernel
theorem dL_law_340 : decode cL_law 340 = .ok (.iadd, 1) := by decide +kernel
theorem dL_law_341 : decode cL_law 341 = .ok (.iaload, 1) := by decide +kernel
theorem dL_law_342 : decode cL_law 342 = .ok (.aload_n 0, 1) := by decide +kernel
theorem dL_law_343 : decode cL_law 343 = .ok (.iload_n 3, 1) := by decide +kernel
theorem dL_law_344 : decode cL_law 344 = .ok (.iconst 2, 1) := by decide +kernel
theorem dL_law_345 : decode cL_law 345 = .ok (.iadd, 1) := by decide +kernel
theorem dL_law_346 : decode cL_law 346 = .ok (.iaload, 1) := by decide +kernel
theorem dL_law_347 : decode cL_law 347 = .ok (.invokevirtual 51, 3) := by decide +kernel
theorem dL_law_350 : decode cL_law 350 = .ok (.if_icmp .eq 363, 3) := by decide +kernel
theorem dL_law_353 : decode cL_law 353 = .ok (.iconst 0, 1) := by decide +kernel
theorem dL_law_354 : decode cL_law 354 = .ok (.ireturn, 1) := by decide +kernel
theorem dL_law_355 : decode cL_law 355 = .ok (.aload_n 1, 1) := by decide +kernel
theorem dL_law_356 : decode cL_law 356 = .ok (.aload_n 0, 1) := by decide +kernel
theorem dL_law_357 : decode cL_law 357 = .ok (.iload_n 3, 1) := by decide +kernel
theorem dL_law_358 : decode cL_law 358 = .ok (.iconst 1, 1) := by decide +kernel
theorem dL_law_359 : decode cL_law 359 = .ok (.iadd, 1) := by decide +kernel
theorem dL_law_360 : decode cL_law 360 = .ok (.iaload, 1) := by decide +kernel
theorem dL_law_361 : decode cL_law 361 = .ok (.invokevirtual 52, 3) := by decide +kernel
theorem dL_law_364 : decode cL_law 364 = .ok (.aload_n 2, 1) := by decide +kernel
theorem dL_law_365 : decode cL_law 365 = .ok (.aload_n 0, 1) := by decide +kernel
theorem dL_law_366 : decode cL_law 366 = .ok (.iload_n 3, 1) := by decide +kernel
theorem dL_law_367 : decode cL_law 367 = .ok (.iconst 1, 1) := by decide +kernel
theorem dL_law_368 : decode cL_law 368 = .ok (.iadd, 1) := by decide +kernel
theorem dL_law_369 : decode cL_law 369 = .ok (.iaload, 1) := by decide +kernel
theorem dL_law_370 : decode cL_law 370 = .ok (.invokevirtual 55, 3) := by decide +kernel
theorem dL_law_373 : decode cL_law 373 = .ok (.if_icmp .eq 340, 3) := by decide +kernel
theorem dL_law_376 : decode cL_law 376 = .ok (.iconst 0, 1) := by decide +kernel
theorem dL_law_377 : decode cL_law 377 = .ok (.ireturn, 1) := by decide +kernel
theorem dL_law_378 : decode cL_law 378 = .ok (.aload_n 1, 1) := by decide +kernel
theorem dL_law_379 : decode cL_law 379 = .ok (.aload_n 0, 1) := by decide +kernel
theorem dL_law_380 : decode cL_law 380 = .ok (.iload_n 3, 1) := by decide +kernel
theorem dL_law_381 : decode cL_law 381 = .ok (.iconst 1, 1) := by decide +kernel
theorem dL_law_382 : decode cL_law 382 = .ok (.iadd, 1) := by decide +kernel
theorem dL_law_383 : decode cL_law 383 = .ok (.iaload, 1) := by decide +kernel
theorem dL_law_384 : decode cL_law 384 = .ok (.aload_n 0, 1) := by decide +kernel
theorem dL_law_385 : decode cL_law 385 = .ok (.iload_n 3, 1) := by decide +kernel
theorem dL_law_386 : decode cL_law 386 = .ok (.iconst 2, 1) := by decide +kernel
theorem dL_law_387 : decode cL_law 387 = .ok (.iadd, 1) := by decide +kernel
theorem dL_law_388 : decode cL_law 388 = .ok (.iaload, 1) := by decide +kernel
theorem dL_law_389 : decode cL_law 389 = .ok (.invokevirtual 56, 3) := by decide +kernel
theorem dL_law_392 : decode cL_law 392 = .ok (.aload_n 2, 1) := by decide +kernel
theorem dL_law_393 : decode cL_law 393 = .ok (.aload_n 0, 1) := by decide +kernel
theorem dL_law_394 : decode cL_law 394 = .ok (.iload_n 3, 1) := by decide +kernel
theorem dL_law_395 : decode cL_law 395 = .ok (.iconst 1, 1) := by decide +kernel
theorem dL_law_396 : decode cL_law 396 = .ok (.iadd, 1) := by decide +kernel
theorem dL_law_397 : decode cL_law 397 = .ok (.iaload, 1) := by decide +kernel
theorem dL_law_398 : decode cL_law 398 = .ok (.aload_n 0, 1) := by decide +kernel
theorem dL_law_399 : decode cL_law 399 = .ok (.iload_n 3, 1) := by decide +kernel
theorem dL_law_400 : decode cL_law 400 = .ok (.iconst 2, 1) := by decide +kernel
theorem dL_law_401 : decode cL_law 401 = .ok (.iadd, 1) := by decide +kernel
theorem dL_law_402 : decode cL_law 402 = .ok (.iaload, 1) := by decide +kernel
theorem dL_law_403 : decode cL_law 403 = .ok (.invokevirtual 59, 3) := by decide +kernel
theorem dL_law_406 : decode cL_law 406 = .ok (.if_icmp .eq 307, 3) := by decide +kernel
theorem dL_law_409 : decode cL_law 409 = .ok (.iconst 0, 1) := by decide +kernel
theorem dL_law_410 : decode cL_law 410 = .ok (.ireturn, 1) := by decide +kernel
theorem dL_law_411 : decode cL_law 411 = .ok (.aload_n 1, 1) := by decide +kernel
theorem dL_law_412 : decode cL_law 412 = .ok (.aload_n 0, 1) := by decide +kernel
theorem dL_law_413 : decode cL_law 413 = .ok (.iload_n 3, 1) := by decide +kernel
theorem dL_law_414 : decode cL_law 414 = .ok (.iconst 1, 1) := by decide +kernel
theorem dL_law_415 : decode cL_law 415 = .ok (.iadd, 1) := by decide +kernel
theorem dL_law_416 : decode cL_law 416 = .ok (.iaload, 1) := by decide +kernel
theorem dL_law_417 : decode cL_law 417 = .ok (.aload_n 0, 1) := by decide +kernel
theorem dL_law_418 : decode cL_law 418 = .ok (.iload_n 3, 1) := by decide +kernel
theorem dL_law_419 : decode cL_law 419 = .ok (.iconst 2, 1) := by decide +kernel
theorem dL_law_420 : decode cL_law 420 = .ok (.iadd, 1) := by decide +kernel
theorem dL_law_421 : decode cL_law 421 = .ok (.iaload, 1) := by decide +kernel
theorem dL_law_422 : decode cL_law 422 = .ok (.invokevirtual 60, 3) := by decide +kernel
theorem dL_law_425 : decode cL_law 425 = .ok (.aload_n 2, 1) := by decide +kernel
theorem dL_law_426 : decode cL_law 426 = .ok (.aload_n 0, 1) := by decide +kernel
theorem dL_law_427 : decode cL_law 427 = .ok (.iload_n 3, 1) := by decide +kernel
theorem dL_law_428 : decode cL_law 428 = .ok (.iconst 1, 1) := by decide +kernel
theorem dL_law_429 : decode cL_law 429 = .ok (.iadd, 1) := by decide +kernel
theorem dL_law_430 : decode cL_law 430 = .ok (.iaload, 1) := by decide +kernel
theorem dL_law_431 : decode cL_law 431 = .ok (.aload_n 0, 1) := by decide +kernel
theorem dL_law_432 : decode cL_law 432 = .ok (.iload_n 3, 1) := by decide +kernel
theorem dL_law_433 : decode cL_law 433 = .ok (.iconst 2, 1) := by decide +kernel
theorem dL_law_434 : decode cL_law 434 = .ok (.iadd, 1) := by decide +kernel
theorem dL_law_435 : decode cL_law 435 = .ok (.iaload, 1) := by decide +kernel
theorem dL_law_436 : decode cL_law 436 = .ok (.invokevirtual 63, 3) := by decide +kernel
theorem dL_law_439 : decode cL_law 439 = .ok (.if_icmp .eq 274, 3) := by decide +kernel
theorem dL_law_442 : decode cL_law 442 = .ok (.iconst 0, 1) := by decide +kernel
theorem dL_law_443 : decode cL_law 443 = .ok (.ireturn, 1) := by decide +kernel
theorem dL_law_444 : decode cL_law 444 = .ok (.aload_n 1, 1) := by decide +kernel
theorem dL_law_445 : decode cL_law 445 = .ok (.aload_n 0, 1) := by decide +kernel
theorem dL_law_446 : decode cL_law 446 = .ok (.iload_n 3, 1) := by decide +kernel
theorem dL_law_447 : decode cL_law 447 = .ok (.iconst 1, 1) := by decide +kernel
theorem dL_law_448 : decode cL_law 448 = .ok (.iadd, 1) := by decide +kernel
theorem dL_law_449 : decode cL_law 449 = .ok (.iaload, 1) := by decide +kernel
theorem dL_law_450 : decode cL_law 450 = .ok (.aload_n 0, 1) := by decide +kernel
theorem dL_law_451 : decode cL_law 451 = .ok (.iload_n 3, 1) := by decide +kernel
theorem dL_law_452 : decode cL_law 452 = .ok (.iconst 2, 1) := by decide +kernel
theorem dL_law_453 : decode cL_law 453 = .ok (.iadd, 1) := by decide +kernel
theorem dL_law_454 : decode cL_law 454 = .ok (.iaload, 1) := by decide +kernel
theorem dL_law_455 : decode cL_law 455 = .ok (.invokevirtual 64, 3) := by decide +kernel
theorem dL_law_458 : decode cL_law 458 = .ok (.aload_n 2, 1) := by decide +kernel
theorem dL_law_459 : decode cL_law 459 = .ok (.aload_n 0, 1) := by decide +kernel
theorem dL_law_460 : decode cL_law 460 = .ok (.iload_n 3, 1) := by decide +kernel
theorem dL_law_461 : decode cL_law 461 = .ok (.iconst 1, 1) := by decide +kernel
theorem dL_law_462 : decode cL_law 462 = .ok (.iadd, 1) := by decide +kernel
theorem dL_law_463 : decode cL_law 463 = .ok (.iaload, 1) := by decide +kernel
theorem dL_law_464 : decode cL_law 464 = .ok (.aload_n 0, 1) := by decide +kernel
theorem dL_law_465 : decode cL_law 465 = .ok (.iload_n 3, 1) := by decide +kernel
theorem dL_law_466 : decode cL_law 466 = .ok (.iconst 2, 1) := by decide +kernel
theorem dL_law_467 : decode cL_law 467 = .ok (.iadd, 1) := by decide +kernel
theorem dL_law_468 : decode cL_law 468 = .ok (.iaload, 1) := by decide +kernel
theorem dL_law_469 : decode cL_law 469 = .ok (.invokevirtual 67, 3) := by decide +kernel
theorem dL_law_472 : decode cL_law 472 = .ok (.if_icmp .eq 241, 3) := by decide +kernel
theorem dL_law_475 : decode cL_law 475 = .ok (.iconst 0, 1) := by decide +kernel
theorem dL_law_476 : decode cL_law 476 = .ok (.ireturn, 1) := by decide +kernel
theorem dL_law_477 : decode cL_law 477 = .ok (.aload_n 1, 1) := by decide +kernel
theorem dL_law_478 : decode cL_law 478 = .ok (.aload_n 0, 1) := by decide +kernel
theorem dL_law_479 : decode cL_law 479 = .ok (.iload_n 3, 1) := by decide +kernel
theorem dL_law_480 : decode cL_law 480 = .ok (.iconst 1, 1) := by decide +kernel
theorem dL_law_481 : decode cL_law 481 = .ok (.iadd, 1) := by decide +kernel
theorem dL_law_482 : decode cL_law 482 = .ok (.iaload, 1) := by decide +kernel
theorem dL_law_483 : decode cL_law 483 = .ok (.aload_n 0, 1) := by decide +kernel
theorem dL_law_484 : decode cL_law 484 = .ok (.iload_n 3, 1) := by decide +kernel
theorem dL_law_485 : decode cL_law 485 = .ok (.iconst 2, 1) := by decide +kernel
theorem dL_law_486 : decode cL_law 486 = .ok (.iadd, 1) := by decide +kernel
theorem dL_law_487 : decode cL_law 487 = .ok (.iaload, 1) := by decide +kernel
theorem dL_law_488 : decode cL_law 488 = .ok (.invokevirtual 68, 3) := by decide +kernel
theorem dL_law_491 : decode cL_law 491 = .ok (.aload_n 2, 1) := by decide +kernel
theorem dL_law_492 : decode cL_law 492 = .ok (.aload_n 0, 1) := by decide +kernel
theorem dL_law_493 : decode cL_law 493 = .ok (.iload_n 3, 1) := by decide +kernel
theorem dL_law_494 : decode cL_law 494 = .ok (.iconst 1, 1) := by decide +kernel
theorem dL_law_495 : decode cL_law 495 = .ok (.iadd, 1) := by decide +kernel
theorem dL_law_496 : decode cL_law 496 = .ok (.iaload, 1) := by decide +kernel
theorem dL_law_497 : decode cL_law 497 = .ok (.aload_n 0, 1) := by decide +kernel
theorem dL_law_498 : decode cL_law 498 = .ok (.iload_n 3, 1) := by decide +kernel
theorem dL_law_499 : decode cL_law 499 = .ok (.iconst 2, 1) := by decide +kernel
theorem dL_law_500 : decode cL_law 500 = .ok (.iadd, 1) := by decide +kernel
theorem dL_law_501 : decode cL_law 501 = .ok (.iaload, 1) := by decide +kernel
theorem dL_law_502 : decode cL_law 502 = .ok (.invokevirtual 71, 3) := by decide +kernel
theorem dL_law_505 : decode cL_law 505 = .ok (.if_icmp .eq 208, 3) := by decide +kernel
theorem dL_law_508 : decode cL_law 508 = .ok (.iconst 0, 1) := by decide +kernel
theorem dL_law_509 : decode cL_law 509 = .ok (.ireturn, 1) := by decide +kernel
theorem dL_law_510 : decode cL_law 510 = .ok (.aload_n 1, 1) := by decide +kernel
theorem dL_law_511 : decode cL_law 511 = .ok (.aload_n 0, 1) := by decide +kernel
theorem dL_law_512 : decode cL_law 512 = .ok (.iload_n 3, 1) := by decide +kernel
theorem dL_law_513 : decode cL_law 513 = .ok (.iconst 1, 1) := by decide +kernel
theorem dL_law_514 : decode cL_law 514 = .ok (.iadd, 1) := by decide +kernel
theorem dL_law_515 : decode cL_law 515 = .ok (.iaload, 1) := by decide +kernel
theorem dL_law_516 : decode cL_law 516 = .ok (.aload_n 0, 1) := by decide +kernel
theorem dL_law_517 : decode cL_law 517 = .ok (.iload_n 3, 1) := by decide +kernel
theorem dL_law_518 : decode cL_law 518 = .ok (.iconst 2, 1) := by decide +kernel
theorem dL_law_519 : decode cL_law 519 = .ok (.iadd, 1) := by decide +kernel
theorem dL_law_520 : decode cL_law 520 = .ok (.iaload, 1) := by decide +kernel
theorem dL_law_521 : decode cL_law 521 = .ok (.invokevirtual 72, 3) := by decide +kernel
theorem dL_law_524 : decode cL_law 524 = .ok (.aload_n 2, 1) := by decide +kernel
theorem dL_law_525 : decode cL_law 525 = .ok (.aload_n 0, 1) := by decide +kernel
theorem dL_law_526 : decode cL_law 526 = .ok (.iload_n 3, 1) := by decide +kernel
theorem dL_law_527 : decode cL_law 527 = .ok (.iconst 1, 1) := by decide +kernel
theorem dL_law_528 : decode cL_law 528 = .ok (.iadd, 1) := by decide +kernel
theorem dL_law_529 : decode cL_law 529 = .ok (.iaload, 1) := by decide +kernel
theorem dL_law_530 : decode cL_law 530 = .ok (.aload_n 0, 1) := by decide +kernel
theorem dL_law_531 : decode cL_law 531 = .ok (.iload_n 3, 1) := by decide +kernel
theorem dL_law_532 : decode cL_law 532 = .ok (.iconst 2, 1) := by decide +kernel
theorem dL_law_533 : decode cL_law 533 = .ok (.iadd, 1) := by decide +kernel
theorem dL_law_534 : decode cL_law 534 = .ok (.iaload, 1) := by decide +kernel
theorem dL_law_535 : decode cL_law 535 = .ok (.invokevirtual 75, 3) := by decide +kernel
theorem dL_law_538 : decode cL_law 538 = .ok (.if_icmp .eq 175, 3) := by decide +kernel
theorem dL_law_541 : decode cL_law 541 = .ok (.iconst 0, 1) := by decide +kernel
theorem dL_law_542 : decode cL_law 542 = .ok (.ireturn, 1) := by decide +kernel
theorem dL_law_543 : decode cL_law 543 = .ok (.aload_n 1, 1) := by decide +kernel
theorem dL_law_544 : decode cL_law 544 = .ok (.aload_n 0, 1) := by decide +kernel
theorem dL_law_545 : decode cL_law 545 = .ok (.iload_n 3, 1) := by decide +kernel
theorem dL_law_546 : decode cL_law 546 = .ok (.iconst 1, 1) := by decide +kernel
theorem dL_law_547 : decode cL_law 547 = .ok (.iadd, 1) := by decide +kernel
theorem dL_law_548 : decode cL_law 548 = .ok (.iaload, 1) := by decide +kernel
theorem dL_law_549 : decode cL_law 549 = .ok (.invokevirtual 76, 3) := by decide +kernel
theorem dL_law_552 : decode cL_law 552 = .ok (.aload_n 2, 1) := by decide +kernel
theorem dL_law_553 : decode cL_law 553 = .ok (.aload_n 0, 1) := by decide +kernel
theorem dL_law_554 : decode cL_law 554 = .ok (.iload_n 3, 1) := by decide +kernel
theorem dL_law_555 : decode cL_law 555 = .ok (.iconst 1, 1) := by decide +kernel
theorem dL_law_556 : decode cL_law 556 = .ok (.iadd, 1) := by decide +kernel
theorem dL_law_557 : decode cL_law 557 = .ok (.iaload, 1) := by decide +kernel
theorem dL_law_558 : decode cL_law 558 = .ok (.invokevirtual 79, 3) := by decide +kernel
theorem dL_law_561 : decode cL_law 561 = .ok (.if_icmp .eq 152, 3) := by decide +kernel
theorem dL_law_564 : decode cL_law 564 = .ok (.iconst 0, 1) := by decide +kernel
theorem dL_law_565 : decode cL_law 565 = .ok (.ireturn, 1) := by decide +kernel
theorem dL_law_566 : decode cL_law 566 = .ok (.aload_n 1, 1) := by decide +kernel
theorem dL_law_567 : decode cL_law 567 = .ok (.aload_n 0, 1) := by decide +kernel
theorem dL_law_568 : decode cL_law 568 = .ok (.iload_n 3, 1) := by decide +kernel
theorem dL_law_569 : decode cL_law 569 = .ok (.iconst 1, 1) := by decide +kernel
theorem dL_law_570 : decode cL_law 570 = .ok (.iadd, 1) := by decide +kernel
theorem dL_law_571 : decode cL_law 571 = .ok (.iaload, 1) := by decide +kernel
theorem dL_law_572 : decode cL_law 572 = .ok (.invokevirtual 80, 3) := by decide +kernel
theorem dL_law_575 : decode cL_law 575 = .ok (.aload_n 2, 1) := by decide +kernel
theorem dL_law_576 : decode cL_law 576 = .ok (.aload_n 0, 1) := by decide +kernel
theorem dL_law_577 : decode cL_law 577 = .ok (.iload_n 3, 1) := by decide +kernel
theorem dL_law_578 : decode cL_law 578 = .ok (.iconst 1, 1) := by decide +kernel
theorem dL_law_579 : decode cL_law 579 = .ok (.iadd, 1) := by decide +kernel
theorem dL_law_580 : decode cL_law 580 = .ok (.iaload, 1) := by decide +kernel
theorem dL_law_581 : decode cL_law 581 = .ok (.invokevirtual 83, 3) := by decide +kernel
theorem dL_law_584 : decode cL_law 584 = .ok (.if_icmp .eq 129, 3) := by decide +kernel
theorem dL_law_587 : decode cL_law 587 = .ok (.iconst 0, 1) := by decide +kernel
theorem dL_law_588 : decode cL_law 588 = .ok (.ireturn, 1) := by decide +kernel
theorem dL_law_589 : decode cL_law 589 = .ok (.aload_n 1, 1) := by decide +kernel
theorem dL_law_590 : decode cL_law 590 = .ok (.invokevirtual 84, 3) := by decide +kernel
theorem dL_law_593 : decode cL_law 593 = .ok (.aload_n 2, 1) := by decide +kernel
theorem dL_law_594 : decode cL_law 594 = .ok (.invokevirtual 87, 3) := by decide +kernel
theorem dL_law_597 : decode cL_law 597 = .ok (.if_icmp .eq 116, 3) := by decide +kernel
theorem dL_law_600 : decode cL_law 600 = .ok (.iconst 0, 1) := by decide +kernel
theorem dL_law_601 : decode cL_law 601 = .ok (.ireturn, 1) := by decide +kernel
theorem dL_law_602 : decode cL_law 602 = .ok (.aload_n 1, 1) := by decide +kernel
theorem dL_law_603 : decode cL_law 603 = .ok (.invokevirtual 88, 3) := by decide +kernel
theorem dL_law_606 : decode cL_law 606 = .ok (.aload_n 2, 1) := by decide +kernel
theorem dL_law_607 : decode cL_law 607 = .ok (.invokevirtual 91, 3) := by decide +kernel
theorem dL_law_610 : decode cL_law 610 = .ok (.if_icmp .eq 103, 3) := by decide +kernel
theorem dL_law_613 : decode cL_law 613 = .ok (.iconst 0, 1) := by decide +kernel
theorem dL_law_614 : decode cL_law 614 = .ok (.ireturn, 1) := by decide +kernel
theorem dL_law_615 : decode cL_law 615 = .ok (.aload_n 1, 1) := by decide +kernel
theorem dL_law_616 : decode cL_law 616 = .ok (.invokevirtual 92, 3) := by decide +kernel
theorem dL_law_619 : decode cL_law 619 = .ok (.aload_n 2, 1) := by decide +kernel
theorem dL_law_620 : decode cL_law 620 = .ok (.invokevirtual 95, 3) := by decide +kernel
theorem dL_law_623 : decode cL_law 623 = .ok (.if_icmp .eq 90, 3) := by decide +kernel
theorem dL_law_626 : decode cL_law 626 = .ok (.iconst 0, 1) := by decide +kernel
theorem dL_law_627 : decode cL_law 627 = .ok (.ireturn, 1) := by decide +kernel
theorem dL_law_628 : decode cL_law 628 = .ok (.aload_n 1, 1) := by decide +kernel
theorem dL_law_629 : decode cL_law 629 = .ok (.invokevirtual 96, 3) := by decide +kernel
theorem dL_law_632 : decode cL_law 632 = .ok (.aload_n 2, 1) := by decide +kernel
theorem dL_law_633 : decode cL_law 633 = .ok (.invokevirtual 99, 3) := by decide +kernel
theorem dL_law_636 : decode cL_law 636 = .ok (.if_icmp .eq 77, 3) := by decide +kernel
theorem dL_law_639 : decode cL_law 639 = .ok (.iconst 0, 1) := by decide +kernel
theorem dL_law_640 : decode cL_law 640 = .ok (.ireturn, 1) := by decide +kernel
theorem dL_law_641 : decode cL_law 641 = .ok (.aload_n 1, 1) := by decide +kernel
theorem dL_law_642 : decode cL_law 642 = .ok (.aload_n 0, 1) := by decide +kernel
theorem dL_law_643 : decode cL_law 643 = .ok (.iload_n 3, 1) := by decide +kernel
theorem dL_law_644 : decode cL_law 644 = .ok (.iconst 1, 1) := by decide +kernel
theorem dL_law_645 : decode cL_law 645 = .ok (.iadd, 1) := by decide +kernel
theorem dL_law_646 : decode cL_law 646 = .ok (.iaload, 1) := by decide +kernel
theorem dL_law_647 : decode cL_law 647 = .ok (.invokevirtual 100, 3) := by decide +kernel
theorem dL_law_650 : decode cL_law 650 = .ok (.aload_n 2, 1) := by decide +kernel
theorem dL_law_651 : decode cL_law 651 = .ok (.aload_n 0, 1) := by decide +kernel
theorem dL_law_652 : decode cL_law 652 = .ok (.iload_n 3, 1) := by decide +kernel
theorem dL_law_653 : decode cL_law 653 = .ok (.iconst 1, 1) := by decide +kernel
theorem dL_law_654 : decode cL_law 654 = .ok (.iadd, 1) := by decide +kernel
theorem dL_law_655 : decode cL_law 655 = .ok (.iaload, 1) := by decide +kernel
theorem dL_law_656 : decode cL_law 656 = .ok (.invokevirtual 103, 3) := by decide +kernel
theorem dL_law_659 : decode cL_law 659 = .ok (.if_icmp .eq 54, 3) := by decide +kernel
theorem dL_law_662 : decode cL_law 662 = .ok (.iconst 0, 1) := by decide +kernel
theorem dL_law_663 : decode cL_law 663 = .ok (.ireturn, 1) := by decide +kernel
theorem dL_law_664 : decode cL_law 664 = .ok (.aload_n 1, 1) := by decide +kernel
theorem dL_law_665 : decode cL_law 665 = .ok (.invokevirtual 104, 3) := by decide +kernel
theorem dL_law_668 : decode cL_law 668 = .ok (.aload_n 2, 1) := by decide +kernel
theorem dL_law_669 : decode cL_law 669 = .ok (.invokevirtual 107, 3) := by decide +kernel
theorem dL_law_672 : decode cL_law 672 = .ok (.if_icmp .eq 41, 3) := by decide +kernel
theorem dL_law_675 : decode cL_law 675 = .ok (.iconst 0, 1) := by decide +kernel
theorem dL_law_676 : decode cL_law 676 = .ok (.ireturn, 1) := by decide +kernel
theorem dL_law_677 : decode cL_law 677 = .ok (.aload_n 1, 1) := by decide +kernel
theorem dL_law_678 : decode cL_law 678 = .ok (.aload_n 0, 1) := by decide +kernel
theorem dL_law_679 : decode cL_law 679 = .ok (.iload_n 3, 1) := by decide +kernel
theorem dL_law_680 : decode cL_law 680 = .ok (.iconst 1, 1) := by decide +kernel
theorem dL_law_681 : decode cL_law 681 = .ok (.iadd, 1) := by decide +kernel
theorem dL_law_682 : decode cL_law 682 = .ok (.iaload, 1) := by decide +kernel
theorem dL_law_683 : decode cL_law 683 = .ok (.invokevirtual 108, 3) := by decide +kernel
theorem dL_law_686 : decode cL_law 686 = .ok (.aload_n 2, 1) := by decide +kernel
theorem dL_law_687 : decode cL_law 687 = .ok (.aload_n 0, 1) := by decide +kernel
theorem dL_law_688 : decode cL_law 688 = .ok (.iload_n 3, 1) := by decide +kernel
theorem dL_law_689 : decode cL_law 689 = .ok (.iconst 1, 1) := by decide +kernel
theorem dL_law_690 : decode cL_law 690 = .ok (.iadd, 1) := by decide +kernel
theorem dL_law_691 : decode cL_law 691 = .ok (.iaload, 1) := by decide +kernel
theorem dL_law_692 : decode cL_law 692 = .ok (.invokevirtual 111, 3) := by decide +kernel
theorem dL_law_695 : decode cL_law 695 = .ok (.if_icmp .eq 18, 3) := by decide +kernel
theorem dL_law_698 : decode cL_law 698 = .ok (.iconst 0, 1) := by decide +kernel
theorem dL_law_699 : decode cL_law 699 = .ok (.ireturn, 1) := by decide +kernel
theorem dL_law_700 : decode cL_law 700 = .ok (.aload_n 1, 1) := by decide +kernel
theorem dL_law_701 : decode cL_law 701 = .ok (.invokevirtual 112, 3) := by decide +kernel
theorem dL_law_704 : decode cL_law 704 = .ok (.aload_n 2, 1) := by decide +kernel
theorem dL_law_705 : decode cL_law 705 = .ok (.invokevirtual 115, 3) := by decide +kernel
theorem dL_law_708 : decode cL_law 708 = .ok (.if_icmp .eq 5, 3) := by decide +kernel
theorem dL_law_711 : decode cL_law 711 = .ok (.iconst 0, 1) := by decide +kernel
theorem dL_law_712 : decode cL_law 712 = .ok (.ireturn, 1) := by decide +kernel
theorem dL_law_713 : decode cL_law 713 = .ok (.iinc 3 3, 3) := by decide +kernel
theorem dL_law_716 : decode cL_law 716 = .ok (.goto (-698), 3) := by decide +kernel
theorem dL_law_719 : decode cL_law 719 = .ok (.iconst 1, 1) := by decide +kernel
theorem dL_law_720 : decode cL_law 720 = .ok (.ireturn, 1) := by decide +kernel
