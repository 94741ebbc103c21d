theorem d_BlockCode_isBlockAlike_57 : decode b_BlockCode_isBlockAlike 57 = .ok (.aload_n 0, 1) := by decide +kernel
theorem d_BlockCode_isBlockAlike_58 : decode b_BlockCode_isBlockAlike 58 = .ok (.getfield 16, 3) := by decide +kernel
theorem d_BlockCode_isBlockAlike_61 : decode b_BlockCode_isBlockAlike 61 = .ok (.iload_n 1, 1) := by decide +kernel
theorem d_BlockCode_isBlockAlike_62 : decode b_BlockCode_isBlockAlike 62 = .ok (.iload_n 2, 1) := by decide +kernel
theorem d_BlockCode_isBlockAlike_63 : decode b_BlockCode_isBlockAlike 63 = .ok (.invokevirtual 238, 3) := by decide +kernel
theorem d_BlockCode_isBlockAlike_66 : decode b_BlockCode_isBlockAlike 66 = .ok (.aload_n 0, 1) := by decide +kernel
theorem d_BlockCode_isBlockAlike_67 : decode b_BlockCode_isBlockAlike 67 = .ok (.getfield 38, 3) := by decide +kernel
theorem d_BlockCode_isBlockAlike_70 : decode b_BlockCode_isBlockAlike 70 = .ok (.aload_n 0, 1) := by decide +kernel
theorem d_BlockCode_isBlockAlike_71 : decode b_BlockCode_isBlockAlike 71 = .ok (.getfield 42, 3) := by decide +kernel
theorem d_BlockCode_isBlockAlike_74 : decode b_BlockCode_isBlockAlike 74 = .ok (.invokevirtual 242, 3) := by decide +kernel
theorem d_BlockCode_isBlockAlike_77 : decode b_BlockCode_isBlockAlike 77 = .ok (.ifCond .eq 46, 3) := by decide +kernel
theorem d_BlockCode_isBlockAlike_80 : decode b_BlockCode_isBlockAlike 80 = .ok (.aload_n 0, 1) := by decide +kernel
theorem d_BlockCode_isBlockAlike_81 : decode b_BlockCode_isBlockAlike 81 = .ok (.getfield 38, 3) := by decide +kernel
theorem d_BlockCode_isBlockAlike_84 : decode b_BlockCode_isBlockAlike 84 = .ok (.aload_n 0, 1) := by decide +kernel
theorem d_BlockCode_isBlockAlike_85 : decode b_BlockCode_isBlockAlike 85 = .ok (.getfield 42, 3) := by decide +kernel
theorem d_BlockCode_isBlockAlike_88 : decode b_BlockCode_isBlockAlike 88 = .ok (.invokevirtual 246, 3) := by decide +kernel
theorem d_BlockCode_isBlockAlike_91 : decode b_BlockCode_isBlockAlike 91 = .ok (.ifCond .eq 32, 3) := by decide +kernel
theorem d_BlockCode_isBlockAlike_94 : decode b_BlockCode_isBlockAlike 94 = .ok (.aload_n 0, 1) := by decide +kernel
theorem d_BlockCode_isBlockAlike_95 : decode b_BlockCode_isBlockAlike 95 = .ok (.getfield 38, 3) := by decide +kernel
theorem d_BlockCode_isBlockAlike_98 : decode b_BlockCode_isBlockAlike 98 = .ok (.aload_n 0, 1) := by decide +kernel
theorem d_BlockCode_isBlockAlike_99 : decode b_BlockCode_isBlockAlike 99 = .ok (.getfield 42, 3) := by decide +kernel
theorem d_BlockCode_isBlockAlike_102 : decode b_BlockCode_isBlockAlike 102 = .ok (.aload_n 0, 1) := by decide +kernel
theorem d_BlockCode_isBlockAlike_103 : decode b_BlockCode_isBlockAlike 103 = .ok (.getfield 42, 3) := by decide +kernel
theorem d_BlockCode_isBlockAlike_106 : decode b_BlockCode_isBlockAlike 106 = .ok (.aload_n 0, 1) := by decide +kernel
theorem d_BlockCode_isBlockAlike_107 : decode b_BlockCode_isBlockAlike 107 = .ok (.getfield 16, 3) := by decide +kernel
theorem d_BlockCode_isBlockAlike_110 : decode b_BlockCode_isBlockAlike 110 = .ok (.invokevirtual 249, 3) := by decide +kernel
theorem d_BlockCode_isBlockAlike_113 : decode b_BlockCode_isBlockAlike 113 = .ok (.invokevirtual 252, 3) := by decide +kernel
theorem d_BlockCode_isBlockAlike_116 : decode b_BlockCode_isBlockAlike 116 = .ok (.ifCond .eq 7, 3) := by decide +kernel
theorem d_BlockCode_isBlockAlike_119 : decode b_BlockCode_isBlockAlike 119 = .ok (.iconst 1, 1) := by decide +kernel
theorem d_BlockCode_isBlockAlike_120 : decode b_BlockCode_isBlockAlike 120 = .ok (.goto 4, 3) := by decide +kernel
theorem d_BlockCode_isBlockAlike_123 : decode b_BlockCode_isBlockAlike 123 = .ok (.iconst 0, 1) := by decide +kernel
theorem d_BlockCode_isBlockAlike_124 : decode b_BlockCode_isBlockAlike 124 = .ok (.ireturn, 1) := by decide +kernel
theorem d_BlockCode_compare_0 : decode b_BlockCode_compare 0 = .ok (.aload_n 0, 1) := by decide +kernel
theorem d_BlockCode_compare_1 : decode b_BlockCode_compare 1 = .ok (.invokevirtual 119, 3) := by decide +kernel
theorem d_BlockCode_compare_4 : decode b_BlockCode_compare 4 = .ok (.aload_n 0, 1) := by decide +kernel
theorem d_BlockCode_compare_5 : decode b_BlockCode_compare 5 = .ok (.getfield 16, 3) := by decide +kernel
theorem d_BlockCode_compare_8 : decode b_BlockCode_compare 8 = .ok (.invokevirtual 167, 3) := by decide +kernel
theorem d_BlockCode_compare_11 : decode b_BlockCode_compare 11 = .ok (.iconst 0, 1) := by decide +kernel
theorem d_BlockCode_compare_12 : decode b_BlockCode_compare 12 = .ok (.istore_n 1, 1) := by decide +kernel
theorem d_BlockCode_compare_13 : decode b_BlockCode_compare 13 = .ok (.iload_n 1, 1) := by decide +kernel
theorem d_BlockCode_compare_14 : decode b_BlockCode_compare 14 = .ok (.aload_n 0, 1) := by decide +kernel
theorem d_BlockCode_compare_15 : decode b_BlockCode_compare 15 = .ok (.getfield 10, 3) := by decide +kernel
theorem d_BlockCode_compare_18 : decode b_BlockCode_compare 18 = .ok (.getfield 70, 3) := by decide +kernel
theorem d_BlockCode_compare_21 : decode b_BlockCode_compare 21 = .ok (.if_icmp .ge 43, 3) := by decide +kernel
theorem d_BlockCode_compare_24 : decode b_BlockCode_compare 24 = .ok (.aload_n 0, 1) := by decide +kernel
theorem d_BlockCode_compare_25 : decode b_BlockCode_compare 25 = .ok (.getfield 10, 3) := by decide +kernel
theorem d_BlockCode_compare_28 : decode b_BlockCode_compare 28 = .ok (.iload_n 1, 1) := by decide +kernel
theorem d_BlockCode_compare_29 : decode b_BlockCode_compare 29 = .ok (.invokevirtual 133, 3) := by decide +kernel
theorem d_BlockCode_compare_32 : decode b_BlockCode_compare 32 = .ok (.ifCond .eq 26, 3) := by decide +kernel
theorem d_BlockCode_compare_35 : decode b_BlockCode_compare 35 = .ok (.aload_n 0, 1) := by decide +kernel
theorem d_BlockCode_compare_36 : decode b_BlockCode_compare 36 = .ok (.getfield 22, 3) := by decide +kernel
theorem d_BlockCode_compare_39 : decode b_BlockCode_compare 39 = .ok (.iload_n 1, 1) := by decide +kernel
theorem d_BlockCode_compare_40 : decode b_BlockCode_compare 40 = .ok (.invokevirtual 122, 3) := by decide +kernel
theorem d_BlockCode_compare_43 : decode b_BlockCode_compare 43 = .ok (.ifCond .eq 15, 3) := by decide +kernel
theorem d_BlockCode_compare_46 : decode b_BlockCode_compare 46 = .ok (.aload_n 0, 1) := by decide +kernel
theorem d_BlockCode_compare_47 : decode b_BlockCode_compare 47 = .ok (.iload_n 1, 1) := by decide +kernel
theorem d_BlockCode_compare_48 : decode b_BlockCode_compare 48 = .ok (.invokevirtual 170, 3) := by decide +kernel
theorem d_BlockCode_compare_51 : decode b_BlockCode_compare 51 = .ok (.ifCond .ne 7, 3) := by decide +kernel
theorem d_BlockCode_compare_54 : decode b_BlockCode_compare 54 = .ok (.iconst 1, 1) := by decide +kernel
theorem d_BlockCode_compare_55 : decode b_BlockCode_compare 55 = .ok (.iload_n 1, 1) := by decide +kernel
theorem d_BlockCode_compare_56 : decode b_BlockCode_compare 56 = .ok (.iadd, 1) := by decide +kernel
theorem d_BlockCode_compare_57 : decode b_BlockCode_compare 57 = .ok (.ireturn, 1) := by decide +kernel
theorem d_BlockCode_compare_58 : decode b_BlockCode_compare 58 = .ok (.iinc 1 1, 3) := by decide +kernel
theorem d_BlockCode_compare_61 : decode b_BlockCode_compare 61 = .ok (.goto (-48), 3) := by decide +kernel
theorem d_BlockCode_compare_64 : decode b_BlockCode_compare 64 = .ok (.aload_n 0, 1) := by decide +kernel
theorem d_BlockCode_compare_65 : decode b_BlockCode_compare 65 = .ok (.iconst 1, 1) := by decide +kernel
theorem d_BlockCode_compare_66 : decode b_BlockCode_compare 66 = .ok (.putfield 56, 3) := by decide +kernel
theorem d_BlockCode_compare_69 : decode b_BlockCode_compare 69 = .ok (.iconst 0, 1) := by decide +kernel
theorem d_BlockCode_compare_70 : decode b_BlockCode_compare 70 = .ok (.ireturn, 1) := by decide +kernel
theorem d_BlockCode_commit_0 : decode b_BlockCode_commit 0 = .ok (.aload_n 0, 1) := by decide +kernel
theorem d_BlockCode_commit_1 : decode b_BlockCode_commit 1 = .ok (.getfield 52, 3) := by decide +kernel
theorem d_BlockCode_commit_4 : decode b_BlockCode_commit 4 = .ok (.ifCond .eq 20, 3) := by decide +kernel
theorem d_BlockCode_commit_7 : decode b_BlockCode_commit 7 = .ok (.aload_n 0, 1) := by decide +kernel
theorem d_BlockCode_commit_8 : decode b_BlockCode_commit 8 = .ok (.getfield 56, 3) := by decide +kernel
theorem d_BlockCode_commit_11 : decode b_BlockCode_commit 11 = .ok (.ifCond .eq 13, 3) := by decide +kernel
theorem d_BlockCode_commit_14 : decode b_BlockCode_commit 14 = .ok (.aload_n 0, 1) := by decide +kernel
theorem d_BlockCode_commit_15 : decode b_BlockCode_commit 15 = .ok (.getfield 16, 3) := by decide +kernel
theorem d_BlockCode_commit_18 : decode b_BlockCode_commit 18 = .ok (.invokevirtual 173, 3) := by decide +kernel
theorem d_BlockCode_commit_21 : decode b_BlockCode_commit 21 = .ok (.ifCond .ne 5, 3) := by decide +kernel
theorem d_BlockCode_commit_24 : decode b_BlockCode_commit 24 = .ok (.iconst 0, 1) := by decide +kernel
theorem d_BlockCode_commit_25 : decode b_BlockCode_commit 25 = .ok (.ireturn, 1) := by decide +kernel
theorem d_BlockCode_commit_26 : decode b_BlockCode_commit 26 = .ok (.aload_n 0, 1) := by decide +kernel
theorem d_BlockCode_commit_27 : decode b_BlockCode_commit 27 = .ok (.getfield 10, 3) := by decide +kernel
theorem d_BlockCode_commit_30 : decode b_BlockCode_commit 30 = .ok (.aload_n 0, 1) := by decide +kernel
theorem d_BlockCode_commit_31 : decode b_BlockCode_commit 31 = .ok (.getfield 16, 3) := by decide +kernel
theorem d_BlockCode_commit_34 : decode b_BlockCode_commit 34 = .ok (.invokevirtual 176, 3) := by decide +kernel
theorem d_BlockCode_commit_37 : decode b_BlockCode_commit 37 = .ok (.aload_n 0, 1) := by decide +kernel
theorem d_BlockCode_commit_38 : decode b_BlockCode_commit 38 = .ok (.invokevirtual 84, 3) := by decide +kernel
theorem d_BlockCode_commit_41 : decode b_BlockCode_commit 41 = .ok (.aload_n 0, 1) := by decide +kernel
theorem d_BlockCode_commit_42 : decode b_BlockCode_commit 42 = .ok (.iconst 0, 1) := by decide +kernel
theorem d_BlockCode_commit_43 : decode b_BlockCode_commit 43 = .ok (.putfield 56, 3) := by decide +kernel
theorem d_BlockCode_commit_46 : decode b_BlockCode_commit 46 = .ok (.iconst 1, 1) := by decide +kernel
theorem d_BlockCode_commit_47 : decode b_BlockCode_commit 47 = .ok (.ireturn, 1) := by decide +kernel
theorem d_BlockCode_input_0 : decode b_BlockCode_input 0 = .ok (.iload_n 1, 1) := by decide +kernel
theorem d_BlockCode_input_1 : decode b_BlockCode_input 1 = .ok (.invokestatic 107, 3) := by decide +kernel
theorem d_BlockCode_input_4 : decode b_BlockCode_input 4 = .ok (.ifCond .ne 5, 3) := by decide +kernel
theorem d_BlockCode_input_7 : decode b_BlockCode_input 7 = .ok (.iconst 0, 1) := by decide +kernel
theorem d_BlockCode_input_8 : decode b_BlockCode_input 8 = .ok (.ireturn, 1) := by decide +kernel
theorem d_BlockCode_input_9 : decode b_BlockCode_input 9 = .ok (.aload_n 0, 1) := by decide +kernel
theorem d_BlockCode_input_10 : decode b_BlockCode_input 10 = .ok (.getfield 48, 3) := by decide +kernel
theorem d_BlockCode_input_13 : decode b_BlockCode_input 13 = .ok (.getfield 180, 3) := by decide +kernel
theorem d_BlockCode_input_16 : decode b_BlockCode_input 16 = .ok (.iload_n 1, 1) := by decide +kernel
theorem d_BlockCode_input_17 : decode b_BlockCode_input 17 = .ok (.iload_n 2, 1) := by decide +kernel
theorem d_BlockCode_input_18 : decode b_BlockCode_input 18 = .ok (.iastore, 1) := by decide +kernel
theorem d_BlockCode_input_19 : decode b_BlockCode_input 19 = .ok (.iconst 1, 1) := by decide +kernel
theorem d_BlockCode_input_20 : decode b_BlockCode_input 20 = .ok (.ireturn, 1) := by decide +kernel
theorem d_Machine_begin_0 : decode b_Machine_begin 0 = .ok (.aload_n 0, 1) := by decide +kernel
theorem d_Machine_begin_1 : decode b_Machine_begin 1 = .ok (.iconst 0, 1) := by decide +kernel
theorem d_Machine_begin_2 : decode b_Machine_begin 2 = .ok (.putfield 37, 3) := by decide +kernel
theorem d_Machine_begin_5 : decode b_Machine_begin 5 = .ok (.aload_n 0, 1) := by decide +kernel
theorem d_Machine_begin_6 : decode b_Machine_begin 6 = .ok (.iconst 0, 1) := by decide +kernel
theorem d_Machine_begin_7 : decode b_Machine_begin 7 = .ok (.putfield 27, 3) := by decide +kernel
theorem d_Machine_begin_10 : decode b_Machine_begin 10 = .ok (.iconst 0, 1) := by decide +kernel
theorem d_Machine_begin_11 : decode b_Machine_begin 11 = .ok (.istore_n 1, 1) := by decide +kernel
theorem d_Machine_begin_12 : decode b_Machine_begin 12 = .ok (.iload_n 1, 1) := by decide +kernel
theorem d_Machine_begin_13 : decode b_Machine_begin 13 = .ok (.iconst 5, 1) := by decide +kernel
theorem d_Machine_begin_14 : decode b_Machine_begin 14 = .ok (.if_icmp .ge 21, 3) := by decide +kernel
theorem d_Machine_begin_17 : decode b_Machine_begin 17 = .ok (.aload_n 0, 1) := by decide +kernel
theorem d_Machine_begin_18 : decode b_Machine_begin 18 = .ok (.getfield 15, 3) := by decide +kernel
theorem d_Machine_begin_21 : decode b_Machine_begin 21 = .ok (.iload_n 1, 1) := by decide +kernel
theorem d_Machine_begin_22 : decode b_Machine_begin 22 = .ok (.aload_n 0, 1) := by decide +kernel
theorem d_Machine_begin_23 : decode b_Machine_begin 23 = .ok (.getfield 9, 3) := by decide +kernel
theorem d_Machine_begin_26 : decode b_Machine_begin 26 = .ok (.iload_n 1, 1) := by decide +kernel
theorem d_Machine_begin_27 : decode b_Machine_begin 27 = .ok (.iaload, 1) := by decide +kernel
theorem d_Machine_begin_28 : decode b_Machine_begin 28 = .ok (.iastore, 1) := by decide +kernel
theorem d_Machine_begin_29 : decode b_Machine_begin 29 = .ok (.iinc 1 1, 3) := by decide +kernel
theorem d_Machine_begin_32 : decode b_Machine_begin 32 = .ok (.goto (-20), 3) := by decide +kernel
theorem d_Machine_begin_35 : decode b_Machine_begin 35 = .ok (.return_, 1) := by decide +kernel
theorem d_Machine_breaksOff_0 : decode b_Machine_breaksOff 0 = .ok (.aload_n 1, 1) := by decide +kernel
theorem d_Machine_breaksOff_1 : decode b_Machine_breaksOff 1 = .ok (.getfield 31, 3) := by decide +kernel
theorem d_Machine_breaksOff_4 : decode b_Machine_breaksOff 4 = .ok (.iload_n 2, 1) := by decide +kernel
theorem d_Machine_breaksOff_5 : decode b_Machine_breaksOff 5 = .ok (.iaload, 1) := by decide +kernel
theorem d_Machine_breaksOff_6 : decode b_Machine_breaksOff 6 = .ok (.bipush 6, 2) := by decide +kernel
theorem d_Machine_breaksOff_8 : decode b_Machine_breaksOff 8 = .ok (.if_icmp .ne 21, 3) := by decide +kernel
theorem d_Machine_breaksOff_11 : decode b_Machine_breaksOff 11 = .ok (.aload_n 0, 1) := by decide +kernel
theorem d_Machine_breaksOff_12 : decode b_Machine_breaksOff 12 = .ok (.getfield 15, 3) := by decide +kernel
theorem d_Machine_breaksOff_15 : decode b_Machine_breaksOff 15 = .ok (.aload_n 1, 1) := by decide +kernel
theorem d_Machine_breaksOff_16 : decode b_Machine_breaksOff 16 = .ok (.getfield 52, 3) := by decide +kernel
theorem d_Machine_breaksOff_19 : decode b_Machine_breaksOff 19 = .ok (.iload_n 2, 1) := by decide +kernel
theorem d_Machine_breaksOff_20 : decode b_Machine_breaksOff 20 = .ok (.iaload, 1) := by decide +kernel
theorem d_Machine_breaksOff_21 : decode b_Machine_breaksOff 21 = .ok (.iaload, 1) := by decide +kernel
theorem d_Machine_breaksOff_22 : decode b_Machine_breaksOff 22 = .ok (.ifCond .ne 7, 3) := by decide +kernel
theorem d_Machine_breaksOff_25 : decode b_Machine_breaksOff 25 = .ok (.iconst 1, 1) := by decide +kernel
theorem d_Machine_breaksOff_26 : decode b_Machine_breaksOff 26 = .ok (.goto 4, 3) := by decide +kernel
theorem d_Machine_breaksOff_29 : decode b_Machine_breaksOff 29 = .ok (.iconst 0, 1) := by decide +kernel
theorem d_Machine_breaksOff_30 : decode b_Machine_breaksOff 30 = .ok (.ireturn, 1) := by decide +kernel
theorem d_Machine_perform_0 : decode b_Machine_perform 0 = .ok (.aload_n 1, 1) := by decide +kernel
theorem d_Machine_perform_1 : decode b_Machine_perform 1 = .ok (.getfield 31, 3) := by decide +kernel
theorem d_Machine_perform_4 : decode b_Machine_perform 4 = .ok (.iload_n 2, 1) := by decide +kernel
theorem d_Machine_perform_5 : decode b_Machine_perform 5 = .ok (.iaload, 1) := by decide +kernel
theorem d_Machine_perform_6 : decode b_Machine_perform 6 = .ok (.istore_n 3, 1) := by decide +kernel
theorem d_Machine_perform_7 : decode b_Machine_perform 7 = .ok (.iload_n 3, 1) := by decide +kernel
theorem d_Machine_perform_8 : decode b_Machine_perform 8 = .ok (.iconst 1, 1) := by decide +kernel
theorem d_Machine_perform_9 : decode b_Machine_perform 9 = .ok (.if_icmp .ne 23, 3) := by decide +kernel
theorem d_Machine_perform_12 : decode b_Machine_perform 12 = .ok (.aload_n 0, 1) := by decide +kernel
theorem d_Machine_perform_13 : decode b_Machine_perform 13 = .ok (.getfield 15, 3) := by decide +kernel
theorem d_Machine_perform_16 : decode b_Machine_perform 16 = .ok (.aload_n 1, 1) := by decide +kernel
theorem d_Machine_perform_17 : decode b_Machine_perform 17 = .ok (.getfield 55, 3) := by decide +kernel
theorem d_Machine_perform_20 : decode b_Machine_perform 20 = .ok (.iload_n 2, 1) := by decide +kernel
theorem d_Machine_perform_21 : decode b_Machine_perform 21 = .ok (.iaload, 1) := by decide +kernel
theorem d_Machine_perform_22 : decode b_Machine_perform 22 = .ok (.aload_n 1, 1) := by decide +kernel
theorem d_Machine_perform_23 : decode b_Machine_perform 23 = .ok (.getfield 34, 3) := by decide +kernel
theorem d_Machine_perform_26 : decode b_Machine_perform 26 = .ok (.iload_n 2, 1) := by decide +kernel
theorem d_Machine_perform_27 : decode b_Machine_perform 27 = .ok (.iaload, 1) := by decide +kernel
theorem d_Machine_perform_28 : decode b_Machine_perform 28 = .ok (.iastore, 1) := by decide +kernel
theorem d_Machine_perform_29 : decode b_Machine_perform 29 = .ok (.goto 85, 3) := by decide +kernel
theorem d_Machine_perform_32 : decode b_Machine_perform 32 = .ok (.iload_n 3, 1) := by decide +kernel
theorem d_Machine_perform_33 : decode b_Machine_perform 33 = .ok (.iconst 2, 1) := by decide +kernel
theorem d_Machine_perform_34 : decode b_Machine_perform 34 = .ok (.if_icmp .ne 28, 3) := by decide +kernel
theorem d_Machine_perform_37 : decode b_Machine_perform 37 = .ok (.aload_n 0, 1) := by decide +kernel
theorem d_Machine_perform_38 : decode b_Machine_perform 38 = .ok (.getfield 15, 3) := by decide +kernel
theorem d_Machine_perform_41 : decode b_Machine_perform 41 = .ok (.aload_n 1, 1) := by decide +kernel
theorem d_Machine_perform_42 : decode b_Machine_perform 42 = .ok (.getfield 55, 3) := by decide +kernel
theorem d_Machine_perform_45 : decode b_Machine_perform 45 = .ok (.iload_n 2, 1) := by decide +kernel
theorem d_Machine_perform_46 : decode b_Machine_perform 46 = .ok (.iaload, 1) := by decide +kernel
theorem d_Machine_perform_47 : decode b_Machine_perform 47 = .ok (.aload_n 0, 1) := by decide +kernel
theorem d_Machine_perform_48 : decode b_Machine_perform 48 = .ok (.getfield 15, 3) := by decide +kernel
theorem d_Machine_perform_51 : decode b_Machine_perform 51 = .ok (.aload_n 1, 1) := by decide +kernel
theorem d_Machine_perform_52 : decode b_Machine_perform 52 = .ok (.getfield 34, 3) := by decide +kernel
theorem d_Machine_perform_55 : decode b_Machine_perform 55 = .ok (.iload_n 2, 1) := by decide +kernel
theorem d_Machine_perform_56 : decode b_Machine_perform 56 = .ok (.iaload, 1) := by decide +kernel
theorem d_Machine_perform_57 : decode b_Machine_perform 57 = .ok (.iaload, 1) := by decide +kernel
theorem d_Machine_perform_58 : decode b_Machine_perform 58 = .ok (.iastore, 1) := by decide +kernel
theorem d_Machine_perform_59 : decode b_Machine_perform 59 = .ok (.goto 55, 3) := by decide +kernel
theorem d_Machine_perform_62 : decode b_Machine_perform 62 = .ok (.iload_n 3, 1) := by decide +kernel
theorem d_Machine_perform_63 : decode b_Machine_perform 63 = .ok (.invokestatic 58, 3) := by decide +kernel
theorem d_Machine_perform_66 : decode b_Machine_perform 66 = .ok (.ifCond .eq 48, 3) := by decide +kernel
theorem d_Machine_perform_69 : decode b_Machine_perform 69 = .ok (.aload_n 0, 1) := by decide +kernel
theorem d_Machine_perform_70 : decode b_Machine_perform 70 = .ok (.getfield 15, 3) := by decide +kernel
theorem d_Machine_perform_73 : decode b_Machine_perform 73 = .ok (.aload_n 1, 1) := by decide +kernel
theorem d_Machine_perform_74 : decode b_Machine_perform 74 = .ok (.getfield 34, 3) := by decide +kernel
theorem d_Machine_perform_77 : decode b_Machine_perform 77 = .ok (.iload_n 2, 1) := by decide +kernel
theorem d_Machine_perform_78 : decode b_Machine_perform 78 = .ok (.iaload, 1) := by decide +kernel
theorem d_Machine_perform_79 : decode b_Machine_perform 79 = .ok (.iaload, 1) := by decide +kernel
theorem d_Machine_perform_80 : decode b_Machine_perform 80 = .ok (.istore 4, 2) := by decide +kernel
theorem d_Machine_perform_82 : decode b_Machine_perform 82 = .ok (.aload_n 0, 1) := by decide +kernel
theorem d_Machine_perform_83 : decode b_Machine_perform 83 = .ok (.getfield 15, 3) := by decide +kernel
theorem d_Machine_perform_86 : decode b_Machine_perform 86 = .ok (.aload_n 1, 1) := by decide +kernel
theorem d_Machine_perform_87 : decode b_Machine_perform 87 = .ok (.getfield 52, 3) := by decide +kernel
theorem d_Machine_perform_90 : decode b_Machine_perform 90 = .ok (.iload_n 2, 1) := by decide +kernel
theorem d_Machine_perform_91 : decode b_Machine_perform 91 = .ok (.iaload, 1) := by decide +kernel
theorem d_Machine_perform_92 : decode b_Machine_perform 92 = .ok (.iaload, 1) := by decide +kernel
theorem d_Machine_perform_93 : decode b_Machine_perform 93 = .ok (.istore 5, 2) := by decide +kernel
theorem d_Machine_perform_95 : decode b_Machine_perform 95 = .ok (.aload_n 0, 1) := by decide +kernel
theorem d_Machine_perform_96 : decode b_Machine_perform 96 = .ok (.getfield 15, 3) := by decide +kernel
theorem d_Machine_perform_99 : decode b_Machine_perform 99 = .ok (.aload_n 1, 1) := by decide +kernel
theorem d_Machine_perform_100 : decode b_Machine_perform 100 = .ok (.getfield 55, 3) := by decide +kernel
theorem d_Machine_perform_103 : decode b_Machine_perform 103 = .ok (.iload_n 2, 1) := by decide +kernel
theorem d_Machine_perform_104 : decode b_Machine_perform 104 = .ok (.iaload, 1) := by decide +kernel
theorem d_Machine_perform_105 : decode b_Machine_perform 105 = .ok (.iload_n 3, 1) := by decide +kernel
theorem d_Machine_perform_106 : decode b_Machine_perform 106 = .ok (.iload 4, 2) := by decide +kernel
theorem d_Machine_perform_108 : decode b_Machine_perform 108 = .ok (.iload 5, 2) := by decide +kernel
theorem d_Machine_perform_110 : decode b_Machine_perform 110 = .ok (.invokestatic 61, 3) := by decide +kernel
theorem d_Machine_perform_113 : decode b_Machine_perform 113 = .ok (.iastore, 1) := by decide +kernel
theorem d_Machine_perform_114 : decode b_Machine_perform 114 = .ok (.return_, 1) := by decide +kernel
theorem d_Machine_placeAfter_0 : decode b_Machine_placeAfter 0 = .ok (.aload_n 1, 1) := by decide +kernel
theorem d_Machine_placeAfter_1 : decode b_Machine_placeAfter 1 = .ok (.getfield 31, 3) := by decide +kernel
theorem d_Machine_placeAfter_4 : decode b_Machine_placeAfter 4 = .ok (.iload_n 2, 1) := by decide +kernel
theorem d_Machine_placeAfter_5 : decode b_Machine_placeAfter 5 = .ok (.iaload, 1) := by decide +kernel
theorem d_Machine_placeAfter_6 : decode b_Machine_placeAfter 6 = .ok (.istore_n 3, 1) := by decide +kernel
theorem d_Machine_placeAfter_7 : decode b_Machine_placeAfter 7 = .ok (.iload_n 3, 1) := by decide +kernel
theorem d_Machine_placeAfter_8 : decode b_Machine_placeAfter 8 = .ok (.bipush 8, 2) := by decide +kernel
theorem d_Machine_placeAfter_10 : decode b_Machine_placeAfter 10 = .ok (.if_icmp .ne 10, 3) := by decide +kernel
theorem d_Machine_placeAfter_13 : decode b_Machine_placeAfter 13 = .ok (.aload_n 1, 1) := by decide +kernel
theorem d_Machine_placeAfter_14 : decode b_Machine_placeAfter 14 = .ok (.getfield 34, 3) := by decide +kernel
theorem d_Machine_placeAfter_17 : decode b_Machine_placeAfter 17 = .ok (.iload_n 2, 1) := by decide +kernel
theorem d_Machine_placeAfter_18 : decode b_Machine_placeAfter 18 = .ok (.iaload, 1) := by decide +kernel
theorem d_Machine_placeAfter_19 : decode b_Machine_placeAfter 19 = .ok (.ireturn, 1) := by decide +kernel
theorem d_Machine_placeAfter_20 : decode b_Machine_placeAfter 20 = .ok (.iload_n 3, 1) := by decide +kernel
theorem d_Machine_placeAfter_21 : decode b_Machine_placeAfter 21 = .ok (.bipush 9, 2) := by decide +kernel
theorem d_Machine_placeAfter_23 : decode b_Machine_placeAfter 23 = .ok (.if_icmp .ne 24, 3) := by decide +kernel
theorem d_Machine_placeAfter_26 : decode b_Machine_placeAfter 26 = .ok (.aload_n 0, 1) := by decide +kernel
theorem d_Machine_placeAfter_27 : decode b_Machine_placeAfter 27 = .ok (.getfield 15, 3) := by decide +kernel
theorem d_Machine_placeAfter_30 : decode b_Machine_placeAfter 30 = .ok (.aload_n 1, 1) := by decide +kernel
theorem d_Machine_placeAfter_31 : decode b_Machine_placeAfter 31 = .ok (.getfield 34, 3) := by decide +kernel
theorem d_Machine_placeAfter_34 : decode b_Machine_placeAfter 34 = .ok (.iload_n 2, 1) := by decide +kernel
theorem d_Machine_placeAfter_35 : decode b_Machine_placeAfter 35 = .ok (.iaload, 1) := by decide +kernel
theorem d_Machine_placeAfter_36 : decode b_Machine_placeAfter 36 = .ok (.iaload, 1) := by decide +kernel
theorem d_Machine_placeAfter_37 : decode b_Machine_placeAfter 37 = .ok (.ifCond .eq 10, 3) := by decide +kernel
theorem d_Machine_placeAfter_40 : decode b_Machine_placeAfter 40 = .ok (.aload_n 1, 1) := by decide +kernel
theorem d_Machine_placeAfter_41 : decode b_Machine_placeAfter 41 = .ok (.getfield 52, 3) := by decide +kernel
theorem d_Machine_placeAfter_44 : decode b_Machine_placeAfter 44 = .ok (.iload_n 2, 1) := by decide +kernel
theorem d_Machine_placeAfter_45 : decode b_Machine_placeAfter 45 = .ok (.iaload, 1) := by decide +kernel
theorem d_Machine_placeAfter_46 : decode b_Machine_placeAfter 46 = .ok (.ireturn, 1) := by decide +kernel
theorem d_Machine_placeAfter_47 : decode b_Machine_placeAfter 47 = .ok (.iload_n 2, 1) := by decide +kernel
theorem d_Machine_placeAfter_48 : decode b_Machine_placeAfter 48 = .ok (.iconst 1, 1) := by decide +kernel
theorem d_Machine_placeAfter_49 : decode b_Machine_placeAfter 49 = .ok (.iadd, 1) := by decide +kernel
theorem d_Machine_placeAfter_50 : decode b_Machine_placeAfter 50 = .ok (.ireturn, 1) := by decide +kernel
theorem d_Machine_run_0 : decode b_Machine_run 0 = .ok (.aload_n 0, 1) := by decide +kernel
theorem d_Machine_run_1 : decode b_Machine_run 1 = .ok (.invokevirtual 18, 3) := by decide +kernel
theorem d_Machine_run_4 : decode b_Machine_run 4 = .ok (.iconst 0, 1) := by decide +kernel
theorem d_Machine_run_5 : decode b_Machine_run 5 = .ok (.istore_n 3, 1) := by decide +kernel
theorem d_Machine_run_6 : decode b_Machine_run 6 = .ok (.iconst 1, 1) := by decide +kernel
theorem d_Machine_run_7 : decode b_Machine_run 7 = .ok (.istore 4, 2) := by decide +kernel
theorem d_Machine_run_9 : decode b_Machine_run 9 = .ok (.iload 4, 2) := by decide +kernel
theorem d_Machine_run_11 : decode b_Machine_run 11 = .ok (.iload_n 2, 1) := by decide +kernel
theorem d_Machine_run_12 : decode b_Machine_run 12 = .ok (.if_icmp .gt 72, 3) := by decide +kernel
theorem d_Machine_run_15 : decode b_Machine_run 15 = .ok (.aload_n 1, 1) := by decide +kernel
theorem d_Machine_run_16 : decode b_Machine_run 16 = .ok (.iload_n 3, 1) := by decide +kernel
theorem d_Machine_run_17 : decode b_Machine_run 17 = .ok (.invokevirtual 21, 3) := by decide +kernel
theorem d_Machine_run_20 : decode b_Machine_run 20 = .ok (.ifCond .ne 5, 3) := by decide +kernel
theorem d_Machine_run_23 : decode b_Machine_run 23 = .ok (.iconst 1, 1) := by decide +kernel
theorem d_Machine_run_24 : decode b_Machine_run 24 = .ok (.ireturn, 1) := by decide +kernel
theorem d_Machine_run_25 : decode b_Machine_run 25 = .ok (.aload_n 0, 1) := by decide +kernel
theorem d_Machine_run_26 : decode b_Machine_run 26 = .ok (.iload 4, 2) := by decide +kernel
theorem d_Machine_run_28 : decode b_Machine_run 28 = .ok (.putfield 27, 3) := by decide +kernel
theorem d_Machine_run_31 : decode b_Machine_run 31 = .ok (.aload_n 1, 1) := by decide +kernel
theorem d_Machine_run_32 : decode b_Machine_run 32 = .ok (.getfield 31, 3) := by decide +kernel
theorem d_Machine_run_35 : decode b_Machine_run 35 = .ok (.iload_n 3, 1) := by decide +kernel
theorem d_Machine_run_36 : decode b_Machine_run 36 = .ok (.iaload, 1) := by decide +kernel
theorem d_Machine_run_37 : decode b_Machine_run 37 = .ok (.bipush 10, 2) := by decide +kernel
theorem d_Machine_run_39 : decode b_Machine_run 39 = .ok (.if_icmp .ne 15, 3) := by decide +kernel
theorem d_Machine_run_42 : decode b_Machine_run 42 = .ok (.aload_n 0, 1) := by decide +kernel
theorem d_Machine_run_43 : decode b_Machine_run 43 = .ok (.aload_n 1, 1) := by decide +kernel
theorem d_Machine_run_44 : decode b_Machine_run 44 = .ok (.getfield 34, 3) := by decide +kernel
theorem d_Machine_run_47 : decode b_Machine_run 47 = .ok (.iload_n 3, 1) := by decide +kernel
theorem d_Machine_run_48 : decode b_Machine_run 48 = .ok (.iaload, 1) := by decide +kernel
theorem d_Machine_run_49 : decode b_Machine_run 49 = .ok (.putfield 37, 3) := by decide +kernel
theorem d_Machine_run_52 : decode b_Machine_run 52 = .ok (.iconst 0, 1) := by decide +kernel
theorem d_Machine_run_53 : decode b_Machine_run 53 = .ok (.ireturn, 1) := by decide +kernel
theorem d_Machine_run_54 : decode b_Machine_run 54 = .ok (.aload_n 0, 1) := by decide +kernel
theorem d_Machine_run_55 : decode b_Machine_run 55 = .ok (.aload_n 1, 1) := by decide +kernel
theorem d_Machine_run_56 : decode b_Machine_run 56 = .ok (.iload_n 3, 1) := by decide +kernel
theorem d_Machine_run_57 : decode b_Machine_run 57 = .ok (.invokevirtual 40, 3) := by decide +kernel
theorem d_Machine_run_60 : decode b_Machine_run 60 = .ok (.ifCond .eq 5, 3) := by decide +kernel
theorem d_Machine_run_63 : decode b_Machine_run 63 = .ok (.iconst 1, 1) := by decide +kernel
theorem d_Machine_run_64 : decode b_Machine_run 64 = .ok (.ireturn, 1) := by decide +kernel
theorem d_Machine_run_65 : decode b_Machine_run 65 = .ok (.aload_n 0, 1) := by decide +kernel
theorem d_Machine_run_66 : decode b_Machine_run 66 = .ok (.aload_n 1, 1) := by decide +kernel
theorem d_Machine_run_67 : decode b_Machine_run 67 = .ok (.iload_n 3, 1) := by decide +kernel
theorem d_Machine_run_68 : decode b_Machine_run 68 = .ok (.invokevirtual 44, 3) := by decide +kernel
theorem d_Machine_run_71 : decode b_Machine_run 71 = .ok (.aload_n 0, 1) := by decide +kernel
theorem d_Machine_run_72 : decode b_Machine_run 72 = .ok (.aload_n 1, 1) := by decide +kernel
theorem d_Machine_run_73 : decode b_Machine_run 73 = .ok (.iload_n 3, 1) := by decide +kernel
theorem d_Machine_run_74 : decode b_Machine_run 74 = .ok (.invokevirtual 48, 3) := by decide +kernel
theorem d_Machine_run_77 : decode b_Machine_run 77 = .ok (.istore_n 3, 1) := by decide +kernel
theorem d_Machine_run_78 : decode b_Machine_run 78 = .ok (.iinc 4 1, 3) := by decide +kernel
theorem d_Machine_run_81 : decode b_Machine_run 81 = .ok (.goto (-72), 3) := by decide +kernel
theorem d_Machine_run_84 : decode b_Machine_run 84 = .ok (.aload_n 1, 1) := by decide +kernel
theorem d_Machine_run_85 : decode b_Machine_run 85 = .ok (.iload_n 3, 1) := by decide +kernel
theorem d_Machine_run_86 : decode b_Machine_run 86 = .ok (.invokevirtual 21, 3) := by decide +kernel
theorem d_Machine_run_89 : decode b_Machine_run 89 = .ok (.ifCond .eq 7, 3) := by decide +kernel
theorem d_Machine_run_92 : decode b_Machine_run 92 = .ok (.iconst 2, 1) := by decide +kernel
theorem d_Machine_run_93 : decode b_Machine_run 93 = .ok (.goto 4, 3) := by decide +kernel
theorem d_Machine_run_96 : decode b_Machine_run 96 = .ok (.iconst 1, 1) := by decide +kernel
theorem d_Machine_run_97 : decode b_Machine_run 97 = .ok (.ireturn, 1) := by decide +kernel
theorem d_BlockCode_runCode_0 : decode b_BlockCode_runCode 0 = .ok (.aload_n 0, 1) := by decide +kernel
theorem d_BlockCode_runCode_1 : decode b_BlockCode_runCode 1 = .ok (.getfield 52, 3) := by decide +kernel
theorem d_BlockCode_runCode_4 : decode b_BlockCode_runCode 4 = .ok (.ifCond .eq 14, 3) := by decide +kernel
theorem d_BlockCode_runCode_7 : decode b_BlockCode_runCode 7 = .ok (.iload_n 2, 1) := by decide +kernel
theorem d_BlockCode_runCode_8 : decode b_BlockCode_runCode 8 = .ok (.ifCond .lt 10, 3) := by decide +kernel
theorem d_BlockCode_runCode_11 : decode b_BlockCode_runCode 11 = .ok (.iload_n 2, 1) := by decide +kernel
theorem d_BlockCode_runCode_12 : decode b_BlockCode_runCode 12 = .ok (.sipush 1000, 3) := by decide +kernel
theorem d_BlockCode_runCode_15 : decode b_BlockCode_runCode 15 = .ok (.if_icmp .le 5, 3) := by decide +kernel
theorem d_BlockCode_runCode_18 : decode b_BlockCode_runCode 18 = .ok (.iconst (-1), 1) := by decide +kernel
theorem d_BlockCode_runCode_19 : decode b_BlockCode_runCode 19 = .ok (.ireturn, 1) := by decide +kernel
theorem d_BlockCode_runCode_20 : decode b_BlockCode_runCode 20 = .ok (.aload_n 0, 1) := by decide +kernel
theorem d_BlockCode_runCode_21 : decode b_BlockCode_runCode 21 = .ok (.getfield 48, 3) := by decide +kernel
theorem d_BlockCode_runCode_24 : decode b_BlockCode_runCode 24 = .ok (.aload_n 1, 1) := by decide +kernel
theorem d_BlockCode_runCode_25 : decode b_BlockCode_runCode 25 = .ok (.iload_n 2, 1) := by decide +kernel
theorem d_BlockCode_runCode_26 : decode b_BlockCode_runCode 26 = .ok (.invokevirtual 256, 3) := by decide +kernel
theorem d_BlockCode_runCode_29 : decode b_BlockCode_runCode 29 = .ok (.ireturn, 1) := by decide +kernel
theorem d_BlockCode_runSource_0 : decode b_BlockCode_runSource 0 = .ok (.aload_n 0, 1) := by decide +kernel
theorem d_BlockCode_runSource_1 : decode b_BlockCode_runSource 1 = .ok (.aload_n 0, 1) := by decide +kernel
theorem d_BlockCode_runSource_2 : decode b_BlockCode_runSource 2 = .ok (.getfield 10, 3) := by decide +kernel
theorem d_BlockCode_runSource_5 : decode b_BlockCode_runSource 5 = .ok (.iload_n 1, 1) := by decide +kernel
theorem d_BlockCode_runSource_6 : decode b_BlockCode_runSource 6 = .ok (.invokevirtual 183, 3) := by decide +kernel
theorem d_BlockCode_runSource_9 : decode b_BlockCode_runSource 9 = .ok (.ireturn, 1) := by decide +kernel
theorem d_BlockCode_runResult_0 : decode b_BlockCode_runResult 0 = .ok (.aload_n 0, 1) := by decide +kernel
theorem d_BlockCode_runResult_1 : decode b_BlockCode_runResult 1 = .ok (.aload_n 0, 1) := by decide +kernel
theorem d_BlockCode_runResult_2 : decode b_BlockCode_runResult 2 = .ok (.getfield 16, 3) := by decide +kernel
theorem d_BlockCode_runResult_5 : decode b_BlockCode_runResult 5 = .ok (.iload_n 1, 1) := by decide +kernel
theorem d_BlockCode_runResult_6 : decode b_BlockCode_runResult 6 = .ok (.invokevirtual 183, 3) := by decide +kernel
theorem d_BlockCode_runResult_9 : decode b_BlockCode_runResult 9 = .ok (.ireturn, 1) := by decide +kernel
theorem d_BlockCode_told_0 : decode b_BlockCode_told 0 = .ok (.iload_n 1, 1) := by decide +kernel
theorem d_BlockCode_told_1 : decode b_BlockCode_told 1 = .ok (.invokestatic 107, 3) := by decide +kernel
theorem d_BlockCode_told_4 : decode b_BlockCode_told 4 = .ok (.ifCond .eq 17, 3) := by decide +kernel
theorem d_BlockCode_told_7 : decode b_BlockCode_told 7 = .ok (.iload_n 1, 1) := by decide +kernel
theorem d_BlockCode_told_8 : decode b_BlockCode_told 8 = .ok (.aload_n 0, 1) := by decide +kernel
theorem d_BlockCode_told_9 : decode b_BlockCode_told 9 = .ok (.getfield 48, 3) := by decide +kernel
theorem d_BlockCode_told_12 : decode b_BlockCode_told 12 = .ok (.getfield 187, 3) := by decide +kernel
theorem d_BlockCode_told_15 : decode b_BlockCode_told 15 = .ok (.invokestatic 159, 3) := by decide +kernel
theorem d_BlockCode_told_18 : decode b_BlockCode_told 18 = .ok (.ifCond .ne 5, 3) := by decide +kernel
theorem d_BlockCode_told_21 : decode b_BlockCode_told 21 = .ok (.iconst 0, 1) := by decide +kernel
theorem d_BlockCode_told_22 : decode b_BlockCode_told 22 = .ok (.ireturn, 1) := by decide +kernel
theorem d_BlockCode_told_23 : decode b_BlockCode_told 23 = .ok (.aload_n 0, 1) := by decide +kernel
theorem d_BlockCode_told_24 : decode b_BlockCode_told 24 = .ok (.getfield 48, 3) := by decide +kernel
theorem d_BlockCode_told_27 : decode b_BlockCode_told 27 = .ok (.getfield 190, 3) := by decide +kernel
theorem d_BlockCode_told_30 : decode b_BlockCode_told 30 = .ok (.iload_n 1, 1) := by decide +kernel
theorem d_BlockCode_told_31 : decode b_BlockCode_told 31 = .ok (.iaload, 1) := by decide +kernel
theorem d_BlockCode_told_32 : decode b_BlockCode_told 32 = .ok (.ireturn, 1) := by decide +kernel
theorem d_BlockCode_steps_0 : decode b_BlockCode_steps 0 = .ok (.aload_n 0, 1) := by decide +kernel
theorem d_BlockCode_steps_1 : decode b_BlockCode_steps 1 = .ok (.getfield 48, 3) := by decide +kernel
theorem d_BlockCode_steps_4 : decode b_BlockCode_steps 4 = .ok (.getfield 193, 3) := by decide +kernel
theorem d_BlockCode_steps_7 : decode b_BlockCode_steps 7 = .ok (.ireturn, 1) := by decide +kernel
theorem d_BlockCodeModel_thrown_0 : decode b_BlockCodeModel_thrown 0 = .ok (.aload_n 0, 1) := by decide +kernel
theorem d_BlockCodeModel_thrown_1 : decode b_BlockCodeModel_thrown 1 = .ok (.getfield 65, 3) := by decide +kernel
theorem d_BlockCodeModel_thrown_4 : decode b_BlockCodeModel_thrown 4 = .ok (.ireturn, 1) := by decide +kernel
theorem d_BlockCodeModel_within_0 : decode b_BlockCodeModel_within 0 = .ok (.iload_n 0, 1) := by decide +kernel
theorem d_BlockCodeModel_within_1 : decode b_BlockCodeModel_within 1 = .ok (.iload_n 1, 1) := by decide +kernel
theorem d_BlockCodeModel_within_2 : decode b_BlockCodeModel_within 2 = .ok (.if_icmp .lt 12, 3) := by decide +kernel
theorem d_BlockCodeModel_within_5 : decode b_BlockCodeModel_within 5 = .ok (.iload_n 0, 1) := by decide +kernel
theorem d_BlockCodeModel_within_6 : decode b_BlockCodeModel_within 6 = .ok (.iload_n 2, 1) := by decide +kernel
theorem d_BlockCodeModel_within_7 : decode b_BlockCodeModel_within 7 = .ok (.if_icmp .gt 7, 3) := by decide +kernel
theorem d_BlockCodeModel_within_10 : decode b_BlockCodeModel_within 10 = .ok (.iconst 1, 1) := by decide +kernel
theorem d_BlockCodeModel_within_11 : decode b_BlockCodeModel_within 11 = .ok (.goto 4, 3) := by decide +kernel
theorem d_BlockCodeModel_within_14 : decode b_BlockCodeModel_within 14 = .ok (.iconst 0, 1) := by decide +kernel
theorem d_BlockCodeModel_within_15 : decode b_BlockCodeModel_within 15 = .ok (.ireturn, 1) := by decide +kernel
theorem d_BlockCodeModel_says_0 : decode b_BlockCodeModel_says 0 = .ok (.iload_n 1, 1) := by decide +kernel
theorem d_BlockCodeModel_says_1 : decode b_BlockCodeModel_says 1 = .ok (.iconst 1, 1) := by decide +kernel
theorem d_BlockCodeModel_says_2 : decode b_BlockCodeModel_says 2 = .ok (.if_icmp .ne 11, 3) := by decide +kernel
theorem d_BlockCodeModel_says_5 : decode b_BlockCodeModel_says 5 = .ok (.iload_n 0, 1) := by decide +kernel
theorem d_BlockCodeModel_says_6 : decode b_BlockCodeModel_says 6 = .ok (.iconst 1, 1) := by decide +kernel
theorem d_BlockCodeModel_says_7 : decode b_BlockCodeModel_says 7 = .ok (.bipush 7, 2) := by decide +kernel
theorem d_BlockCodeModel_says_9 : decode b_BlockCodeModel_says 9 = .ok (.invokestatic 69, 3) := by decide +kernel
theorem d_BlockCodeModel_says_12 : decode b_BlockCodeModel_says 12 = .ok (.ireturn, 1) := by decide +kernel
theorem d_BlockCodeModel_says_13 : decode b_BlockCodeModel_says 13 = .ok (.iload_n 1, 1) := by decide +kernel
theorem d_BlockCodeModel_says_14 : decode b_BlockCodeModel_says 14 = .ok (.iconst 2, 1) := by decide +kernel
theorem d_BlockCodeModel_says_15 : decode b_BlockCodeModel_says 15 = .ok (.if_icmp .ne 11, 3) := by decide +kernel
theorem d_BlockCodeModel_says_18 : decode b_BlockCodeModel_says 18 = .ok (.iload_n 0, 1) := by decide +kernel
theorem d_BlockCodeModel_says_19 : decode b_BlockCodeModel_says 19 = .ok (.iconst 1, 1) := by decide +kernel
theorem d_BlockCodeModel_says_20 : decode b_BlockCodeModel_says 20 = .ok (.bipush 10, 2) := by decide +kernel
theorem d_BlockCodeModel_says_22 : decode b_BlockCodeModel_says 22 = .ok (.invokestatic 69, 3) := by decide +kernel
theorem d_BlockCodeModel_says_25 : decode b_BlockCodeModel_says 25 = .ok (.ireturn, 1) := by decide +kernel
theorem d_BlockCodeModel_says_26 : decode b_BlockCodeModel_says 26 = .ok (.iload_n 0, 1) := by decide +kernel
theorem d_BlockCodeModel_says_27 : decode b_BlockCodeModel_says 27 = .ok (.iconst 3, 1) := by decide +kernel
theorem d_BlockCodeModel_says_28 : decode b_BlockCodeModel_says 28 = .ok (.bipush 7, 2) := by decide +kernel
theorem d_BlockCodeModel_says_30 : decode b_BlockCodeModel_says 30 = .ok (.invokestatic 69, 3) := by decide +kernel
theorem d_BlockCodeModel_says_33 : decode b_BlockCodeModel_says 33 = .ok (.ifCond .ne 9, 3) := by decide +kernel
theorem d_BlockCodeModel_says_36 : decode b_BlockCodeModel_says 36 = .ok (.iload_n 0, 1) := by decide +kernel
theorem d_BlockCodeModel_says_37 : decode b_BlockCodeModel_says 37 = .ok (.bipush 9, 2) := by decide +kernel
theorem d_BlockCodeModel_says_39 : decode b_BlockCodeModel_says 39 = .ok (.if_icmp .ne 7, 3) := by decide +kernel
theorem d_BlockCodeModel_says_42 : decode b_BlockCodeModel_says 42 = .ok (.iconst 1, 1) := by decide +kernel
theorem d_BlockCodeModel_says_43 : decode b_BlockCodeModel_says 43 = .ok (.goto 4, 3) := by decide +kernel
theorem d_BlockCodeModel_says_46 : decode b_BlockCodeModel_says 46 = .ok (.iconst 0, 1) := by decide +kernel
theorem d_BlockCodeModel_says_47 : decode b_BlockCodeModel_says 47 = .ok (.ireturn, 1) := by decide +kernel
theorem d_BlockCodeModel_hasForm_0 : decode b_BlockCodeModel_hasForm 0 = .ok (.iload_n 0, 1) := by decide +kernel
theorem d_BlockCodeModel_hasForm_1 : decode b_BlockCodeModel_hasForm 1 = .ok (.iconst 0, 1) := by decide +kernel
theorem d_BlockCodeModel_hasForm_2 : decode b_BlockCodeModel_hasForm 2 = .ok (.bipush 10, 2) := by decide +kernel
theorem d_BlockCodeModel_hasForm_4 : decode b_BlockCodeModel_hasForm 4 = .ok (.invokestatic 69, 3) := by decide +kernel
