theorem d_BlockCodeModel_hasForm_7 : decode b_BlockCodeModel_hasForm 7 = .ok (.ifCond .ne 5, 3) := by decide +kernel
theorem d_BlockCodeModel_hasForm_10 : decode b_BlockCodeModel_hasForm 10 = .ok (.iconst 0, 1) := by decide +kernel
theorem d_BlockCodeModel_hasForm_11 : decode b_BlockCodeModel_hasForm 11 = .ok (.ireturn, 1) := by decide +kernel
theorem d_BlockCodeModel_hasForm_12 : decode b_BlockCodeModel_hasForm 12 = .ok (.iload_n 0, 1) := by decide +kernel
theorem d_BlockCodeModel_hasForm_13 : decode b_BlockCodeModel_hasForm 13 = .ok (.iconst 1, 1) := by decide +kernel
theorem d_BlockCodeModel_hasForm_14 : decode b_BlockCodeModel_hasForm 14 = .ok (.bipush 7, 2) := by decide +kernel
theorem d_BlockCodeModel_hasForm_16 : decode b_BlockCodeModel_hasForm 16 = .ok (.invokestatic 69, 3) := by decide +kernel
theorem d_BlockCodeModel_hasForm_19 : decode b_BlockCodeModel_hasForm 19 = .ok (.ifCond .eq 14, 3) := by decide +kernel
theorem d_BlockCodeModel_hasForm_22 : decode b_BlockCodeModel_hasForm 22 = .ok (.iload_n 1, 1) := by decide +kernel
theorem d_BlockCodeModel_hasForm_23 : decode b_BlockCodeModel_hasForm 23 = .ok (.iconst 0, 1) := by decide +kernel
theorem d_BlockCodeModel_hasForm_24 : decode b_BlockCodeModel_hasForm 24 = .ok (.iconst 4, 1) := by decide +kernel
theorem d_BlockCodeModel_hasForm_25 : decode b_BlockCodeModel_hasForm 25 = .ok (.invokestatic 69, 3) := by decide +kernel
theorem d_BlockCodeModel_hasForm_28 : decode b_BlockCodeModel_hasForm 28 = .ok (.ifCond .ne 5, 3) := by decide +kernel
theorem d_BlockCodeModel_hasForm_31 : decode b_BlockCodeModel_hasForm 31 = .ok (.iconst 0, 1) := by decide +kernel
theorem d_BlockCodeModel_hasForm_32 : decode b_BlockCodeModel_hasForm 32 = .ok (.ireturn, 1) := by decide +kernel
theorem d_BlockCodeModel_hasForm_33 : decode b_BlockCodeModel_hasForm 33 = .ok (.iload_n 0, 1) := by decide +kernel
theorem d_BlockCodeModel_hasForm_34 : decode b_BlockCodeModel_hasForm 34 = .ok (.iconst 2, 1) := by decide +kernel
theorem d_BlockCodeModel_hasForm_35 : decode b_BlockCodeModel_hasForm 35 = .ok (.bipush 7, 2) := by decide +kernel
theorem d_BlockCodeModel_hasForm_37 : decode b_BlockCodeModel_hasForm 37 = .ok (.invokestatic 69, 3) := by decide +kernel
theorem d_BlockCodeModel_hasForm_40 : decode b_BlockCodeModel_hasForm 40 = .ok (.ifCond .ne 9, 3) := by decide +kernel
theorem d_BlockCodeModel_hasForm_43 : decode b_BlockCodeModel_hasForm 43 = .ok (.iload_n 0, 1) := by decide +kernel
theorem d_BlockCodeModel_hasForm_44 : decode b_BlockCodeModel_hasForm 44 = .ok (.bipush 9, 2) := by decide +kernel
theorem d_BlockCodeModel_hasForm_46 : decode b_BlockCodeModel_hasForm 46 = .ok (.if_icmp .ne 14, 3) := by decide +kernel
theorem d_BlockCodeModel_hasForm_49 : decode b_BlockCodeModel_hasForm 49 = .ok (.iload_n 2, 1) := by decide +kernel
theorem d_BlockCodeModel_hasForm_50 : decode b_BlockCodeModel_hasForm 50 = .ok (.iconst 0, 1) := by decide +kernel
theorem d_BlockCodeModel_hasForm_51 : decode b_BlockCodeModel_hasForm 51 = .ok (.iconst 4, 1) := by decide +kernel
theorem d_BlockCodeModel_hasForm_52 : decode b_BlockCodeModel_hasForm 52 = .ok (.invokestatic 69, 3) := by decide +kernel
theorem d_BlockCodeModel_hasForm_55 : decode b_BlockCodeModel_hasForm 55 = .ok (.ifCond .ne 5, 3) := by decide +kernel
theorem d_BlockCodeModel_hasForm_58 : decode b_BlockCodeModel_hasForm 58 = .ok (.iconst 0, 1) := by decide +kernel
theorem d_BlockCodeModel_hasForm_59 : decode b_BlockCodeModel_hasForm 59 = .ok (.ireturn, 1) := by decide +kernel
theorem d_BlockCodeModel_hasForm_60 : decode b_BlockCodeModel_hasForm 60 = .ok (.iload_n 0, 1) := by decide +kernel
theorem d_BlockCodeModel_hasForm_61 : decode b_BlockCodeModel_hasForm 61 = .ok (.iconst 3, 1) := by decide +kernel
theorem d_BlockCodeModel_hasForm_62 : decode b_BlockCodeModel_hasForm 62 = .ok (.bipush 7, 2) := by decide +kernel
theorem d_BlockCodeModel_hasForm_64 : decode b_BlockCodeModel_hasForm 64 = .ok (.invokestatic 69, 3) := by decide +kernel
theorem d_BlockCodeModel_hasForm_67 : decode b_BlockCodeModel_hasForm 67 = .ok (.ifCond .eq 14, 3) := by decide +kernel
theorem d_BlockCodeModel_hasForm_70 : decode b_BlockCodeModel_hasForm 70 = .ok (.iload_n 3, 1) := by decide +kernel
theorem d_BlockCodeModel_hasForm_71 : decode b_BlockCodeModel_hasForm 71 = .ok (.iconst 0, 1) := by decide +kernel
theorem d_BlockCodeModel_hasForm_72 : decode b_BlockCodeModel_hasForm 72 = .ok (.iconst 4, 1) := by decide +kernel
theorem d_BlockCodeModel_hasForm_73 : decode b_BlockCodeModel_hasForm 73 = .ok (.invokestatic 69, 3) := by decide +kernel
theorem d_BlockCodeModel_hasForm_76 : decode b_BlockCodeModel_hasForm 76 = .ok (.ifCond .ne 5, 3) := by decide +kernel
theorem d_BlockCodeModel_hasForm_79 : decode b_BlockCodeModel_hasForm 79 = .ok (.iconst 0, 1) := by decide +kernel
theorem d_BlockCodeModel_hasForm_80 : decode b_BlockCodeModel_hasForm 80 = .ok (.ireturn, 1) := by decide +kernel
theorem d_BlockCodeModel_hasForm_81 : decode b_BlockCodeModel_hasForm 81 = .ok (.iload_n 0, 1) := by decide +kernel
theorem d_BlockCodeModel_hasForm_82 : decode b_BlockCodeModel_hasForm 82 = .ok (.bipush 8, 2) := by decide +kernel
theorem d_BlockCodeModel_hasForm_84 : decode b_BlockCodeModel_hasForm 84 = .ok (.if_icmp .ne 13, 3) := by decide +kernel
theorem d_BlockCodeModel_hasForm_87 : decode b_BlockCodeModel_hasForm 87 = .ok (.iload_n 2, 1) := by decide +kernel
theorem d_BlockCodeModel_hasForm_88 : decode b_BlockCodeModel_hasForm 88 = .ok (.iconst 0, 1) := by decide +kernel
theorem d_BlockCodeModel_hasForm_89 : decode b_BlockCodeModel_hasForm 89 = .ok (.bipush 19, 2) := by decide +kernel
theorem d_BlockCodeModel_hasForm_91 : decode b_BlockCodeModel_hasForm 91 = .ok (.invokestatic 69, 3) := by decide +kernel
theorem d_BlockCodeModel_hasForm_94 : decode b_BlockCodeModel_hasForm 94 = .ok (.ifCond .eq 19, 3) := by decide +kernel
theorem d_BlockCodeModel_hasForm_97 : decode b_BlockCodeModel_hasForm 97 = .ok (.iload_n 0, 1) := by decide +kernel
theorem d_BlockCodeModel_hasForm_98 : decode b_BlockCodeModel_hasForm 98 = .ok (.bipush 9, 2) := by decide +kernel
theorem d_BlockCodeModel_hasForm_100 : decode b_BlockCodeModel_hasForm 100 = .ok (.if_icmp .ne 15, 3) := by decide +kernel
theorem d_BlockCodeModel_hasForm_103 : decode b_BlockCodeModel_hasForm 103 = .ok (.iload_n 3, 1) := by decide +kernel
theorem d_BlockCodeModel_hasForm_104 : decode b_BlockCodeModel_hasForm 104 = .ok (.iconst 0, 1) := by decide +kernel
theorem d_BlockCodeModel_hasForm_105 : decode b_BlockCodeModel_hasForm 105 = .ok (.bipush 19, 2) := by decide +kernel
theorem d_BlockCodeModel_hasForm_107 : decode b_BlockCodeModel_hasForm 107 = .ok (.invokestatic 69, 3) := by decide +kernel
theorem d_BlockCodeModel_hasForm_110 : decode b_BlockCodeModel_hasForm 110 = .ok (.ifCond .ne 5, 3) := by decide +kernel
theorem d_BlockCodeModel_hasForm_113 : decode b_BlockCodeModel_hasForm 113 = .ok (.iconst 0, 1) := by decide +kernel
theorem d_BlockCodeModel_hasForm_114 : decode b_BlockCodeModel_hasForm 114 = .ok (.ireturn, 1) := by decide +kernel
theorem d_BlockCodeModel_hasForm_115 : decode b_BlockCodeModel_hasForm 115 = .ok (.iload_n 0, 1) := by decide +kernel
theorem d_BlockCodeModel_hasForm_116 : decode b_BlockCodeModel_hasForm 116 = .ok (.bipush 10, 2) := by decide +kernel
theorem d_BlockCodeModel_hasForm_118 : decode b_BlockCodeModel_hasForm 118 = .ok (.if_icmp .ne 13, 3) := by decide +kernel
theorem d_BlockCodeModel_hasForm_121 : decode b_BlockCodeModel_hasForm 121 = .ok (.iload_n 2, 1) := by decide +kernel
theorem d_BlockCodeModel_hasForm_122 : decode b_BlockCodeModel_hasForm 122 = .ok (.iconst 0, 1) := by decide +kernel
theorem d_BlockCodeModel_hasForm_123 : decode b_BlockCodeModel_hasForm 123 = .ok (.bipush 31, 2) := by decide +kernel
theorem d_BlockCodeModel_hasForm_125 : decode b_BlockCodeModel_hasForm 125 = .ok (.invokestatic 69, 3) := by decide +kernel
theorem d_BlockCodeModel_hasForm_128 : decode b_BlockCodeModel_hasForm 128 = .ok (.ifCond .eq 7, 3) := by decide +kernel
theorem d_BlockCodeModel_hasForm_131 : decode b_BlockCodeModel_hasForm 131 = .ok (.iconst 1, 1) := by decide +kernel
theorem d_BlockCodeModel_hasForm_132 : decode b_BlockCodeModel_hasForm 132 = .ok (.goto 4, 3) := by decide +kernel
theorem d_BlockCodeModel_hasForm_135 : decode b_BlockCodeModel_hasForm 135 = .ok (.iconst 0, 1) := by decide +kernel
theorem d_BlockCodeModel_hasForm_136 : decode b_BlockCodeModel_hasForm 136 = .ok (.ireturn, 1) := by decide +kernel
theorem d_BlockCodeModel_put_0 : decode b_BlockCodeModel_put 0 = .ok (.aload_n 0, 1) := by decide +kernel
theorem d_BlockCodeModel_put_1 : decode b_BlockCodeModel_put 1 = .ok (.getfield 7, 3) := by decide +kernel
theorem d_BlockCodeModel_put_4 : decode b_BlockCodeModel_put 4 = .ok (.iload_n 1, 1) := by decide +kernel
theorem d_BlockCodeModel_put_5 : decode b_BlockCodeModel_put 5 = .ok (.iload_n 2, 1) := by decide +kernel
theorem d_BlockCodeModel_put_6 : decode b_BlockCodeModel_put 6 = .ok (.iastore, 1) := by decide +kernel
theorem d_BlockCodeModel_put_7 : decode b_BlockCodeModel_put 7 = .ok (.aload_n 0, 1) := by decide +kernel
theorem d_BlockCodeModel_put_8 : decode b_BlockCodeModel_put 8 = .ok (.getfield 7, 3) := by decide +kernel
theorem d_BlockCodeModel_put_11 : decode b_BlockCodeModel_put 11 = .ok (.iload_n 1, 1) := by decide +kernel
theorem d_BlockCodeModel_put_12 : decode b_BlockCodeModel_put 12 = .ok (.iconst 1, 1) := by decide +kernel
theorem d_BlockCodeModel_put_13 : decode b_BlockCodeModel_put 13 = .ok (.iadd, 1) := by decide +kernel
theorem d_BlockCodeModel_put_14 : decode b_BlockCodeModel_put 14 = .ok (.iload_n 2, 1) := by decide +kernel
theorem d_BlockCodeModel_put_15 : decode b_BlockCodeModel_put 15 = .ok (.iconst 1, 1) := by decide +kernel
theorem d_BlockCodeModel_put_16 : decode b_BlockCodeModel_put 16 = .ok (.invokestatic 73, 3) := by decide +kernel
theorem d_BlockCodeModel_put_19 : decode b_BlockCodeModel_put 19 = .ok (.ifCond .eq 7, 3) := by decide +kernel
theorem d_BlockCodeModel_put_22 : decode b_BlockCodeModel_put 22 = .ok (.iload_n 3, 1) := by decide +kernel
theorem d_BlockCodeModel_put_23 : decode b_BlockCodeModel_put 23 = .ok (.goto 4, 3) := by decide +kernel
theorem d_BlockCodeModel_put_26 : decode b_BlockCodeModel_put 26 = .ok (.iconst 0, 1) := by decide +kernel
theorem d_BlockCodeModel_put_27 : decode b_BlockCodeModel_put 27 = .ok (.iastore, 1) := by decide +kernel
theorem d_BlockCodeModel_put_28 : decode b_BlockCodeModel_put 28 = .ok (.aload_n 0, 1) := by decide +kernel
theorem d_BlockCodeModel_put_29 : decode b_BlockCodeModel_put 29 = .ok (.getfield 7, 3) := by decide +kernel
theorem d_BlockCodeModel_put_32 : decode b_BlockCodeModel_put 32 = .ok (.iload_n 1, 1) := by decide +kernel
theorem d_BlockCodeModel_put_33 : decode b_BlockCodeModel_put 33 = .ok (.iconst 2, 1) := by decide +kernel
theorem d_BlockCodeModel_put_34 : decode b_BlockCodeModel_put 34 = .ok (.iadd, 1) := by decide +kernel
theorem d_BlockCodeModel_put_35 : decode b_BlockCodeModel_put 35 = .ok (.iload_n 2, 1) := by decide +kernel
theorem d_BlockCodeModel_put_36 : decode b_BlockCodeModel_put 36 = .ok (.iconst 2, 1) := by decide +kernel
theorem d_BlockCodeModel_put_37 : decode b_BlockCodeModel_put 37 = .ok (.invokestatic 73, 3) := by decide +kernel
theorem d_BlockCodeModel_put_40 : decode b_BlockCodeModel_put 40 = .ok (.ifCond .eq 8, 3) := by decide +kernel
theorem d_BlockCodeModel_put_43 : decode b_BlockCodeModel_put 43 = .ok (.iload 4, 2) := by decide +kernel
theorem d_BlockCodeModel_put_45 : decode b_BlockCodeModel_put 45 = .ok (.goto 4, 3) := by decide +kernel
theorem d_BlockCodeModel_put_48 : decode b_BlockCodeModel_put 48 = .ok (.iconst 0, 1) := by decide +kernel
theorem d_BlockCodeModel_put_49 : decode b_BlockCodeModel_put 49 = .ok (.iastore, 1) := by decide +kernel
theorem d_BlockCodeModel_put_50 : decode b_BlockCodeModel_put 50 = .ok (.aload_n 0, 1) := by decide +kernel
theorem d_BlockCodeModel_put_51 : decode b_BlockCodeModel_put 51 = .ok (.getfield 7, 3) := by decide +kernel
theorem d_BlockCodeModel_put_54 : decode b_BlockCodeModel_put 54 = .ok (.iload_n 1, 1) := by decide +kernel
theorem d_BlockCodeModel_put_55 : decode b_BlockCodeModel_put 55 = .ok (.iconst 3, 1) := by decide +kernel
theorem d_BlockCodeModel_put_56 : decode b_BlockCodeModel_put 56 = .ok (.iadd, 1) := by decide +kernel
theorem d_BlockCodeModel_put_57 : decode b_BlockCodeModel_put 57 = .ok (.iload_n 2, 1) := by decide +kernel
theorem d_BlockCodeModel_put_58 : decode b_BlockCodeModel_put 58 = .ok (.iconst 3, 1) := by decide +kernel
theorem d_BlockCodeModel_put_59 : decode b_BlockCodeModel_put 59 = .ok (.invokestatic 73, 3) := by decide +kernel
theorem d_BlockCodeModel_put_62 : decode b_BlockCodeModel_put 62 = .ok (.ifCond .eq 8, 3) := by decide +kernel
theorem d_BlockCodeModel_put_65 : decode b_BlockCodeModel_put 65 = .ok (.iload 5, 2) := by decide +kernel
theorem d_BlockCodeModel_put_67 : decode b_BlockCodeModel_put 67 = .ok (.goto 4, 3) := by decide +kernel
theorem d_BlockCodeModel_put_70 : decode b_BlockCodeModel_put 70 = .ok (.iconst 0, 1) := by decide +kernel
theorem d_BlockCodeModel_put_71 : decode b_BlockCodeModel_put 71 = .ok (.iastore, 1) := by decide +kernel
theorem d_BlockCodeModel_put_72 : decode b_BlockCodeModel_put 72 = .ok (.return_, 1) := by decide +kernel
theorem d_BlockCodeModel_add_0 : decode b_BlockCodeModel_add 0 = .ok (.aload_n 0, 1) := by decide +kernel
theorem d_BlockCodeModel_add_1 : decode b_BlockCodeModel_add 1 = .ok (.aload_n 0, 1) := by decide +kernel
theorem d_BlockCodeModel_add_2 : decode b_BlockCodeModel_add 2 = .ok (.getfield 77, 3) := by decide +kernel
theorem d_BlockCodeModel_add_5 : decode b_BlockCodeModel_add 5 = .ok (.ifCond .eq 7, 3) := by decide +kernel
theorem d_BlockCodeModel_add_8 : decode b_BlockCodeModel_add 8 = .ok (.iconst 1, 1) := by decide +kernel
theorem d_BlockCodeModel_add_9 : decode b_BlockCodeModel_add 9 = .ok (.goto 4, 3) := by decide +kernel
theorem d_BlockCodeModel_add_12 : decode b_BlockCodeModel_add 12 = .ok (.iconst 0, 1) := by decide +kernel
theorem d_BlockCodeModel_add_13 : decode b_BlockCodeModel_add 13 = .ok (.putfield 65, 3) := by decide +kernel
theorem d_BlockCodeModel_add_16 : decode b_BlockCodeModel_add 16 = .ok (.aload_n 0, 1) := by decide +kernel
theorem d_BlockCodeModel_add_17 : decode b_BlockCodeModel_add 17 = .ok (.getfield 77, 3) := by decide +kernel
theorem d_BlockCodeModel_add_20 : decode b_BlockCodeModel_add 20 = .ok (.ifCond .eq 5, 3) := by decide +kernel
theorem d_BlockCodeModel_add_23 : decode b_BlockCodeModel_add 23 = .ok (.iconst 0, 1) := by decide +kernel
theorem d_BlockCodeModel_add_24 : decode b_BlockCodeModel_add 24 = .ok (.ireturn, 1) := by decide +kernel
theorem d_BlockCodeModel_add_25 : decode b_BlockCodeModel_add 25 = .ok (.iload_n 1, 1) := by decide +kernel
theorem d_BlockCodeModel_add_26 : decode b_BlockCodeModel_add 26 = .ok (.iload_n 2, 1) := by decide +kernel
theorem d_BlockCodeModel_add_27 : decode b_BlockCodeModel_add 27 = .ok (.iload_n 3, 1) := by decide +kernel
theorem d_BlockCodeModel_add_28 : decode b_BlockCodeModel_add 28 = .ok (.iload 4, 2) := by decide +kernel
theorem d_BlockCodeModel_add_30 : decode b_BlockCodeModel_add 30 = .ok (.invokestatic 81, 3) := by decide +kernel
theorem d_BlockCodeModel_add_33 : decode b_BlockCodeModel_add 33 = .ok (.ifCond .ne 5, 3) := by decide +kernel
theorem d_BlockCodeModel_add_36 : decode b_BlockCodeModel_add 36 = .ok (.iconst (-1), 1) := by decide +kernel
theorem d_BlockCodeModel_add_37 : decode b_BlockCodeModel_add 37 = .ok (.ireturn, 1) := by decide +kernel
theorem d_BlockCodeModel_add_38 : decode b_BlockCodeModel_add 38 = .ok (.aload_n 0, 1) := by decide +kernel
theorem d_BlockCodeModel_add_39 : decode b_BlockCodeModel_add 39 = .ok (.getfield 85, 3) := by decide +kernel
theorem d_BlockCodeModel_add_42 : decode b_BlockCodeModel_add 42 = .ok (.bipush 20, 2) := by decide +kernel
theorem d_BlockCodeModel_add_44 : decode b_BlockCodeModel_add 44 = .ok (.if_icmp .ne 6, 3) := by decide +kernel
theorem d_BlockCodeModel_add_47 : decode b_BlockCodeModel_add 47 = .ok (.bipush (-2), 2) := by decide +kernel
theorem d_BlockCodeModel_add_49 : decode b_BlockCodeModel_add 49 = .ok (.ireturn, 1) := by decide +kernel
theorem d_BlockCodeModel_add_50 : decode b_BlockCodeModel_add 50 = .ok (.aload_n 0, 1) := by decide +kernel
theorem d_BlockCodeModel_add_51 : decode b_BlockCodeModel_add 51 = .ok (.iconst 4, 1) := by decide +kernel
theorem d_BlockCodeModel_add_52 : decode b_BlockCodeModel_add 52 = .ok (.aload_n 0, 1) := by decide +kernel
theorem d_BlockCodeModel_add_53 : decode b_BlockCodeModel_add 53 = .ok (.getfield 85, 3) := by decide +kernel
theorem d_BlockCodeModel_add_56 : decode b_BlockCodeModel_add 56 = .ok (.imul, 1) := by decide +kernel
theorem d_BlockCodeModel_add_57 : decode b_BlockCodeModel_add 57 = .ok (.iload_n 1, 1) := by decide +kernel
theorem d_BlockCodeModel_add_58 : decode b_BlockCodeModel_add 58 = .ok (.iload_n 2, 1) := by decide +kernel
theorem d_BlockCodeModel_add_59 : decode b_BlockCodeModel_add 59 = .ok (.iload_n 3, 1) := by decide +kernel
theorem d_BlockCodeModel_add_60 : decode b_BlockCodeModel_add 60 = .ok (.iload 4, 2) := by decide +kernel
theorem d_BlockCodeModel_add_62 : decode b_BlockCodeModel_add 62 = .ok (.invokevirtual 88, 3) := by decide +kernel
theorem d_BlockCodeModel_add_65 : decode b_BlockCodeModel_add 65 = .ok (.aload_n 0, 1) := by decide +kernel
theorem d_BlockCodeModel_add_66 : decode b_BlockCodeModel_add 66 = .ok (.dup, 1) := by decide +kernel
theorem d_BlockCodeModel_add_67 : decode b_BlockCodeModel_add 67 = .ok (.getfield 85, 3) := by decide +kernel
theorem d_BlockCodeModel_add_70 : decode b_BlockCodeModel_add 70 = .ok (.iconst 1, 1) := by decide +kernel
theorem d_BlockCodeModel_add_71 : decode b_BlockCodeModel_add 71 = .ok (.iadd, 1) := by decide +kernel
theorem d_BlockCodeModel_add_72 : decode b_BlockCodeModel_add 72 = .ok (.putfield 85, 3) := by decide +kernel
theorem d_BlockCodeModel_add_75 : decode b_BlockCodeModel_add 75 = .ok (.aload_n 0, 1) := by decide +kernel
theorem d_BlockCodeModel_add_76 : decode b_BlockCodeModel_add 76 = .ok (.getfield 85, 3) := by decide +kernel
theorem d_BlockCodeModel_add_79 : decode b_BlockCodeModel_add 79 = .ok (.iconst 1, 1) := by decide +kernel
theorem d_BlockCodeModel_add_80 : decode b_BlockCodeModel_add 80 = .ok (.isub, 1) := by decide +kernel
theorem d_BlockCodeModel_add_81 : decode b_BlockCodeModel_add 81 = .ok (.ireturn, 1) := by decide +kernel
theorem d_BlockCodeModel_clear_0 : decode b_BlockCodeModel_clear 0 = .ok (.aload_n 0, 1) := by decide +kernel
theorem d_BlockCodeModel_clear_1 : decode b_BlockCodeModel_clear 1 = .ok (.iconst 0, 1) := by decide +kernel
theorem d_BlockCodeModel_clear_2 : decode b_BlockCodeModel_clear 2 = .ok (.putfield 65, 3) := by decide +kernel
theorem d_BlockCodeModel_clear_5 : decode b_BlockCodeModel_clear 5 = .ok (.aload_n 0, 1) := by decide +kernel
theorem d_BlockCodeModel_clear_6 : decode b_BlockCodeModel_clear 6 = .ok (.iconst 0, 1) := by decide +kernel
theorem d_BlockCodeModel_clear_7 : decode b_BlockCodeModel_clear 7 = .ok (.putfield 85, 3) := by decide +kernel
theorem d_BlockCodeModel_clear_10 : decode b_BlockCodeModel_clear 10 = .ok (.aload_n 0, 1) := by decide +kernel
theorem d_BlockCodeModel_clear_11 : decode b_BlockCodeModel_clear 11 = .ok (.iconst 0, 1) := by decide +kernel
theorem d_BlockCodeModel_clear_12 : decode b_BlockCodeModel_clear 12 = .ok (.putfield 77, 3) := by decide +kernel
theorem d_BlockCodeModel_clear_15 : decode b_BlockCodeModel_clear 15 = .ok (.aload_n 0, 1) := by decide +kernel
theorem d_BlockCodeModel_clear_16 : decode b_BlockCodeModel_clear 16 = .ok (.iconst 0, 1) := by decide +kernel
theorem d_BlockCodeModel_clear_17 : decode b_BlockCodeModel_clear 17 = .ok (.putfield 92, 3) := by decide +kernel
theorem d_BlockCodeModel_clear_20 : decode b_BlockCodeModel_clear 20 = .ok (.return_, 1) := by decide +kernel
theorem d_BlockCodeModel_copy_0 : decode b_BlockCodeModel_copy 0 = .ok (.iconst 0, 1) := by decide +kernel
theorem d_BlockCodeModel_copy_1 : decode b_BlockCodeModel_copy 1 = .ok (.istore_n 3, 1) := by decide +kernel
theorem d_BlockCodeModel_copy_2 : decode b_BlockCodeModel_copy 2 = .ok (.iload_n 3, 1) := by decide +kernel
theorem d_BlockCodeModel_copy_3 : decode b_BlockCodeModel_copy 3 = .ok (.iconst 4, 1) := by decide +kernel
theorem d_BlockCodeModel_copy_4 : decode b_BlockCodeModel_copy 4 = .ok (.aload_n 0, 1) := by decide +kernel
theorem d_BlockCodeModel_copy_5 : decode b_BlockCodeModel_copy 5 = .ok (.getfield 85, 3) := by decide +kernel
theorem d_BlockCodeModel_copy_8 : decode b_BlockCodeModel_copy 8 = .ok (.imul, 1) := by decide +kernel
theorem d_BlockCodeModel_copy_9 : decode b_BlockCodeModel_copy 9 = .ok (.if_icmp .ge 31, 3) := by decide +kernel
theorem d_BlockCodeModel_copy_12 : decode b_BlockCodeModel_copy 12 = .ok (.aload_n 0, 1) := by decide +kernel
theorem d_BlockCodeModel_copy_13 : decode b_BlockCodeModel_copy 13 = .ok (.getfield 7, 3) := by decide +kernel
theorem d_BlockCodeModel_copy_16 : decode b_BlockCodeModel_copy 16 = .ok (.bipush 80, 2) := by decide +kernel
theorem d_BlockCodeModel_copy_18 : decode b_BlockCodeModel_copy 18 = .ok (.iload_n 2, 1) := by decide +kernel
theorem d_BlockCodeModel_copy_19 : decode b_BlockCodeModel_copy 19 = .ok (.imul, 1) := by decide +kernel
theorem d_BlockCodeModel_copy_20 : decode b_BlockCodeModel_copy 20 = .ok (.iload_n 3, 1) := by decide +kernel
theorem d_BlockCodeModel_copy_21 : decode b_BlockCodeModel_copy 21 = .ok (.iadd, 1) := by decide +kernel
theorem d_BlockCodeModel_copy_22 : decode b_BlockCodeModel_copy 22 = .ok (.aload_n 0, 1) := by decide +kernel
theorem d_BlockCodeModel_copy_23 : decode b_BlockCodeModel_copy 23 = .ok (.getfield 7, 3) := by decide +kernel
theorem d_BlockCodeModel_copy_26 : decode b_BlockCodeModel_copy 26 = .ok (.bipush 80, 2) := by decide +kernel
theorem d_BlockCodeModel_copy_28 : decode b_BlockCodeModel_copy 28 = .ok (.iload_n 1, 1) := by decide +kernel
theorem d_BlockCodeModel_copy_29 : decode b_BlockCodeModel_copy 29 = .ok (.imul, 1) := by decide +kernel
theorem d_BlockCodeModel_copy_30 : decode b_BlockCodeModel_copy 30 = .ok (.iload_n 3, 1) := by decide +kernel
theorem d_BlockCodeModel_copy_31 : decode b_BlockCodeModel_copy 31 = .ok (.iadd, 1) := by decide +kernel
theorem d_BlockCodeModel_copy_32 : decode b_BlockCodeModel_copy 32 = .ok (.iaload, 1) := by decide +kernel
theorem d_BlockCodeModel_copy_33 : decode b_BlockCodeModel_copy 33 = .ok (.iastore, 1) := by decide +kernel
theorem d_BlockCodeModel_copy_34 : decode b_BlockCodeModel_copy 34 = .ok (.iinc 3 1, 3) := by decide +kernel
theorem d_BlockCodeModel_copy_37 : decode b_BlockCodeModel_copy 37 = .ok (.goto (-35), 3) := by decide +kernel
theorem d_BlockCodeModel_copy_40 : decode b_BlockCodeModel_copy 40 = .ok (.return_, 1) := by decide +kernel
theorem d_BlockCodeModel_ends_0 : decode b_BlockCodeModel_ends 0 = .ok (.iload_n 0, 1) := by decide +kernel
theorem d_BlockCodeModel_ends_1 : decode b_BlockCodeModel_ends 1 = .ok (.bipush 8, 2) := by decide +kernel
theorem d_BlockCodeModel_ends_3 : decode b_BlockCodeModel_ends 3 = .ok (.if_icmp .eq 9, 3) := by decide +kernel
theorem d_BlockCodeModel_ends_6 : decode b_BlockCodeModel_ends 6 = .ok (.iload_n 0, 1) := by decide +kernel
theorem d_BlockCodeModel_ends_7 : decode b_BlockCodeModel_ends 7 = .ok (.bipush 10, 2) := by decide +kernel
theorem d_BlockCodeModel_ends_9 : decode b_BlockCodeModel_ends 9 = .ok (.if_icmp .ne 7, 3) := by decide +kernel
theorem d_BlockCodeModel_ends_12 : decode b_BlockCodeModel_ends 12 = .ok (.iconst 1, 1) := by decide +kernel
theorem d_BlockCodeModel_ends_13 : decode b_BlockCodeModel_ends 13 = .ok (.goto 4, 3) := by decide +kernel
theorem d_BlockCodeModel_ends_16 : decode b_BlockCodeModel_ends 16 = .ok (.iconst 0, 1) := by decide +kernel
theorem d_BlockCodeModel_ends_17 : decode b_BlockCodeModel_ends 17 = .ok (.ireturn, 1) := by decide +kernel
theorem d_BlockCodeModel_findLeaders_0 : decode b_BlockCodeModel_findLeaders 0 = .ok (.iconst 0, 1) := by decide +kernel
theorem d_BlockCodeModel_findLeaders_1 : decode b_BlockCodeModel_findLeaders 1 = .ok (.istore_n 1, 1) := by decide +kernel
theorem d_BlockCodeModel_findLeaders_2 : decode b_BlockCodeModel_findLeaders 2 = .ok (.iload_n 1, 1) := by decide +kernel
theorem d_BlockCodeModel_findLeaders_3 : decode b_BlockCodeModel_findLeaders 3 = .ok (.bipush 20, 2) := by decide +kernel
theorem d_BlockCodeModel_findLeaders_5 : decode b_BlockCodeModel_findLeaders 5 = .ok (.if_icmp .gt 24, 3) := by decide +kernel
theorem d_BlockCodeModel_findLeaders_8 : decode b_BlockCodeModel_findLeaders 8 = .ok (.aload_n 0, 1) := by decide +kernel
theorem d_BlockCodeModel_findLeaders_9 : decode b_BlockCodeModel_findLeaders 9 = .ok (.getfield 29, 3) := by decide +kernel
theorem d_BlockCodeModel_findLeaders_12 : decode b_BlockCodeModel_findLeaders 12 = .ok (.iload_n 1, 1) := by decide +kernel
theorem d_BlockCodeModel_findLeaders_13 : decode b_BlockCodeModel_findLeaders 13 = .ok (.iload_n 1, 1) := by decide +kernel
theorem d_BlockCodeModel_findLeaders_14 : decode b_BlockCodeModel_findLeaders 14 = .ok (.ifCond .ne 7, 3) := by decide +kernel
theorem d_BlockCodeModel_findLeaders_17 : decode b_BlockCodeModel_findLeaders 17 = .ok (.iconst 1, 1) := by decide +kernel
theorem d_BlockCodeModel_findLeaders_18 : decode b_BlockCodeModel_findLeaders 18 = .ok (.goto 4, 3) := by decide +kernel
theorem d_BlockCodeModel_findLeaders_21 : decode b_BlockCodeModel_findLeaders 21 = .ok (.iconst 0, 1) := by decide +kernel
theorem d_BlockCodeModel_findLeaders_22 : decode b_BlockCodeModel_findLeaders 22 = .ok (.bastore, 1) := by decide +kernel
theorem d_BlockCodeModel_findLeaders_23 : decode b_BlockCodeModel_findLeaders 23 = .ok (.iinc 1 1, 3) := by decide +kernel
theorem d_BlockCodeModel_findLeaders_26 : decode b_BlockCodeModel_findLeaders 26 = .ok (.goto (-24), 3) := by decide +kernel
theorem d_BlockCodeModel_findLeaders_29 : decode b_BlockCodeModel_findLeaders 29 = .ok (.iconst 0, 1) := by decide +kernel
theorem d_BlockCodeModel_findLeaders_30 : decode b_BlockCodeModel_findLeaders 30 = .ok (.istore_n 1, 1) := by decide +kernel
theorem d_BlockCodeModel_findLeaders_31 : decode b_BlockCodeModel_findLeaders 31 = .ok (.iload_n 1, 1) := by decide +kernel
theorem d_BlockCodeModel_findLeaders_32 : decode b_BlockCodeModel_findLeaders 32 = .ok (.aload_n 0, 1) := by decide +kernel
theorem d_BlockCodeModel_findLeaders_33 : decode b_BlockCodeModel_findLeaders 33 = .ok (.getfield 85, 3) := by decide +kernel
theorem d_BlockCodeModel_findLeaders_36 : decode b_BlockCodeModel_findLeaders 36 = .ok (.if_icmp .ge 77, 3) := by decide +kernel
theorem d_BlockCodeModel_findLeaders_39 : decode b_BlockCodeModel_findLeaders 39 = .ok (.aload_n 0, 1) := by decide +kernel
theorem d_BlockCodeModel_findLeaders_40 : decode b_BlockCodeModel_findLeaders 40 = .ok (.getfield 7, 3) := by decide +kernel
theorem d_BlockCodeModel_findLeaders_43 : decode b_BlockCodeModel_findLeaders 43 = .ok (.iconst 4, 1) := by decide +kernel
theorem d_BlockCodeModel_findLeaders_44 : decode b_BlockCodeModel_findLeaders 44 = .ok (.iload_n 1, 1) := by decide +kernel
theorem d_BlockCodeModel_findLeaders_45 : decode b_BlockCodeModel_findLeaders 45 = .ok (.imul, 1) := by decide +kernel
theorem d_BlockCodeModel_findLeaders_46 : decode b_BlockCodeModel_findLeaders 46 = .ok (.iaload, 1) := by decide +kernel
theorem d_BlockCodeModel_findLeaders_47 : decode b_BlockCodeModel_findLeaders 47 = .ok (.istore_n 2, 1) := by decide +kernel
theorem d_BlockCodeModel_findLeaders_48 : decode b_BlockCodeModel_findLeaders 48 = .ok (.iload_n 2, 1) := by decide +kernel
theorem d_BlockCodeModel_findLeaders_49 : decode b_BlockCodeModel_findLeaders 49 = .ok (.bipush 8, 2) := by decide +kernel
theorem d_BlockCodeModel_findLeaders_51 : decode b_BlockCodeModel_findLeaders 51 = .ok (.if_icmp .ne 19, 3) := by decide +kernel
theorem d_BlockCodeModel_findLeaders_54 : decode b_BlockCodeModel_findLeaders 54 = .ok (.aload_n 0, 1) := by decide +kernel
theorem d_BlockCodeModel_findLeaders_55 : decode b_BlockCodeModel_findLeaders 55 = .ok (.getfield 29, 3) := by decide +kernel
theorem d_BlockCodeModel_findLeaders_58 : decode b_BlockCodeModel_findLeaders 58 = .ok (.aload_n 0, 1) := by decide +kernel
theorem d_BlockCodeModel_findLeaders_59 : decode b_BlockCodeModel_findLeaders 59 = .ok (.getfield 7, 3) := by decide +kernel
theorem d_BlockCodeModel_findLeaders_62 : decode b_BlockCodeModel_findLeaders 62 = .ok (.iconst 4, 1) := by decide +kernel
theorem d_BlockCodeModel_findLeaders_63 : decode b_BlockCodeModel_findLeaders 63 = .ok (.iload_n 1, 1) := by decide +kernel
theorem d_BlockCodeModel_findLeaders_64 : decode b_BlockCodeModel_findLeaders 64 = .ok (.imul, 1) := by decide +kernel
theorem d_BlockCodeModel_findLeaders_65 : decode b_BlockCodeModel_findLeaders 65 = .ok (.iconst 2, 1) := by decide +kernel
theorem d_BlockCodeModel_findLeaders_66 : decode b_BlockCodeModel_findLeaders 66 = .ok (.iadd, 1) := by decide +kernel
theorem d_BlockCodeModel_findLeaders_67 : decode b_BlockCodeModel_findLeaders 67 = .ok (.iaload, 1) := by decide +kernel
theorem d_BlockCodeModel_findLeaders_68 : decode b_BlockCodeModel_findLeaders 68 = .ok (.iconst 1, 1) := by decide +kernel
theorem d_BlockCodeModel_findLeaders_69 : decode b_BlockCodeModel_findLeaders 69 = .ok (.bastore, 1) := by decide +kernel
theorem d_BlockCodeModel_findLeaders_70 : decode b_BlockCodeModel_findLeaders 70 = .ok (.iload_n 2, 1) := by decide +kernel
theorem d_BlockCodeModel_findLeaders_71 : decode b_BlockCodeModel_findLeaders 71 = .ok (.bipush 9, 2) := by decide +kernel
theorem d_BlockCodeModel_findLeaders_73 : decode b_BlockCodeModel_findLeaders 73 = .ok (.if_icmp .ne 19, 3) := by decide +kernel
theorem d_BlockCodeModel_findLeaders_76 : decode b_BlockCodeModel_findLeaders 76 = .ok (.aload_n 0, 1) := by decide +kernel
theorem d_BlockCodeModel_findLeaders_77 : decode b_BlockCodeModel_findLeaders 77 = .ok (.getfield 29, 3) := by decide +kernel
theorem d_BlockCodeModel_findLeaders_80 : decode b_BlockCodeModel_findLeaders 80 = .ok (.aload_n 0, 1) := by decide +kernel
theorem d_BlockCodeModel_findLeaders_81 : decode b_BlockCodeModel_findLeaders 81 = .ok (.getfield 7, 3) := by decide +kernel
theorem d_BlockCodeModel_findLeaders_84 : decode b_BlockCodeModel_findLeaders 84 = .ok (.iconst 4, 1) := by decide +kernel
theorem d_BlockCodeModel_findLeaders_85 : decode b_BlockCodeModel_findLeaders 85 = .ok (.iload_n 1, 1) := by decide +kernel
theorem d_BlockCodeModel_findLeaders_86 : decode b_BlockCodeModel_findLeaders 86 = .ok (.imul, 1) := by decide +kernel
theorem d_BlockCodeModel_findLeaders_87 : decode b_BlockCodeModel_findLeaders 87 = .ok (.iconst 3, 1) := by decide +kernel
theorem d_BlockCodeModel_findLeaders_88 : decode b_BlockCodeModel_findLeaders 88 = .ok (.iadd, 1) := by decide +kernel
theorem d_BlockCodeModel_findLeaders_89 : decode b_BlockCodeModel_findLeaders 89 = .ok (.iaload, 1) := by decide +kernel
theorem d_BlockCodeModel_findLeaders_90 : decode b_BlockCodeModel_findLeaders 90 = .ok (.iconst 1, 1) := by decide +kernel
theorem d_BlockCodeModel_findLeaders_91 : decode b_BlockCodeModel_findLeaders 91 = .ok (.bastore, 1) := by decide +kernel
theorem d_BlockCodeModel_findLeaders_92 : decode b_BlockCodeModel_findLeaders 92 = .ok (.iload_n 2, 1) := by decide +kernel
theorem d_BlockCodeModel_findLeaders_93 : decode b_BlockCodeModel_findLeaders 93 = .ok (.bipush 8, 2) := by decide +kernel
theorem d_BlockCodeModel_findLeaders_95 : decode b_BlockCodeModel_findLeaders 95 = .ok (.if_icmp .lt 12, 3) := by decide +kernel
theorem d_BlockCodeModel_findLeaders_98 : decode b_BlockCodeModel_findLeaders 98 = .ok (.aload_n 0, 1) := by decide +kernel
theorem d_BlockCodeModel_findLeaders_99 : decode b_BlockCodeModel_findLeaders 99 = .ok (.getfield 29, 3) := by decide +kernel
theorem d_BlockCodeModel_findLeaders_102 : decode b_BlockCodeModel_findLeaders 102 = .ok (.iload_n 1, 1) := by decide +kernel
theorem d_BlockCodeModel_findLeaders_103 : decode b_BlockCodeModel_findLeaders 103 = .ok (.iconst 1, 1) := by decide +kernel
theorem d_BlockCodeModel_findLeaders_104 : decode b_BlockCodeModel_findLeaders 104 = .ok (.iadd, 1) := by decide +kernel
theorem d_BlockCodeModel_findLeaders_105 : decode b_BlockCodeModel_findLeaders 105 = .ok (.iconst 1, 1) := by decide +kernel
theorem d_BlockCodeModel_findLeaders_106 : decode b_BlockCodeModel_findLeaders 106 = .ok (.bastore, 1) := by decide +kernel
theorem d_BlockCodeModel_findLeaders_107 : decode b_BlockCodeModel_findLeaders 107 = .ok (.iinc 1 1, 3) := by decide +kernel
theorem d_BlockCodeModel_findLeaders_110 : decode b_BlockCodeModel_findLeaders 110 = .ok (.goto (-79), 3) := by decide +kernel
theorem d_BlockCodeModel_findLeaders_113 : decode b_BlockCodeModel_findLeaders 113 = .ok (.return_, 1) := by decide +kernel
theorem d_BlockCodeModel_seal_0 : decode b_BlockCodeModel_seal 0 = .ok (.aload_n 0, 1) := by decide +kernel
theorem d_BlockCodeModel_seal_1 : decode b_BlockCodeModel_seal 1 = .ok (.aload_n 0, 1) := by decide +kernel
theorem d_BlockCodeModel_seal_2 : decode b_BlockCodeModel_seal 2 = .ok (.getfield 77, 3) := by decide +kernel
theorem d_BlockCodeModel_seal_5 : decode b_BlockCodeModel_seal 5 = .ok (.ifCond .eq 7, 3) := by decide +kernel
theorem d_BlockCodeModel_seal_8 : decode b_BlockCodeModel_seal 8 = .ok (.iconst 1, 1) := by decide +kernel
theorem d_BlockCodeModel_seal_9 : decode b_BlockCodeModel_seal 9 = .ok (.goto 4, 3) := by decide +kernel
theorem d_BlockCodeModel_seal_12 : decode b_BlockCodeModel_seal 12 = .ok (.iconst 0, 1) := by decide +kernel
theorem d_BlockCodeModel_seal_13 : decode b_BlockCodeModel_seal 13 = .ok (.putfield 65, 3) := by decide +kernel
theorem d_BlockCodeModel_seal_16 : decode b_BlockCodeModel_seal 16 = .ok (.aload_n 0, 1) := by decide +kernel
theorem d_BlockCodeModel_seal_17 : decode b_BlockCodeModel_seal 17 = .ok (.getfield 77, 3) := by decide +kernel
theorem d_BlockCodeModel_seal_20 : decode b_BlockCodeModel_seal 20 = .ok (.ifCond .eq 5, 3) := by decide +kernel
theorem d_BlockCodeModel_seal_23 : decode b_BlockCodeModel_seal 23 = .ok (.iconst 0, 1) := by decide +kernel
theorem d_BlockCodeModel_seal_24 : decode b_BlockCodeModel_seal 24 = .ok (.ireturn, 1) := by decide +kernel
theorem d_BlockCodeModel_seal_25 : decode b_BlockCodeModel_seal 25 = .ok (.aload_n 0, 1) := by decide +kernel
theorem d_BlockCodeModel_seal_26 : decode b_BlockCodeModel_seal 26 = .ok (.getfield 85, 3) := by decide +kernel
theorem d_BlockCodeModel_seal_29 : decode b_BlockCodeModel_seal 29 = .ok (.ifCond .eq 22, 3) := by decide +kernel
theorem d_BlockCodeModel_seal_32 : decode b_BlockCodeModel_seal 32 = .ok (.aload_n 0, 1) := by decide +kernel
theorem d_BlockCodeModel_seal_33 : decode b_BlockCodeModel_seal 33 = .ok (.getfield 7, 3) := by decide +kernel
theorem d_BlockCodeModel_seal_36 : decode b_BlockCodeModel_seal 36 = .ok (.iconst 4, 1) := by decide +kernel
theorem d_BlockCodeModel_seal_37 : decode b_BlockCodeModel_seal 37 = .ok (.aload_n 0, 1) := by decide +kernel
theorem d_BlockCodeModel_seal_38 : decode b_BlockCodeModel_seal 38 = .ok (.getfield 85, 3) := by decide +kernel
theorem d_BlockCodeModel_seal_41 : decode b_BlockCodeModel_seal 41 = .ok (.imul, 1) := by decide +kernel
theorem d_BlockCodeModel_seal_42 : decode b_BlockCodeModel_seal 42 = .ok (.iconst 4, 1) := by decide +kernel
theorem d_BlockCodeModel_seal_43 : decode b_BlockCodeModel_seal 43 = .ok (.isub, 1) := by decide +kernel
theorem d_BlockCodeModel_seal_44 : decode b_BlockCodeModel_seal 44 = .ok (.iaload, 1) := by decide +kernel
theorem d_BlockCodeModel_seal_45 : decode b_BlockCodeModel_seal 45 = .ok (.invokestatic 95, 3) := by decide +kernel
theorem d_BlockCodeModel_seal_48 : decode b_BlockCodeModel_seal 48 = .ok (.ifCond .ne 5, 3) := by decide +kernel
theorem d_BlockCodeModel_seal_51 : decode b_BlockCodeModel_seal 51 = .ok (.iconst (-1), 1) := by decide +kernel
theorem d_BlockCodeModel_seal_52 : decode b_BlockCodeModel_seal 52 = .ok (.ireturn, 1) := by decide +kernel
theorem d_BlockCodeModel_seal_53 : decode b_BlockCodeModel_seal 53 = .ok (.iconst 0, 1) := by decide +kernel
theorem d_BlockCodeModel_seal_54 : decode b_BlockCodeModel_seal 54 = .ok (.istore_n 1, 1) := by decide +kernel
theorem d_BlockCodeModel_seal_55 : decode b_BlockCodeModel_seal 55 = .ok (.iload_n 1, 1) := by decide +kernel
theorem d_BlockCodeModel_seal_56 : decode b_BlockCodeModel_seal 56 = .ok (.aload_n 0, 1) := by decide +kernel
theorem d_BlockCodeModel_seal_57 : decode b_BlockCodeModel_seal 57 = .ok (.getfield 85, 3) := by decide +kernel
theorem d_BlockCodeModel_seal_60 : decode b_BlockCodeModel_seal 60 = .ok (.if_icmp .ge 71, 3) := by decide +kernel
theorem d_BlockCodeModel_seal_63 : decode b_BlockCodeModel_seal 63 = .ok (.aload_n 0, 1) := by decide +kernel
theorem d_BlockCodeModel_seal_64 : decode b_BlockCodeModel_seal 64 = .ok (.getfield 7, 3) := by decide +kernel
theorem d_BlockCodeModel_seal_67 : decode b_BlockCodeModel_seal 67 = .ok (.iconst 4, 1) := by decide +kernel
theorem d_BlockCodeModel_seal_68 : decode b_BlockCodeModel_seal 68 = .ok (.iload_n 1, 1) := by decide +kernel
theorem d_BlockCodeModel_seal_69 : decode b_BlockCodeModel_seal 69 = .ok (.imul, 1) := by decide +kernel
theorem d_BlockCodeModel_seal_70 : decode b_BlockCodeModel_seal 70 = .ok (.iaload, 1) := by decide +kernel
theorem d_BlockCodeModel_seal_71 : decode b_BlockCodeModel_seal 71 = .ok (.bipush 8, 2) := by decide +kernel
theorem d_BlockCodeModel_seal_73 : decode b_BlockCodeModel_seal 73 = .ok (.if_icmp .ne 20, 3) := by decide +kernel
theorem d_BlockCodeModel_seal_76 : decode b_BlockCodeModel_seal 76 = .ok (.aload_n 0, 1) := by decide +kernel
theorem d_BlockCodeModel_seal_77 : decode b_BlockCodeModel_seal 77 = .ok (.getfield 7, 3) := by decide +kernel
theorem d_BlockCodeModel_seal_80 : decode b_BlockCodeModel_seal 80 = .ok (.iconst 4, 1) := by decide +kernel
theorem d_BlockCodeModel_seal_81 : decode b_BlockCodeModel_seal 81 = .ok (.iload_n 1, 1) := by decide +kernel
theorem d_BlockCodeModel_seal_82 : decode b_BlockCodeModel_seal 82 = .ok (.imul, 1) := by decide +kernel
theorem d_BlockCodeModel_seal_83 : decode b_BlockCodeModel_seal 83 = .ok (.iconst 2, 1) := by decide +kernel
theorem d_BlockCodeModel_seal_84 : decode b_BlockCodeModel_seal 84 = .ok (.iadd, 1) := by decide +kernel
theorem d_BlockCodeModel_seal_85 : decode b_BlockCodeModel_seal 85 = .ok (.iaload, 1) := by decide +kernel
theorem d_BlockCodeModel_seal_86 : decode b_BlockCodeModel_seal 86 = .ok (.aload_n 0, 1) := by decide +kernel
theorem d_BlockCodeModel_seal_87 : decode b_BlockCodeModel_seal 87 = .ok (.getfield 85, 3) := by decide +kernel
theorem d_BlockCodeModel_seal_90 : decode b_BlockCodeModel_seal 90 = .ok (.if_icmp .ge 33, 3) := by decide +kernel
theorem d_BlockCodeModel_seal_93 : decode b_BlockCodeModel_seal 93 = .ok (.aload_n 0, 1) := by decide +kernel
theorem d_BlockCodeModel_seal_94 : decode b_BlockCodeModel_seal 94 = .ok (.getfield 7, 3) := by decide +kernel
theorem d_BlockCodeModel_seal_97 : decode b_BlockCodeModel_seal 97 = .ok (.iconst 4, 1) := by decide +kernel
theorem d_BlockCodeModel_seal_98 : decode b_BlockCodeModel_seal 98 = .ok (.iload_n 1, 1) := by decide +kernel
theorem d_BlockCodeModel_seal_99 : decode b_BlockCodeModel_seal 99 = .ok (.imul, 1) := by decide +kernel
theorem d_BlockCodeModel_seal_100 : decode b_BlockCodeModel_seal 100 = .ok (.iaload, 1) := by decide +kernel
theorem d_BlockCodeModel_seal_101 : decode b_BlockCodeModel_seal 101 = .ok (.bipush 9, 2) := by decide +kernel
theorem d_BlockCodeModel_seal_103 : decode b_BlockCodeModel_seal 103 = .ok (.if_icmp .ne 22, 3) := by decide +kernel
theorem d_BlockCodeModel_seal_106 : decode b_BlockCodeModel_seal 106 = .ok (.aload_n 0, 1) := by decide +kernel
theorem d_BlockCodeModel_seal_107 : decode b_BlockCodeModel_seal 107 = .ok (.getfield 7, 3) := by decide +kernel
theorem d_BlockCodeModel_seal_110 : decode b_BlockCodeModel_seal 110 = .ok (.iconst 4, 1) := by decide +kernel
theorem d_BlockCodeModel_seal_111 : decode b_BlockCodeModel_seal 111 = .ok (.iload_n 1, 1) := by decide +kernel
theorem d_BlockCodeModel_seal_112 : decode b_BlockCodeModel_seal 112 = .ok (.imul, 1) := by decide +kernel
theorem d_BlockCodeModel_seal_113 : decode b_BlockCodeModel_seal 113 = .ok (.iconst 3, 1) := by decide +kernel
theorem d_BlockCodeModel_seal_114 : decode b_BlockCodeModel_seal 114 = .ok (.iadd, 1) := by decide +kernel
theorem d_BlockCodeModel_seal_115 : decode b_BlockCodeModel_seal 115 = .ok (.iaload, 1) := by decide +kernel
theorem d_BlockCodeModel_seal_116 : decode b_BlockCodeModel_seal 116 = .ok (.aload_n 0, 1) := by decide +kernel
theorem d_BlockCodeModel_seal_117 : decode b_BlockCodeModel_seal 117 = .ok (.getfield 85, 3) := by decide +kernel
theorem d_BlockCodeModel_seal_120 : decode b_BlockCodeModel_seal 120 = .ok (.if_icmp .lt 5, 3) := by decide +kernel
theorem d_BlockCodeModel_seal_123 : decode b_BlockCodeModel_seal 123 = .ok (.iconst (-1), 1) := by decide +kernel
theorem d_BlockCodeModel_seal_124 : decode b_BlockCodeModel_seal 124 = .ok (.ireturn, 1) := by decide +kernel
theorem d_BlockCodeModel_seal_125 : decode b_BlockCodeModel_seal 125 = .ok (.iinc 1 1, 3) := by decide +kernel
theorem d_BlockCodeModel_seal_128 : decode b_BlockCodeModel_seal 128 = .ok (.goto (-73), 3) := by decide +kernel
theorem d_BlockCodeModel_seal_131 : decode b_BlockCodeModel_seal 131 = .ok (.aload_n 0, 1) := by decide +kernel
theorem d_BlockCodeModel_seal_132 : decode b_BlockCodeModel_seal 132 = .ok (.iconst 1, 1) := by decide +kernel
theorem d_BlockCodeModel_seal_133 : decode b_BlockCodeModel_seal 133 = .ok (.putfield 77, 3) := by decide +kernel
theorem d_BlockCodeModel_seal_136 : decode b_BlockCodeModel_seal 136 = .ok (.aload_n 0, 1) := by decide +kernel
theorem d_BlockCodeModel_seal_137 : decode b_BlockCodeModel_seal 137 = .ok (.iconst 0, 1) := by decide +kernel
theorem d_BlockCodeModel_seal_138 : decode b_BlockCodeModel_seal 138 = .ok (.putfield 92, 3) := by decide +kernel
theorem d_BlockCodeModel_seal_141 : decode b_BlockCodeModel_seal 141 = .ok (.aload_n 0, 1) := by decide +kernel
theorem d_BlockCodeModel_seal_142 : decode b_BlockCodeModel_seal 142 = .ok (.iconst 0, 1) := by decide +kernel
theorem d_BlockCodeModel_seal_143 : decode b_BlockCodeModel_seal 143 = .ok (.iconst 1, 1) := by decide +kernel
theorem d_BlockCodeModel_seal_144 : decode b_BlockCodeModel_seal 144 = .ok (.invokevirtual 99, 3) := by decide +kernel
theorem d_BlockCodeModel_seal_147 : decode b_BlockCodeModel_seal 147 = .ok (.aload_n 0, 1) := by decide +kernel
theorem d_BlockCodeModel_seal_148 : decode b_BlockCodeModel_seal 148 = .ok (.invokevirtual 103, 3) := by decide +kernel
theorem d_BlockCodeModel_seal_151 : decode b_BlockCodeModel_seal 151 = .ok (.iconst 0, 1) := by decide +kernel
theorem d_BlockCodeModel_seal_152 : decode b_BlockCodeModel_seal 152 = .ok (.istore_n 1, 1) := by decide +kernel
theorem d_BlockCodeModel_seal_153 : decode b_BlockCodeModel_seal 153 = .ok (.iconst 0, 1) := by decide +kernel
theorem d_BlockCodeModel_seal_154 : decode b_BlockCodeModel_seal 154 = .ok (.istore_n 2, 1) := by decide +kernel
theorem d_BlockCodeModel_seal_155 : decode b_BlockCodeModel_seal 155 = .ok (.iload_n 2, 1) := by decide +kernel
theorem d_BlockCodeModel_seal_156 : decode b_BlockCodeModel_seal 156 = .ok (.aload_n 0, 1) := by decide +kernel
theorem d_BlockCodeModel_seal_157 : decode b_BlockCodeModel_seal 157 = .ok (.getfield 85, 3) := by decide +kernel
theorem d_BlockCodeModel_seal_160 : decode b_BlockCodeModel_seal 160 = .ok (.if_icmp .ge 21, 3) := by decide +kernel
theorem d_BlockCodeModel_seal_163 : decode b_BlockCodeModel_seal 163 = .ok (.aload_n 0, 1) := by decide +kernel
theorem d_BlockCodeModel_seal_164 : decode b_BlockCodeModel_seal 164 = .ok (.getfield 29, 3) := by decide +kernel
theorem d_BlockCodeModel_seal_167 : decode b_BlockCodeModel_seal 167 = .ok (.iload_n 2, 1) := by decide +kernel
theorem d_BlockCodeModel_seal_168 : decode b_BlockCodeModel_seal 168 = .ok (.baload, 1) := by decide +kernel
theorem d_BlockCodeModel_seal_169 : decode b_BlockCodeModel_seal 169 = .ok (.ifCond .eq 6, 3) := by decide +kernel
theorem d_BlockCodeModel_seal_172 : decode b_BlockCodeModel_seal 172 = .ok (.iinc 1 1, 3) := by decide +kernel
theorem d_BlockCodeModel_seal_175 : decode b_BlockCodeModel_seal 175 = .ok (.iinc 2 1, 3) := by decide +kernel
theorem d_BlockCodeModel_seal_178 : decode b_BlockCodeModel_seal 178 = .ok (.goto (-23), 3) := by decide +kernel
theorem d_BlockCodeModel_seal_181 : decode b_BlockCodeModel_seal 181 = .ok (.iload_n 1, 1) := by decide +kernel
theorem d_BlockCodeModel_seal_182 : decode b_BlockCodeModel_seal 182 = .ok (.ireturn, 1) := by decide +kernel
theorem d_BlockCodeModel_size_0 : decode b_BlockCodeModel_size 0 = .ok (.aload_n 0, 1) := by decide +kernel
theorem d_BlockCodeModel_size_1 : decode b_BlockCodeModel_size 1 = .ok (.iconst 0, 1) := by decide +kernel
theorem d_BlockCodeModel_size_2 : decode b_BlockCodeModel_size 2 = .ok (.putfield 65, 3) := by decide +kernel
theorem d_BlockCodeModel_size_5 : decode b_BlockCodeModel_size 5 = .ok (.aload_n 0, 1) := by decide +kernel
theorem d_BlockCodeModel_size_6 : decode b_BlockCodeModel_size 6 = .ok (.getfield 85, 3) := by decide +kernel
theorem d_BlockCodeModel_size_9 : decode b_BlockCodeModel_size 9 = .ok (.ireturn, 1) := by decide +kernel
