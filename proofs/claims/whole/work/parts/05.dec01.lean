theorem d_BlockCode_makesRegister_0 : decode b_BlockCode_makesRegister 0 = .ok (.iload_n 0, 1) := by decide +kernel
theorem d_BlockCode_makesRegister_1 : decode b_BlockCode_makesRegister 1 = .ok (.iconst 1, 1) := by decide +kernel
theorem d_BlockCode_makesRegister_2 : decode b_BlockCode_makesRegister 2 = .ok (.if_icmp .lt 13, 3) := by decide +kernel
theorem d_BlockCode_makesRegister_5 : decode b_BlockCode_makesRegister 5 = .ok (.iload_n 0, 1) := by decide +kernel
theorem d_BlockCode_makesRegister_6 : decode b_BlockCode_makesRegister 6 = .ok (.bipush 7, 2) := by decide +kernel
theorem d_BlockCode_makesRegister_8 : decode b_BlockCode_makesRegister 8 = .ok (.if_icmp .gt 7, 3) := by decide +kernel
theorem d_BlockCode_makesRegister_11 : decode b_BlockCode_makesRegister 11 = .ok (.iconst 1, 1) := by decide +kernel
theorem d_BlockCode_makesRegister_12 : decode b_BlockCode_makesRegister 12 = .ok (.goto 4, 3) := by decide +kernel
theorem d_BlockCode_makesRegister_15 : decode b_BlockCode_makesRegister 15 = .ok (.iconst 0, 1) := by decide +kernel
theorem d_BlockCode_makesRegister_16 : decode b_BlockCode_makesRegister 16 = .ok (.ireturn, 1) := by decide +kernel
theorem d_BlockCode_isRegister_0 : decode b_BlockCode_isRegister 0 = .ok (.iload_n 0, 1) := by decide +kernel
theorem d_BlockCode_isRegister_1 : decode b_BlockCode_isRegister 1 = .ok (.ifCond .lt 12, 3) := by decide +kernel
theorem d_BlockCode_isRegister_4 : decode b_BlockCode_isRegister 4 = .ok (.iload_n 0, 1) := by decide +kernel
theorem d_BlockCode_isRegister_5 : decode b_BlockCode_isRegister 5 = .ok (.iconst 5, 1) := by decide +kernel
theorem d_BlockCode_isRegister_6 : decode b_BlockCode_isRegister 6 = .ok (.if_icmp .ge 7, 3) := by decide +kernel
theorem d_BlockCode_isRegister_9 : decode b_BlockCode_isRegister 9 = .ok (.iconst 1, 1) := by decide +kernel
theorem d_BlockCode_isRegister_10 : decode b_BlockCode_isRegister 10 = .ok (.goto 4, 3) := by decide +kernel
theorem d_BlockCode_isRegister_13 : decode b_BlockCode_isRegister 13 = .ok (.iconst 0, 1) := by decide +kernel
theorem d_BlockCode_isRegister_14 : decode b_BlockCode_isRegister 14 = .ok (.ireturn, 1) := by decide +kernel
theorem d_BlockCode_readsA_0 : decode b_BlockCode_readsA 0 = .ok (.iload_n 0, 1) := by decide +kernel
theorem d_BlockCode_readsA_1 : decode b_BlockCode_readsA 1 = .ok (.iconst 2, 1) := by decide +kernel
theorem d_BlockCode_readsA_2 : decode b_BlockCode_readsA 2 = .ok (.if_icmp .lt 9, 3) := by decide +kernel
theorem d_BlockCode_readsA_5 : decode b_BlockCode_readsA 5 = .ok (.iload_n 0, 1) := by decide +kernel
theorem d_BlockCode_readsA_6 : decode b_BlockCode_readsA 6 = .ok (.bipush 7, 2) := by decide +kernel
theorem d_BlockCode_readsA_8 : decode b_BlockCode_readsA 8 = .ok (.if_icmp .le 9, 3) := by decide +kernel
theorem d_BlockCode_readsA_11 : decode b_BlockCode_readsA 11 = .ok (.iload_n 0, 1) := by decide +kernel
theorem d_BlockCode_readsA_12 : decode b_BlockCode_readsA 12 = .ok (.bipush 9, 2) := by decide +kernel
theorem d_BlockCode_readsA_14 : decode b_BlockCode_readsA 14 = .ok (.if_icmp .ne 7, 3) := by decide +kernel
theorem d_BlockCode_readsA_17 : decode b_BlockCode_readsA 17 = .ok (.iconst 1, 1) := by decide +kernel
theorem d_BlockCode_readsA_18 : decode b_BlockCode_readsA 18 = .ok (.goto 4, 3) := by decide +kernel
theorem d_BlockCode_readsA_21 : decode b_BlockCode_readsA 21 = .ok (.iconst 0, 1) := by decide +kernel
theorem d_BlockCode_readsA_22 : decode b_BlockCode_readsA 22 = .ok (.ireturn, 1) := by decide +kernel
theorem d_BlockCode_combines_0 : decode b_BlockCode_combines 0 = .ok (.iload_n 0, 1) := by decide +kernel
theorem d_BlockCode_combines_1 : decode b_BlockCode_combines 1 = .ok (.iconst 3, 1) := by decide +kernel
theorem d_BlockCode_combines_2 : decode b_BlockCode_combines 2 = .ok (.if_icmp .lt 13, 3) := by decide +kernel
theorem d_BlockCode_combines_5 : decode b_BlockCode_combines 5 = .ok (.iload_n 0, 1) := by decide +kernel
theorem d_BlockCode_combines_6 : decode b_BlockCode_combines 6 = .ok (.bipush 7, 2) := by decide +kernel
theorem d_BlockCode_combines_8 : decode b_BlockCode_combines 8 = .ok (.if_icmp .gt 7, 3) := by decide +kernel
theorem d_BlockCode_combines_11 : decode b_BlockCode_combines 11 = .ok (.iconst 1, 1) := by decide +kernel
theorem d_BlockCode_combines_12 : decode b_BlockCode_combines 12 = .ok (.goto 4, 3) := by decide +kernel
theorem d_BlockCode_combines_15 : decode b_BlockCode_combines 15 = .ok (.iconst 0, 1) := by decide +kernel
theorem d_BlockCode_combines_16 : decode b_BlockCode_combines 16 = .ok (.ireturn, 1) := by decide +kernel
theorem d_BlockCode_namedBy_0 : decode b_BlockCode_namedBy 0 = .ok (.iload_n 0, 1) := by decide +kernel
theorem d_BlockCode_namedBy_1 : decode b_BlockCode_namedBy 1 = .ok (.bipush 8, 2) := by decide +kernel
theorem d_BlockCode_namedBy_3 : decode b_BlockCode_namedBy 3 = .ok (.if_icmp .ne 5, 3) := by decide +kernel
theorem d_BlockCode_namedBy_6 : decode b_BlockCode_namedBy 6 = .ok (.iload_n 1, 1) := by decide +kernel
theorem d_BlockCode_namedBy_7 : decode b_BlockCode_namedBy 7 = .ok (.ireturn, 1) := by decide +kernel
theorem d_BlockCode_namedBy_8 : decode b_BlockCode_namedBy 8 = .ok (.iload_n 0, 1) := by decide +kernel
theorem d_BlockCode_namedBy_9 : decode b_BlockCode_namedBy 9 = .ok (.bipush 9, 2) := by decide +kernel
theorem d_BlockCode_namedBy_11 : decode b_BlockCode_namedBy 11 = .ok (.if_icmp .ne 7, 3) := by decide +kernel
theorem d_BlockCode_namedBy_14 : decode b_BlockCode_namedBy 14 = .ok (.iload_n 2, 1) := by decide +kernel
theorem d_BlockCode_namedBy_15 : decode b_BlockCode_namedBy 15 = .ok (.goto 4, 3) := by decide +kernel
theorem d_BlockCode_namedBy_18 : decode b_BlockCode_namedBy 18 = .ok (.iconst (-1), 1) := by decide +kernel
theorem d_BlockCode_namedBy_19 : decode b_BlockCode_namedBy 19 = .ok (.ireturn, 1) := by decide +kernel
theorem d_BlockCode_isPlace_0 : decode b_BlockCode_isPlace 0 = .ok (.iload_n 0, 1) := by decide +kernel
theorem d_BlockCode_isPlace_1 : decode b_BlockCode_isPlace 1 = .ok (.ifCond .lt 13, 3) := by decide +kernel
theorem d_BlockCode_isPlace_4 : decode b_BlockCode_isPlace 4 = .ok (.iload_n 0, 1) := by decide +kernel
theorem d_BlockCode_isPlace_5 : decode b_BlockCode_isPlace 5 = .ok (.bipush 20, 2) := by decide +kernel
theorem d_BlockCode_isPlace_7 : decode b_BlockCode_isPlace 7 = .ok (.if_icmp .ge 7, 3) := by decide +kernel
theorem d_BlockCode_isPlace_10 : decode b_BlockCode_isPlace 10 = .ok (.iconst 1, 1) := by decide +kernel
theorem d_BlockCode_isPlace_11 : decode b_BlockCode_isPlace 11 = .ok (.goto 4, 3) := by decide +kernel
theorem d_BlockCode_isPlace_14 : decode b_BlockCode_isPlace 14 = .ok (.iconst 0, 1) := by decide +kernel
theorem d_BlockCode_isPlace_15 : decode b_BlockCode_isPlace 15 = .ok (.ireturn, 1) := by decide +kernel
theorem d_BlockCode_hasForm_0 : decode b_BlockCode_hasForm 0 = .ok (.iload_n 0, 1) := by decide +kernel
theorem d_BlockCode_hasForm_1 : decode b_BlockCode_hasForm 1 = .ok (.ifCond .lt 9, 3) := by decide +kernel
theorem d_BlockCode_hasForm_4 : decode b_BlockCode_hasForm 4 = .ok (.iload_n 0, 1) := by decide +kernel
theorem d_BlockCode_hasForm_5 : decode b_BlockCode_hasForm 5 = .ok (.bipush 10, 2) := by decide +kernel
theorem d_BlockCode_hasForm_7 : decode b_BlockCode_hasForm 7 = .ok (.if_icmp .le 5, 3) := by decide +kernel
theorem d_BlockCode_hasForm_10 : decode b_BlockCode_hasForm 10 = .ok (.iconst 0, 1) := by decide +kernel
theorem d_BlockCode_hasForm_11 : decode b_BlockCode_hasForm 11 = .ok (.ireturn, 1) := by decide +kernel
theorem d_BlockCode_hasForm_12 : decode b_BlockCode_hasForm 12 = .ok (.iload_n 0, 1) := by decide +kernel
theorem d_BlockCode_hasForm_13 : decode b_BlockCode_hasForm 13 = .ok (.invokestatic 153, 3) := by decide +kernel
theorem d_BlockCode_hasForm_16 : decode b_BlockCode_hasForm 16 = .ok (.ifCond .eq 12, 3) := by decide +kernel
theorem d_BlockCode_hasForm_19 : decode b_BlockCode_hasForm 19 = .ok (.iload_n 1, 1) := by decide +kernel
theorem d_BlockCode_hasForm_20 : decode b_BlockCode_hasForm 20 = .ok (.invokestatic 107, 3) := by decide +kernel
theorem d_BlockCode_hasForm_23 : decode b_BlockCode_hasForm 23 = .ok (.ifCond .ne 5, 3) := by decide +kernel
theorem d_BlockCode_hasForm_26 : decode b_BlockCode_hasForm 26 = .ok (.iconst 0, 1) := by decide +kernel
theorem d_BlockCode_hasForm_27 : decode b_BlockCode_hasForm 27 = .ok (.ireturn, 1) := by decide +kernel
theorem d_BlockCode_hasForm_28 : decode b_BlockCode_hasForm 28 = .ok (.iload_n 0, 1) := by decide +kernel
theorem d_BlockCode_hasForm_29 : decode b_BlockCode_hasForm 29 = .ok (.invokestatic 261, 3) := by decide +kernel
theorem d_BlockCode_hasForm_32 : decode b_BlockCode_hasForm 32 = .ok (.ifCond .eq 12, 3) := by decide +kernel
theorem d_BlockCode_hasForm_35 : decode b_BlockCode_hasForm 35 = .ok (.iload_n 2, 1) := by decide +kernel
theorem d_BlockCode_hasForm_36 : decode b_BlockCode_hasForm 36 = .ok (.invokestatic 107, 3) := by decide +kernel
theorem d_BlockCode_hasForm_39 : decode b_BlockCode_hasForm 39 = .ok (.ifCond .ne 5, 3) := by decide +kernel
theorem d_BlockCode_hasForm_42 : decode b_BlockCode_hasForm 42 = .ok (.iconst 0, 1) := by decide +kernel
theorem d_BlockCode_hasForm_43 : decode b_BlockCode_hasForm 43 = .ok (.ireturn, 1) := by decide +kernel
theorem d_BlockCode_hasForm_44 : decode b_BlockCode_hasForm 44 = .ok (.iload_n 0, 1) := by decide +kernel
theorem d_BlockCode_hasForm_45 : decode b_BlockCode_hasForm 45 = .ok (.invokestatic 222, 3) := by decide +kernel
theorem d_BlockCode_hasForm_48 : decode b_BlockCode_hasForm 48 = .ok (.ifCond .eq 12, 3) := by decide +kernel
theorem d_BlockCode_hasForm_51 : decode b_BlockCode_hasForm 51 = .ok (.iload_n 3, 1) := by decide +kernel
theorem d_BlockCode_hasForm_52 : decode b_BlockCode_hasForm 52 = .ok (.invokestatic 107, 3) := by decide +kernel
theorem d_BlockCode_hasForm_55 : decode b_BlockCode_hasForm 55 = .ok (.ifCond .ne 5, 3) := by decide +kernel
theorem d_BlockCode_hasForm_58 : decode b_BlockCode_hasForm 58 = .ok (.iconst 0, 1) := by decide +kernel
theorem d_BlockCode_hasForm_59 : decode b_BlockCode_hasForm 59 = .ok (.ireturn, 1) := by decide +kernel
theorem d_BlockCode_hasForm_60 : decode b_BlockCode_hasForm 60 = .ok (.iload_n 0, 1) := by decide +kernel
theorem d_BlockCode_hasForm_61 : decode b_BlockCode_hasForm 61 = .ok (.bipush 8, 2) := by decide +kernel
theorem d_BlockCode_hasForm_63 : decode b_BlockCode_hasForm 63 = .ok (.if_icmp .eq 9, 3) := by decide +kernel
theorem d_BlockCode_hasForm_66 : decode b_BlockCode_hasForm 66 = .ok (.iload_n 0, 1) := by decide +kernel
theorem d_BlockCode_hasForm_67 : decode b_BlockCode_hasForm 67 = .ok (.bipush 9, 2) := by decide +kernel
theorem d_BlockCode_hasForm_69 : decode b_BlockCode_hasForm 69 = .ok (.if_icmp .ne 13, 3) := by decide +kernel
theorem d_BlockCode_hasForm_72 : decode b_BlockCode_hasForm 72 = .ok (.iload_n 0, 1) := by decide +kernel
theorem d_BlockCode_hasForm_73 : decode b_BlockCode_hasForm 73 = .ok (.iload_n 2, 1) := by decide +kernel
theorem d_BlockCode_hasForm_74 : decode b_BlockCode_hasForm 74 = .ok (.iload_n 3, 1) := by decide +kernel
theorem d_BlockCode_hasForm_75 : decode b_BlockCode_hasForm 75 = .ok (.invokestatic 163, 3) := by decide +kernel
theorem d_BlockCode_hasForm_78 : decode b_BlockCode_hasForm 78 = .ok (.invokestatic 264, 3) := by decide +kernel
theorem d_BlockCode_hasForm_81 : decode b_BlockCode_hasForm 81 = .ok (.ireturn, 1) := by decide +kernel
theorem d_BlockCode_hasForm_82 : decode b_BlockCode_hasForm 82 = .ok (.iload_n 0, 1) := by decide +kernel
theorem d_BlockCode_hasForm_83 : decode b_BlockCode_hasForm 83 = .ok (.bipush 10, 2) := by decide +kernel
theorem d_BlockCode_hasForm_85 : decode b_BlockCode_hasForm 85 = .ok (.if_icmp .ne 13, 3) := by decide +kernel
theorem d_BlockCode_hasForm_88 : decode b_BlockCode_hasForm 88 = .ok (.iload_n 2, 1) := by decide +kernel
theorem d_BlockCode_hasForm_89 : decode b_BlockCode_hasForm 89 = .ok (.ifCond .lt 13, 3) := by decide +kernel
theorem d_BlockCode_hasForm_92 : decode b_BlockCode_hasForm 92 = .ok (.iload_n 2, 1) := by decide +kernel
theorem d_BlockCode_hasForm_93 : decode b_BlockCode_hasForm 93 = .ok (.bipush 32, 2) := by decide +kernel
theorem d_BlockCode_hasForm_95 : decode b_BlockCode_hasForm 95 = .ok (.if_icmp .ge 7, 3) := by decide +kernel
theorem d_BlockCode_hasForm_98 : decode b_BlockCode_hasForm 98 = .ok (.iconst 1, 1) := by decide +kernel
theorem d_BlockCode_hasForm_99 : decode b_BlockCode_hasForm 99 = .ok (.goto 4, 3) := by decide +kernel
theorem d_BlockCode_hasForm_102 : decode b_BlockCode_hasForm 102 = .ok (.iconst 0, 1) := by decide +kernel
theorem d_BlockCode_hasForm_103 : decode b_BlockCode_hasForm 103 = .ok (.ireturn, 1) := by decide +kernel
theorem d_Code_put_0 : decode b_Code_put 0 = .ok (.aload_n 0, 1) := by decide +kernel
theorem d_Code_put_1 : decode b_Code_put 1 = .ok (.getfield 9, 3) := by decide +kernel
theorem d_Code_put_4 : decode b_Code_put 4 = .ok (.iload_n 1, 1) := by decide +kernel
theorem d_Code_put_5 : decode b_Code_put 5 = .ok (.iload_n 2, 1) := by decide +kernel
theorem d_Code_put_6 : decode b_Code_put 6 = .ok (.iastore, 1) := by decide +kernel
theorem d_Code_put_7 : decode b_Code_put 7 = .ok (.aload_n 0, 1) := by decide +kernel
theorem d_Code_put_8 : decode b_Code_put 8 = .ok (.getfield 15, 3) := by decide +kernel
theorem d_Code_put_11 : decode b_Code_put 11 = .ok (.iload_n 1, 1) := by decide +kernel
theorem d_Code_put_12 : decode b_Code_put 12 = .ok (.iload_n 2, 1) := by decide +kernel
theorem d_Code_put_13 : decode b_Code_put 13 = .ok (.invokestatic 31, 3) := by decide +kernel
theorem d_Code_put_16 : decode b_Code_put 16 = .ok (.ifCond .eq 7, 3) := by decide +kernel
theorem d_Code_put_19 : decode b_Code_put 19 = .ok (.iload_n 3, 1) := by decide +kernel
theorem d_Code_put_20 : decode b_Code_put 20 = .ok (.goto 4, 3) := by decide +kernel
theorem d_Code_put_23 : decode b_Code_put 23 = .ok (.iconst 0, 1) := by decide +kernel
theorem d_Code_put_24 : decode b_Code_put 24 = .ok (.iastore, 1) := by decide +kernel
theorem d_Code_put_25 : decode b_Code_put 25 = .ok (.aload_n 0, 1) := by decide +kernel
theorem d_Code_put_26 : decode b_Code_put 26 = .ok (.getfield 18, 3) := by decide +kernel
theorem d_Code_put_29 : decode b_Code_put 29 = .ok (.iload_n 1, 1) := by decide +kernel
theorem d_Code_put_30 : decode b_Code_put 30 = .ok (.iload_n 2, 1) := by decide +kernel
theorem d_Code_put_31 : decode b_Code_put 31 = .ok (.ifCond .ne 7, 3) := by decide +kernel
theorem d_Code_put_34 : decode b_Code_put 34 = .ok (.iconst 0, 1) := by decide +kernel
theorem d_Code_put_35 : decode b_Code_put 35 = .ok (.goto 5, 3) := by decide +kernel
theorem d_Code_put_38 : decode b_Code_put 38 = .ok (.iload 4, 2) := by decide +kernel
theorem d_Code_put_40 : decode b_Code_put 40 = .ok (.iastore, 1) := by decide +kernel
theorem d_Code_put_41 : decode b_Code_put 41 = .ok (.aload_n 0, 1) := by decide +kernel
theorem d_Code_put_42 : decode b_Code_put 42 = .ok (.getfield 21, 3) := by decide +kernel
theorem d_Code_put_45 : decode b_Code_put 45 = .ok (.iload_n 1, 1) := by decide +kernel
theorem d_Code_put_46 : decode b_Code_put 46 = .ok (.iload_n 2, 1) := by decide +kernel
theorem d_Code_put_47 : decode b_Code_put 47 = .ok (.invokestatic 35, 3) := by decide +kernel
theorem d_Code_put_50 : decode b_Code_put 50 = .ok (.ifCond .ne 9, 3) := by decide +kernel
theorem d_Code_put_53 : decode b_Code_put 53 = .ok (.iload_n 2, 1) := by decide +kernel
theorem d_Code_put_54 : decode b_Code_put 54 = .ok (.bipush 9, 2) := by decide +kernel
theorem d_Code_put_56 : decode b_Code_put 56 = .ok (.if_icmp .ne 8, 3) := by decide +kernel
theorem d_Code_put_59 : decode b_Code_put 59 = .ok (.iload 5, 2) := by decide +kernel
theorem d_Code_put_61 : decode b_Code_put 61 = .ok (.goto 4, 3) := by decide +kernel
theorem d_Code_put_64 : decode b_Code_put 64 = .ok (.iconst 0, 1) := by decide +kernel
theorem d_Code_put_65 : decode b_Code_put 65 = .ok (.iastore, 1) := by decide +kernel
theorem d_Code_put_66 : decode b_Code_put 66 = .ok (.return_, 1) := by decide +kernel
theorem d_BlockCode_add_0 : decode b_BlockCode_add 0 = .ok (.aload_n 0, 1) := by decide +kernel
theorem d_BlockCode_add_1 : decode b_BlockCode_add 1 = .ok (.getfield 52, 3) := by decide +kernel
theorem d_BlockCode_add_4 : decode b_BlockCode_add 4 = .ok (.ifCond .eq 13, 3) := by decide +kernel
theorem d_BlockCode_add_7 : decode b_BlockCode_add 7 = .ok (.new 59, 3) := by decide +kernel
theorem d_BlockCode_add_10 : decode b_BlockCode_add 10 = .ok (.dup, 1) := by decide +kernel
theorem d_BlockCode_add_11 : decode b_BlockCode_add 11 = .ok (.ldc 61, 2) := by decide +kernel
theorem d_BlockCode_add_13 : decode b_BlockCode_add 13 = .ok (.invokespecial 63, 3) := by decide +kernel
theorem d_BlockCode_add_16 : decode b_BlockCode_add 16 = .ok (.athrow, 1) := by decide +kernel
theorem d_BlockCode_add_17 : decode b_BlockCode_add 17 = .ok (.iload_n 1, 1) := by decide +kernel
theorem d_BlockCode_add_18 : decode b_BlockCode_add 18 = .ok (.iload_n 2, 1) := by decide +kernel
theorem d_BlockCode_add_19 : decode b_BlockCode_add 19 = .ok (.iload_n 3, 1) := by decide +kernel
theorem d_BlockCode_add_20 : decode b_BlockCode_add 20 = .ok (.iload 4, 2) := by decide +kernel
theorem d_BlockCode_add_22 : decode b_BlockCode_add 22 = .ok (.invokestatic 66, 3) := by decide +kernel
theorem d_BlockCode_add_25 : decode b_BlockCode_add 25 = .ok (.ifCond .ne 5, 3) := by decide +kernel
theorem d_BlockCode_add_28 : decode b_BlockCode_add 28 = .ok (.iconst (-1), 1) := by decide +kernel
theorem d_BlockCode_add_29 : decode b_BlockCode_add 29 = .ok (.ireturn, 1) := by decide +kernel
theorem d_BlockCode_add_30 : decode b_BlockCode_add 30 = .ok (.aload_n 0, 1) := by decide +kernel
theorem d_BlockCode_add_31 : decode b_BlockCode_add 31 = .ok (.getfield 10, 3) := by decide +kernel
theorem d_BlockCode_add_34 : decode b_BlockCode_add 34 = .ok (.getfield 70, 3) := by decide +kernel
theorem d_BlockCode_add_37 : decode b_BlockCode_add 37 = .ok (.bipush 20, 2) := by decide +kernel
theorem d_BlockCode_add_39 : decode b_BlockCode_add 39 = .ok (.if_icmp .lt 6, 3) := by decide +kernel
theorem d_BlockCode_add_42 : decode b_BlockCode_add 42 = .ok (.bipush (-2), 2) := by decide +kernel
theorem d_BlockCode_add_44 : decode b_BlockCode_add 44 = .ok (.ireturn, 1) := by decide +kernel
theorem d_BlockCode_add_45 : decode b_BlockCode_add 45 = .ok (.aload_n 0, 1) := by decide +kernel
theorem d_BlockCode_add_46 : decode b_BlockCode_add 46 = .ok (.getfield 10, 3) := by decide +kernel
theorem d_BlockCode_add_49 : decode b_BlockCode_add 49 = .ok (.getfield 70, 3) := by decide +kernel
theorem d_BlockCode_add_52 : decode b_BlockCode_add 52 = .ok (.istore 5, 2) := by decide +kernel
theorem d_BlockCode_add_54 : decode b_BlockCode_add 54 = .ok (.aload_n 0, 1) := by decide +kernel
theorem d_BlockCode_add_55 : decode b_BlockCode_add 55 = .ok (.getfield 10, 3) := by decide +kernel
theorem d_BlockCode_add_58 : decode b_BlockCode_add 58 = .ok (.iload 5, 2) := by decide +kernel
theorem d_BlockCode_add_60 : decode b_BlockCode_add 60 = .ok (.iconst 1, 1) := by decide +kernel
theorem d_BlockCode_add_61 : decode b_BlockCode_add 61 = .ok (.iadd, 1) := by decide +kernel
theorem d_BlockCode_add_62 : decode b_BlockCode_add 62 = .ok (.putfield 70, 3) := by decide +kernel
theorem d_BlockCode_add_65 : decode b_BlockCode_add 65 = .ok (.aload_n 0, 1) := by decide +kernel
theorem d_BlockCode_add_66 : decode b_BlockCode_add 66 = .ok (.getfield 10, 3) := by decide +kernel
theorem d_BlockCode_add_69 : decode b_BlockCode_add 69 = .ok (.iload 5, 2) := by decide +kernel
theorem d_BlockCode_add_71 : decode b_BlockCode_add 71 = .ok (.iload_n 1, 1) := by decide +kernel
theorem d_BlockCode_add_72 : decode b_BlockCode_add 72 = .ok (.iload_n 2, 1) := by decide +kernel
theorem d_BlockCode_add_73 : decode b_BlockCode_add 73 = .ok (.iload_n 3, 1) := by decide +kernel
theorem d_BlockCode_add_74 : decode b_BlockCode_add 74 = .ok (.iload 4, 2) := by decide +kernel
theorem d_BlockCode_add_76 : decode b_BlockCode_add 76 = .ok (.invokevirtual 74, 3) := by decide +kernel
theorem d_BlockCode_add_79 : decode b_BlockCode_add 79 = .ok (.iload 5, 2) := by decide +kernel
theorem d_BlockCode_add_81 : decode b_BlockCode_add 81 = .ok (.ireturn, 1) := by decide +kernel
theorem d_BlockCode_clear_0 : decode b_BlockCode_clear 0 = .ok (.aload_n 0, 1) := by decide +kernel
theorem d_BlockCode_clear_1 : decode b_BlockCode_clear 1 = .ok (.getfield 10, 3) := by decide +kernel
theorem d_BlockCode_clear_4 : decode b_BlockCode_clear 4 = .ok (.iconst 0, 1) := by decide +kernel
theorem d_BlockCode_clear_5 : decode b_BlockCode_clear 5 = .ok (.putfield 70, 3) := by decide +kernel
theorem d_BlockCode_clear_8 : decode b_BlockCode_clear 8 = .ok (.aload_n 0, 1) := by decide +kernel
theorem d_BlockCode_clear_9 : decode b_BlockCode_clear 9 = .ok (.getfield 16, 3) := by decide +kernel
theorem d_BlockCode_clear_12 : decode b_BlockCode_clear 12 = .ok (.iconst 0, 1) := by decide +kernel
theorem d_BlockCode_clear_13 : decode b_BlockCode_clear 13 = .ok (.putfield 70, 3) := by decide +kernel
theorem d_BlockCode_clear_16 : decode b_BlockCode_clear 16 = .ok (.aload_n 0, 1) := by decide +kernel
theorem d_BlockCode_clear_17 : decode b_BlockCode_clear 17 = .ok (.iconst 0, 1) := by decide +kernel
theorem d_BlockCode_clear_18 : decode b_BlockCode_clear 18 = .ok (.putfield 52, 3) := by decide +kernel
theorem d_BlockCode_clear_21 : decode b_BlockCode_clear 21 = .ok (.aload_n 0, 1) := by decide +kernel
theorem d_BlockCode_clear_22 : decode b_BlockCode_clear 22 = .ok (.iconst 0, 1) := by decide +kernel
theorem d_BlockCode_clear_23 : decode b_BlockCode_clear 23 = .ok (.putfield 56, 3) := by decide +kernel
theorem d_BlockCode_clear_26 : decode b_BlockCode_clear 26 = .ok (.return_, 1) := by decide +kernel
theorem d_Code_endsWell_0 : decode b_Code_endsWell 0 = .ok (.aload_n 0, 1) := by decide +kernel
theorem d_Code_endsWell_1 : decode b_Code_endsWell 1 = .ok (.getfield 27, 3) := by decide +kernel
theorem d_Code_endsWell_4 : decode b_Code_endsWell 4 = .ok (.ifCond .le 39, 3) := by decide +kernel
theorem d_Code_endsWell_7 : decode b_Code_endsWell 7 = .ok (.aload_n 0, 1) := by decide +kernel
theorem d_Code_endsWell_8 : decode b_Code_endsWell 8 = .ok (.getfield 9, 3) := by decide +kernel
theorem d_Code_endsWell_11 : decode b_Code_endsWell 11 = .ok (.aload_n 0, 1) := by decide +kernel
theorem d_Code_endsWell_12 : decode b_Code_endsWell 12 = .ok (.getfield 27, 3) := by decide +kernel
theorem d_Code_endsWell_15 : decode b_Code_endsWell 15 = .ok (.iconst 1, 1) := by decide +kernel
theorem d_Code_endsWell_16 : decode b_Code_endsWell 16 = .ok (.isub, 1) := by decide +kernel
theorem d_Code_endsWell_17 : decode b_Code_endsWell 17 = .ok (.iaload, 1) := by decide +kernel
theorem d_Code_endsWell_18 : decode b_Code_endsWell 18 = .ok (.bipush 8, 2) := by decide +kernel
theorem d_Code_endsWell_20 : decode b_Code_endsWell 20 = .ok (.if_icmp .eq 19, 3) := by decide +kernel
theorem d_Code_endsWell_23 : decode b_Code_endsWell 23 = .ok (.aload_n 0, 1) := by decide +kernel
theorem d_Code_endsWell_24 : decode b_Code_endsWell 24 = .ok (.getfield 9, 3) := by decide +kernel
theorem d_Code_endsWell_27 : decode b_Code_endsWell 27 = .ok (.aload_n 0, 1) := by decide +kernel
theorem d_Code_endsWell_28 : decode b_Code_endsWell 28 = .ok (.getfield 27, 3) := by decide +kernel
theorem d_Code_endsWell_31 : decode b_Code_endsWell 31 = .ok (.iconst 1, 1) := by decide +kernel
theorem d_Code_endsWell_32 : decode b_Code_endsWell 32 = .ok (.isub, 1) := by decide +kernel
theorem d_Code_endsWell_33 : decode b_Code_endsWell 33 = .ok (.iaload, 1) := by decide +kernel
theorem d_Code_endsWell_34 : decode b_Code_endsWell 34 = .ok (.bipush 10, 2) := by decide +kernel
theorem d_Code_endsWell_36 : decode b_Code_endsWell 36 = .ok (.if_icmp .ne 7, 3) := by decide +kernel
theorem d_Code_endsWell_39 : decode b_Code_endsWell 39 = .ok (.iconst 1, 1) := by decide +kernel
theorem d_Code_endsWell_40 : decode b_Code_endsWell 40 = .ok (.goto 4, 3) := by decide +kernel
theorem d_Code_endsWell_43 : decode b_Code_endsWell 43 = .ok (.iconst 0, 1) := by decide +kernel
theorem d_Code_endsWell_44 : decode b_Code_endsWell 44 = .ok (.ireturn, 1) := by decide +kernel
theorem d_Code_canBeSealed_0 : decode b_Code_canBeSealed 0 = .ok (.iconst 0, 1) := by decide +kernel
theorem d_Code_canBeSealed_1 : decode b_Code_canBeSealed 1 = .ok (.istore_n 1, 1) := by decide +kernel
theorem d_Code_canBeSealed_2 : decode b_Code_canBeSealed 2 = .ok (.iload_n 1, 1) := by decide +kernel
theorem d_Code_canBeSealed_3 : decode b_Code_canBeSealed 3 = .ok (.aload_n 0, 1) := by decide +kernel
theorem d_Code_canBeSealed_4 : decode b_Code_canBeSealed 4 = .ok (.getfield 27, 3) := by decide +kernel
theorem d_Code_canBeSealed_7 : decode b_Code_canBeSealed 7 = .ok (.if_icmp .ge 39, 3) := by decide +kernel
theorem d_Code_canBeSealed_10 : decode b_Code_canBeSealed 10 = .ok (.aload_n 0, 1) := by decide +kernel
theorem d_Code_canBeSealed_11 : decode b_Code_canBeSealed 11 = .ok (.getfield 9, 3) := by decide +kernel
theorem d_Code_canBeSealed_14 : decode b_Code_canBeSealed 14 = .ok (.iload_n 1, 1) := by decide +kernel
theorem d_Code_canBeSealed_15 : decode b_Code_canBeSealed 15 = .ok (.iaload, 1) := by decide +kernel
theorem d_Code_canBeSealed_16 : decode b_Code_canBeSealed 16 = .ok (.aload_n 0, 1) := by decide +kernel
theorem d_Code_canBeSealed_17 : decode b_Code_canBeSealed 17 = .ok (.getfield 18, 3) := by decide +kernel
theorem d_Code_canBeSealed_20 : decode b_Code_canBeSealed 20 = .ok (.iload_n 1, 1) := by decide +kernel
theorem d_Code_canBeSealed_21 : decode b_Code_canBeSealed 21 = .ok (.iaload, 1) := by decide +kernel
theorem d_Code_canBeSealed_22 : decode b_Code_canBeSealed 22 = .ok (.aload_n 0, 1) := by decide +kernel
theorem d_Code_canBeSealed_23 : decode b_Code_canBeSealed 23 = .ok (.getfield 21, 3) := by decide +kernel
theorem d_Code_canBeSealed_26 : decode b_Code_canBeSealed 26 = .ok (.iload_n 1, 1) := by decide +kernel
theorem d_Code_canBeSealed_27 : decode b_Code_canBeSealed 27 = .ok (.iaload, 1) := by decide +kernel
theorem d_Code_canBeSealed_28 : decode b_Code_canBeSealed 28 = .ok (.invokestatic 45, 3) := by decide +kernel
theorem d_Code_canBeSealed_31 : decode b_Code_canBeSealed 31 = .ok (.aload_n 0, 1) := by decide +kernel
theorem d_Code_canBeSealed_32 : decode b_Code_canBeSealed 32 = .ok (.getfield 27, 3) := by decide +kernel
theorem d_Code_canBeSealed_35 : decode b_Code_canBeSealed 35 = .ok (.if_icmp .lt 5, 3) := by decide +kernel
theorem d_Code_canBeSealed_38 : decode b_Code_canBeSealed 38 = .ok (.iconst 0, 1) := by decide +kernel
theorem d_Code_canBeSealed_39 : decode b_Code_canBeSealed 39 = .ok (.ireturn, 1) := by decide +kernel
theorem d_Code_canBeSealed_40 : decode b_Code_canBeSealed 40 = .ok (.iinc 1 1, 3) := by decide +kernel
theorem d_Code_canBeSealed_43 : decode b_Code_canBeSealed 43 = .ok (.goto (-41), 3) := by decide +kernel
theorem d_Code_canBeSealed_46 : decode b_Code_canBeSealed 46 = .ok (.aload_n 0, 1) := by decide +kernel
theorem d_Code_canBeSealed_47 : decode b_Code_canBeSealed 47 = .ok (.invokevirtual 49, 3) := by decide +kernel
theorem d_Code_canBeSealed_50 : decode b_Code_canBeSealed 50 = .ok (.ireturn, 1) := by decide +kernel
theorem d_Code_findLeaders_0 : decode b_Code_findLeaders 0 = .ok (.aload_n 0, 1) := by decide +kernel
theorem d_Code_findLeaders_1 : decode b_Code_findLeaders 1 = .ok (.iconst 1, 1) := by decide +kernel
theorem d_Code_findLeaders_2 : decode b_Code_findLeaders 2 = .ok (.putfield 53, 3) := by decide +kernel
theorem d_Code_findLeaders_5 : decode b_Code_findLeaders 5 = .ok (.iconst 0, 1) := by decide +kernel
theorem d_Code_findLeaders_6 : decode b_Code_findLeaders 6 = .ok (.istore_n 1, 1) := by decide +kernel
theorem d_Code_findLeaders_7 : decode b_Code_findLeaders 7 = .ok (.iload_n 1, 1) := by decide +kernel
theorem d_Code_findLeaders_8 : decode b_Code_findLeaders 8 = .ok (.aload_n 0, 1) := by decide +kernel
theorem d_Code_findLeaders_9 : decode b_Code_findLeaders 9 = .ok (.getfield 27, 3) := by decide +kernel
theorem d_Code_findLeaders_12 : decode b_Code_findLeaders 12 = .ok (.if_icmp .ge 82, 3) := by decide +kernel
theorem d_Code_findLeaders_15 : decode b_Code_findLeaders 15 = .ok (.aload_n 0, 1) := by decide +kernel
theorem d_Code_findLeaders_16 : decode b_Code_findLeaders 16 = .ok (.getfield 9, 3) := by decide +kernel
theorem d_Code_findLeaders_19 : decode b_Code_findLeaders 19 = .ok (.iload_n 1, 1) := by decide +kernel
theorem d_Code_findLeaders_20 : decode b_Code_findLeaders 20 = .ok (.iaload, 1) := by decide +kernel
theorem d_Code_findLeaders_21 : decode b_Code_findLeaders 21 = .ok (.aload_n 0, 1) := by decide +kernel
theorem d_Code_findLeaders_22 : decode b_Code_findLeaders 22 = .ok (.getfield 18, 3) := by decide +kernel
theorem d_Code_findLeaders_25 : decode b_Code_findLeaders 25 = .ok (.iload_n 1, 1) := by decide +kernel
theorem d_Code_findLeaders_26 : decode b_Code_findLeaders 26 = .ok (.iaload, 1) := by decide +kernel
theorem d_Code_findLeaders_27 : decode b_Code_findLeaders 27 = .ok (.aload_n 0, 1) := by decide +kernel
theorem d_Code_findLeaders_28 : decode b_Code_findLeaders 28 = .ok (.getfield 21, 3) := by decide +kernel
theorem d_Code_findLeaders_31 : decode b_Code_findLeaders 31 = .ok (.iload_n 1, 1) := by decide +kernel
theorem d_Code_findLeaders_32 : decode b_Code_findLeaders 32 = .ok (.iaload, 1) := by decide +kernel
theorem d_Code_findLeaders_33 : decode b_Code_findLeaders 33 = .ok (.invokestatic 45, 3) := by decide +kernel
theorem d_Code_findLeaders_36 : decode b_Code_findLeaders 36 = .ok (.istore_n 2, 1) := by decide +kernel
theorem d_Code_findLeaders_37 : decode b_Code_findLeaders 37 = .ok (.iload_n 2, 1) := by decide +kernel
theorem d_Code_findLeaders_38 : decode b_Code_findLeaders 38 = .ok (.ifCond .lt 15, 3) := by decide +kernel
theorem d_Code_findLeaders_41 : decode b_Code_findLeaders 41 = .ok (.aload_n 0, 1) := by decide +kernel
theorem d_Code_findLeaders_42 : decode b_Code_findLeaders 42 = .ok (.dup, 1) := by decide +kernel
theorem d_Code_findLeaders_43 : decode b_Code_findLeaders 43 = .ok (.getfield 53, 3) := by decide +kernel
theorem d_Code_findLeaders_46 : decode b_Code_findLeaders 46 = .ok (.iconst 1, 1) := by decide +kernel
theorem d_Code_findLeaders_47 : decode b_Code_findLeaders 47 = .ok (.iload_n 2, 1) := by decide +kernel
theorem d_Code_findLeaders_48 : decode b_Code_findLeaders 48 = .ok (.ishl, 1) := by decide +kernel
theorem d_Code_findLeaders_49 : decode b_Code_findLeaders 49 = .ok (.ior, 1) := by decide +kernel
theorem d_Code_findLeaders_50 : decode b_Code_findLeaders 50 = .ok (.putfield 53, 3) := by decide +kernel
theorem d_Code_findLeaders_53 : decode b_Code_findLeaders 53 = .ok (.aload_n 0, 1) := by decide +kernel
theorem d_Code_findLeaders_54 : decode b_Code_findLeaders 54 = .ok (.getfield 9, 3) := by decide +kernel
theorem d_Code_findLeaders_57 : decode b_Code_findLeaders 57 = .ok (.iload_n 1, 1) := by decide +kernel
theorem d_Code_findLeaders_58 : decode b_Code_findLeaders 58 = .ok (.iaload, 1) := by decide +kernel
theorem d_Code_findLeaders_59 : decode b_Code_findLeaders 59 = .ok (.bipush 8, 2) := by decide +kernel
theorem d_Code_findLeaders_61 : decode b_Code_findLeaders 61 = .ok (.if_icmp .lt 27, 3) := by decide +kernel
theorem d_Code_findLeaders_64 : decode b_Code_findLeaders 64 = .ok (.iload_n 1, 1) := by decide +kernel
theorem d_Code_findLeaders_65 : decode b_Code_findLeaders 65 = .ok (.iconst 1, 1) := by decide +kernel
theorem d_Code_findLeaders_66 : decode b_Code_findLeaders 66 = .ok (.iadd, 1) := by decide +kernel
theorem d_Code_findLeaders_67 : decode b_Code_findLeaders 67 = .ok (.aload_n 0, 1) := by decide +kernel
theorem d_Code_findLeaders_68 : decode b_Code_findLeaders 68 = .ok (.getfield 27, 3) := by decide +kernel
theorem d_Code_findLeaders_71 : decode b_Code_findLeaders 71 = .ok (.if_icmp .ge 17, 3) := by decide +kernel
theorem d_Code_findLeaders_74 : decode b_Code_findLeaders 74 = .ok (.aload_n 0, 1) := by decide +kernel
theorem d_Code_findLeaders_75 : decode b_Code_findLeaders 75 = .ok (.dup, 1) := by decide +kernel
theorem d_Code_findLeaders_76 : decode b_Code_findLeaders 76 = .ok (.getfield 53, 3) := by decide +kernel
theorem d_Code_findLeaders_79 : decode b_Code_findLeaders 79 = .ok (.iconst 1, 1) := by decide +kernel
theorem d_Code_findLeaders_80 : decode b_Code_findLeaders 80 = .ok (.iload_n 1, 1) := by decide +kernel
theorem d_Code_findLeaders_81 : decode b_Code_findLeaders 81 = .ok (.iconst 1, 1) := by decide +kernel
theorem d_Code_findLeaders_82 : decode b_Code_findLeaders 82 = .ok (.iadd, 1) := by decide +kernel
theorem d_Code_findLeaders_83 : decode b_Code_findLeaders 83 = .ok (.ishl, 1) := by decide +kernel
theorem d_Code_findLeaders_84 : decode b_Code_findLeaders 84 = .ok (.ior, 1) := by decide +kernel
theorem d_Code_findLeaders_85 : decode b_Code_findLeaders 85 = .ok (.putfield 53, 3) := by decide +kernel
theorem d_Code_findLeaders_88 : decode b_Code_findLeaders 88 = .ok (.iinc 1 1, 3) := by decide +kernel
theorem d_Code_findLeaders_91 : decode b_Code_findLeaders 91 = .ok (.goto (-84), 3) := by decide +kernel
theorem d_Code_findLeaders_94 : decode b_Code_findLeaders 94 = .ok (.return_, 1) := by decide +kernel
theorem d_Code_operandsOf_0 : decode b_Code_operandsOf 0 = .ok (.aload_n 0, 1) := by decide +kernel
theorem d_Code_operandsOf_1 : decode b_Code_operandsOf 1 = .ok (.getfield 9, 3) := by decide +kernel
theorem d_Code_operandsOf_4 : decode b_Code_operandsOf 4 = .ok (.iload_n 1, 1) := by decide +kernel
theorem d_Code_operandsOf_5 : decode b_Code_operandsOf 5 = .ok (.iaload, 1) := by decide +kernel
theorem d_Code_operandsOf_6 : decode b_Code_operandsOf 6 = .ok (.bipush 10, 2) := by decide +kernel
theorem d_Code_operandsOf_8 : decode b_Code_operandsOf 8 = .ok (.if_icmp .ne 10, 3) := by decide +kernel
theorem d_Code_operandsOf_11 : decode b_Code_operandsOf 11 = .ok (.aload_n 0, 1) := by decide +kernel
theorem d_Code_operandsOf_12 : decode b_Code_operandsOf 12 = .ok (.getfield 18, 3) := by decide +kernel
theorem d_Code_operandsOf_15 : decode b_Code_operandsOf 15 = .ok (.iload_n 1, 1) := by decide +kernel
theorem d_Code_operandsOf_16 : decode b_Code_operandsOf 16 = .ok (.iaload, 1) := by decide +kernel
theorem d_Code_operandsOf_17 : decode b_Code_operandsOf 17 = .ok (.ireturn, 1) := by decide +kernel
theorem d_Code_operandsOf_18 : decode b_Code_operandsOf 18 = .ok (.aload_n 0, 1) := by decide +kernel
theorem d_Code_operandsOf_19 : decode b_Code_operandsOf 19 = .ok (.getfield 9, 3) := by decide +kernel
theorem d_Code_operandsOf_22 : decode b_Code_operandsOf 22 = .ok (.iload_n 1, 1) := by decide +kernel
theorem d_Code_operandsOf_23 : decode b_Code_operandsOf 23 = .ok (.iaload, 1) := by decide +kernel
theorem d_Code_operandsOf_24 : decode b_Code_operandsOf 24 = .ok (.invokestatic 76, 3) := by decide +kernel
theorem d_Code_operandsOf_27 : decode b_Code_operandsOf 27 = .ok (.ifCond .eq 14, 3) := by decide +kernel
theorem d_Code_operandsOf_30 : decode b_Code_operandsOf 30 = .ok (.iconst 1, 1) := by decide +kernel
theorem d_Code_operandsOf_31 : decode b_Code_operandsOf 31 = .ok (.aload_n 0, 1) := by decide +kernel
theorem d_Code_operandsOf_32 : decode b_Code_operandsOf 32 = .ok (.getfield 18, 3) := by decide +kernel
theorem d_Code_operandsOf_35 : decode b_Code_operandsOf 35 = .ok (.iload_n 1, 1) := by decide +kernel
theorem d_Code_operandsOf_36 : decode b_Code_operandsOf 36 = .ok (.iaload, 1) := by decide +kernel
theorem d_Code_operandsOf_37 : decode b_Code_operandsOf 37 = .ok (.ishl, 1) := by decide +kernel
theorem d_Code_operandsOf_38 : decode b_Code_operandsOf 38 = .ok (.goto 4, 3) := by decide +kernel
theorem d_Code_operandsOf_41 : decode b_Code_operandsOf 41 = .ok (.iconst 0, 1) := by decide +kernel
theorem d_Code_operandsOf_42 : decode b_Code_operandsOf 42 = .ok (.istore_n 2, 1) := by decide +kernel
theorem d_Code_operandsOf_43 : decode b_Code_operandsOf 43 = .ok (.aload_n 0, 1) := by decide +kernel
theorem d_Code_operandsOf_44 : decode b_Code_operandsOf 44 = .ok (.getfield 9, 3) := by decide +kernel
theorem d_Code_operandsOf_47 : decode b_Code_operandsOf 47 = .ok (.iload_n 1, 1) := by decide +kernel
theorem d_Code_operandsOf_48 : decode b_Code_operandsOf 48 = .ok (.iaload, 1) := by decide +kernel
theorem d_Code_operandsOf_49 : decode b_Code_operandsOf 49 = .ok (.invokestatic 35, 3) := by decide +kernel
theorem d_Code_operandsOf_52 : decode b_Code_operandsOf 52 = .ok (.ifCond .eq 16, 3) := by decide +kernel
theorem d_Code_operandsOf_55 : decode b_Code_operandsOf 55 = .ok (.iload_n 2, 1) := by decide +kernel
theorem d_Code_operandsOf_56 : decode b_Code_operandsOf 56 = .ok (.iconst 1, 1) := by decide +kernel
theorem d_Code_operandsOf_57 : decode b_Code_operandsOf 57 = .ok (.aload_n 0, 1) := by decide +kernel
theorem d_Code_operandsOf_58 : decode b_Code_operandsOf 58 = .ok (.getfield 21, 3) := by decide +kernel
theorem d_Code_operandsOf_61 : decode b_Code_operandsOf 61 = .ok (.iload_n 1, 1) := by decide +kernel
theorem d_Code_operandsOf_62 : decode b_Code_operandsOf 62 = .ok (.iaload, 1) := by decide +kernel
theorem d_Code_operandsOf_63 : decode b_Code_operandsOf 63 = .ok (.ishl, 1) := by decide +kernel
theorem d_Code_operandsOf_64 : decode b_Code_operandsOf 64 = .ok (.ior, 1) := by decide +kernel
theorem d_Code_operandsOf_65 : decode b_Code_operandsOf 65 = .ok (.goto 4, 3) := by decide +kernel
theorem d_Code_operandsOf_68 : decode b_Code_operandsOf 68 = .ok (.iload_n 2, 1) := by decide +kernel
theorem d_Code_operandsOf_69 : decode b_Code_operandsOf 69 = .ok (.ireturn, 1) := by decide +kernel
theorem d_Code_has_0 : decode b_Code_has 0 = .ok (.iload_n 1, 1) := by decide +kernel
theorem d_Code_has_1 : decode b_Code_has 1 = .ok (.ifCond .lt 15, 3) := by decide +kernel
theorem d_Code_has_4 : decode b_Code_has 4 = .ok (.iload_n 1, 1) := by decide +kernel
theorem d_Code_has_5 : decode b_Code_has 5 = .ok (.aload_n 0, 1) := by decide +kernel
theorem d_Code_has_6 : decode b_Code_has 6 = .ok (.getfield 27, 3) := by decide +kernel
theorem d_Code_has_9 : decode b_Code_has 9 = .ok (.if_icmp .ge 7, 3) := by decide +kernel
theorem d_Code_has_12 : decode b_Code_has 12 = .ok (.iconst 1, 1) := by decide +kernel
theorem d_Code_has_13 : decode b_Code_has 13 = .ok (.goto 4, 3) := by decide +kernel
theorem d_Code_has_16 : decode b_Code_has 16 = .ok (.iconst 0, 1) := by decide +kernel
theorem d_Code_has_17 : decode b_Code_has 17 = .ok (.ireturn, 1) := by decide +kernel
theorem d_Code_needAt_0 : decode b_Code_needAt 0 = .ok (.aload_n 0, 1) := by decide +kernel
theorem d_Code_needAt_1 : decode b_Code_needAt 1 = .ok (.iload_n 1, 1) := by decide +kernel
theorem d_Code_needAt_2 : decode b_Code_needAt 2 = .ok (.invokevirtual 38, 3) := by decide +kernel
theorem d_Code_needAt_5 : decode b_Code_needAt 5 = .ok (.ifCond .eq 12, 3) := by decide +kernel
theorem d_Code_needAt_8 : decode b_Code_needAt 8 = .ok (.aload_n 0, 1) := by decide +kernel
theorem d_Code_needAt_9 : decode b_Code_needAt 9 = .ok (.getfield 24, 3) := by decide +kernel
theorem d_Code_needAt_12 : decode b_Code_needAt 12 = .ok (.iload_n 1, 1) := by decide +kernel
theorem d_Code_needAt_13 : decode b_Code_needAt 13 = .ok (.iaload, 1) := by decide +kernel
theorem d_Code_needAt_14 : decode b_Code_needAt 14 = .ok (.goto 4, 3) := by decide +kernel
theorem d_Code_needAt_17 : decode b_Code_needAt 17 = .ok (.iconst 0, 1) := by decide +kernel
theorem d_Code_needAt_18 : decode b_Code_needAt 18 = .ok (.ireturn, 1) := by decide +kernel
theorem d_Code_needBehind_0 : decode b_Code_needBehind 0 = .ok (.aload_n 0, 1) := by decide +kernel
theorem d_Code_needBehind_1 : decode b_Code_needBehind 1 = .ok (.getfield 9, 3) := by decide +kernel
theorem d_Code_needBehind_4 : decode b_Code_needBehind 4 = .ok (.iload_n 1, 1) := by decide +kernel
theorem d_Code_needBehind_5 : decode b_Code_needBehind 5 = .ok (.iaload, 1) := by decide +kernel
theorem d_Code_needBehind_6 : decode b_Code_needBehind 6 = .ok (.tableswitch 58 8 10 #[26, 37, 56], 26) := by decide +kernel
theorem d_Code_needBehind_32 : decode b_Code_needBehind 32 = .ok (.aload_n 0, 1) := by decide +kernel
theorem d_Code_needBehind_33 : decode b_Code_needBehind 33 = .ok (.aload_n 0, 1) := by decide +kernel
theorem d_Code_needBehind_34 : decode b_Code_needBehind 34 = .ok (.getfield 18, 3) := by decide +kernel
theorem d_Code_needBehind_37 : decode b_Code_needBehind 37 = .ok (.iload_n 1, 1) := by decide +kernel
theorem d_Code_needBehind_38 : decode b_Code_needBehind 38 = .ok (.iaload, 1) := by decide +kernel
