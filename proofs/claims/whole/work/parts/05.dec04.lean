theorem d_Symbols_numberOf_1 : decode b_Symbols_numberOf 1 = .ok (.istore 4, 2) := by decide +kernel
theorem d_Symbols_numberOf_3 : decode b_Symbols_numberOf 3 = .ok (.iload 4, 2) := by decide +kernel
theorem d_Symbols_numberOf_5 : decode b_Symbols_numberOf 5 = .ok (.aload_n 0, 1) := by decide +kernel
theorem d_Symbols_numberOf_6 : decode b_Symbols_numberOf 6 = .ok (.getfield 21, 3) := by decide +kernel
theorem d_Symbols_numberOf_9 : decode b_Symbols_numberOf 9 = .ok (.if_icmp .ge 45, 3) := by decide +kernel
theorem d_Symbols_numberOf_12 : decode b_Symbols_numberOf 12 = .ok (.aload_n 0, 1) := by decide +kernel
theorem d_Symbols_numberOf_13 : decode b_Symbols_numberOf 13 = .ok (.getfield 11, 3) := by decide +kernel
theorem d_Symbols_numberOf_16 : decode b_Symbols_numberOf 16 = .ok (.iload 4, 2) := by decide +kernel
theorem d_Symbols_numberOf_18 : decode b_Symbols_numberOf 18 = .ok (.iaload, 1) := by decide +kernel
theorem d_Symbols_numberOf_19 : decode b_Symbols_numberOf 19 = .ok (.iload_n 1, 1) := by decide +kernel
theorem d_Symbols_numberOf_20 : decode b_Symbols_numberOf 20 = .ok (.if_icmp .ne 28, 3) := by decide +kernel
theorem d_Symbols_numberOf_23 : decode b_Symbols_numberOf 23 = .ok (.aload_n 0, 1) := by decide +kernel
theorem d_Symbols_numberOf_24 : decode b_Symbols_numberOf 24 = .ok (.getfield 15, 3) := by decide +kernel
theorem d_Symbols_numberOf_27 : decode b_Symbols_numberOf 27 = .ok (.iload 4, 2) := by decide +kernel
theorem d_Symbols_numberOf_29 : decode b_Symbols_numberOf 29 = .ok (.iaload, 1) := by decide +kernel
theorem d_Symbols_numberOf_30 : decode b_Symbols_numberOf 30 = .ok (.iload_n 2, 1) := by decide +kernel
theorem d_Symbols_numberOf_31 : decode b_Symbols_numberOf 31 = .ok (.if_icmp .ne 17, 3) := by decide +kernel
theorem d_Symbols_numberOf_34 : decode b_Symbols_numberOf 34 = .ok (.aload_n 0, 1) := by decide +kernel
theorem d_Symbols_numberOf_35 : decode b_Symbols_numberOf 35 = .ok (.getfield 18, 3) := by decide +kernel
theorem d_Symbols_numberOf_38 : decode b_Symbols_numberOf 38 = .ok (.iload 4, 2) := by decide +kernel
theorem d_Symbols_numberOf_40 : decode b_Symbols_numberOf 40 = .ok (.iaload, 1) := by decide +kernel
theorem d_Symbols_numberOf_41 : decode b_Symbols_numberOf 41 = .ok (.iload_n 3, 1) := by decide +kernel
theorem d_Symbols_numberOf_42 : decode b_Symbols_numberOf 42 = .ok (.if_icmp .ne 6, 3) := by decide +kernel
theorem d_Symbols_numberOf_45 : decode b_Symbols_numberOf 45 = .ok (.iload 4, 2) := by decide +kernel
theorem d_Symbols_numberOf_47 : decode b_Symbols_numberOf 47 = .ok (.ireturn, 1) := by decide +kernel
theorem d_Symbols_numberOf_48 : decode b_Symbols_numberOf 48 = .ok (.iinc 4 1, 3) := by decide +kernel
theorem d_Symbols_numberOf_51 : decode b_Symbols_numberOf 51 = .ok (.goto (-48), 3) := by decide +kernel
theorem d_Symbols_numberOf_54 : decode b_Symbols_numberOf 54 = .ok (.aload_n 0, 1) := by decide +kernel
theorem d_Symbols_numberOf_55 : decode b_Symbols_numberOf 55 = .ok (.getfield 21, 3) := by decide +kernel
theorem d_Symbols_numberOf_58 : decode b_Symbols_numberOf 58 = .ok (.istore 4, 2) := by decide +kernel
theorem d_Symbols_numberOf_60 : decode b_Symbols_numberOf 60 = .ok (.aload_n 0, 1) := by decide +kernel
theorem d_Symbols_numberOf_61 : decode b_Symbols_numberOf 61 = .ok (.getfield 11, 3) := by decide +kernel
theorem d_Symbols_numberOf_64 : decode b_Symbols_numberOf 64 = .ok (.iload 4, 2) := by decide +kernel
theorem d_Symbols_numberOf_66 : decode b_Symbols_numberOf 66 = .ok (.iload_n 1, 1) := by decide +kernel
theorem d_Symbols_numberOf_67 : decode b_Symbols_numberOf 67 = .ok (.iastore, 1) := by decide +kernel
theorem d_Symbols_numberOf_68 : decode b_Symbols_numberOf 68 = .ok (.aload_n 0, 1) := by decide +kernel
theorem d_Symbols_numberOf_69 : decode b_Symbols_numberOf 69 = .ok (.getfield 15, 3) := by decide +kernel
theorem d_Symbols_numberOf_72 : decode b_Symbols_numberOf 72 = .ok (.iload 4, 2) := by decide +kernel
theorem d_Symbols_numberOf_74 : decode b_Symbols_numberOf 74 = .ok (.iload_n 2, 1) := by decide +kernel
theorem d_Symbols_numberOf_75 : decode b_Symbols_numberOf 75 = .ok (.iastore, 1) := by decide +kernel
theorem d_Symbols_numberOf_76 : decode b_Symbols_numberOf 76 = .ok (.aload_n 0, 1) := by decide +kernel
theorem d_Symbols_numberOf_77 : decode b_Symbols_numberOf 77 = .ok (.getfield 18, 3) := by decide +kernel
theorem d_Symbols_numberOf_80 : decode b_Symbols_numberOf 80 = .ok (.iload 4, 2) := by decide +kernel
theorem d_Symbols_numberOf_82 : decode b_Symbols_numberOf 82 = .ok (.iload_n 3, 1) := by decide +kernel
theorem d_Symbols_numberOf_83 : decode b_Symbols_numberOf 83 = .ok (.iastore, 1) := by decide +kernel
theorem d_Symbols_numberOf_84 : decode b_Symbols_numberOf 84 = .ok (.aload_n 0, 1) := by decide +kernel
theorem d_Symbols_numberOf_85 : decode b_Symbols_numberOf 85 = .ok (.iload 4, 2) := by decide +kernel
theorem d_Symbols_numberOf_87 : decode b_Symbols_numberOf 87 = .ok (.iconst 1, 1) := by decide +kernel
theorem d_Symbols_numberOf_88 : decode b_Symbols_numberOf 88 = .ok (.iadd, 1) := by decide +kernel
theorem d_Symbols_numberOf_89 : decode b_Symbols_numberOf 89 = .ok (.putfield 21, 3) := by decide +kernel
theorem d_Symbols_numberOf_92 : decode b_Symbols_numberOf 92 = .ok (.iload 4, 2) := by decide +kernel
theorem d_Symbols_numberOf_94 : decode b_Symbols_numberOf 94 = .ok (.ireturn, 1) := by decide +kernel
theorem d_Symbols_ofRegister_0 : decode b_Symbols_ofRegister 0 = .ok (.aload_n 0, 1) := by decide +kernel
theorem d_Symbols_ofRegister_1 : decode b_Symbols_ofRegister 1 = .ok (.iconst 0, 1) := by decide +kernel
theorem d_Symbols_ofRegister_2 : decode b_Symbols_ofRegister 2 = .ok (.iload_n 1, 1) := by decide +kernel
theorem d_Symbols_ofRegister_3 : decode b_Symbols_ofRegister 3 = .ok (.iconst 0, 1) := by decide +kernel
theorem d_Symbols_ofRegister_4 : decode b_Symbols_ofRegister 4 = .ok (.invokevirtual 25, 3) := by decide +kernel
theorem d_Symbols_ofRegister_7 : decode b_Symbols_ofRegister 7 = .ok (.ireturn, 1) := by decide +kernel
theorem d_Walk_beginUnknown_0 : decode b_Walk_beginUnknown 0 = .ok (.iconst 0, 1) := by decide +kernel
theorem d_Walk_beginUnknown_1 : decode b_Walk_beginUnknown 1 = .ok (.istore_n 1, 1) := by decide +kernel
theorem d_Walk_beginUnknown_2 : decode b_Walk_beginUnknown 2 = .ok (.iload_n 1, 1) := by decide +kernel
theorem d_Walk_beginUnknown_3 : decode b_Walk_beginUnknown 3 = .ok (.iconst 5, 1) := by decide +kernel
theorem d_Walk_beginUnknown_4 : decode b_Walk_beginUnknown 4 = .ok (.if_icmp .ge 23, 3) := by decide +kernel
theorem d_Walk_beginUnknown_7 : decode b_Walk_beginUnknown 7 = .ok (.aload_n 0, 1) := by decide +kernel
theorem d_Walk_beginUnknown_8 : decode b_Walk_beginUnknown 8 = .ok (.getfield 9, 3) := by decide +kernel
theorem d_Walk_beginUnknown_11 : decode b_Walk_beginUnknown 11 = .ok (.iload_n 1, 1) := by decide +kernel
theorem d_Walk_beginUnknown_12 : decode b_Walk_beginUnknown 12 = .ok (.aload_n 0, 1) := by decide +kernel
theorem d_Walk_beginUnknown_13 : decode b_Walk_beginUnknown 13 = .ok (.getfield 21, 3) := by decide +kernel
theorem d_Walk_beginUnknown_16 : decode b_Walk_beginUnknown 16 = .ok (.iload_n 1, 1) := by decide +kernel
theorem d_Walk_beginUnknown_17 : decode b_Walk_beginUnknown 17 = .ok (.invokevirtual 25, 3) := by decide +kernel
theorem d_Walk_beginUnknown_20 : decode b_Walk_beginUnknown 20 = .ok (.iastore, 1) := by decide +kernel
theorem d_Walk_beginUnknown_21 : decode b_Walk_beginUnknown 21 = .ok (.iinc 1 1, 3) := by decide +kernel
theorem d_Walk_beginUnknown_24 : decode b_Walk_beginUnknown 24 = .ok (.goto (-22), 3) := by decide +kernel
theorem d_Walk_beginUnknown_27 : decode b_Walk_beginUnknown 27 = .ok (.return_, 1) := by decide +kernel
theorem d_Symbols_ofInt_0 : decode b_Symbols_ofInt 0 = .ok (.aload_n 0, 1) := by decide +kernel
theorem d_Symbols_ofInt_1 : decode b_Symbols_ofInt 1 = .ok (.iconst 1, 1) := by decide +kernel
theorem d_Symbols_ofInt_2 : decode b_Symbols_ofInt 2 = .ok (.iload_n 1, 1) := by decide +kernel
theorem d_Symbols_ofInt_3 : decode b_Symbols_ofInt 3 = .ok (.iconst 0, 1) := by decide +kernel
theorem d_Symbols_ofInt_4 : decode b_Symbols_ofInt 4 = .ok (.invokevirtual 25, 3) := by decide +kernel
theorem d_Symbols_ofInt_7 : decode b_Symbols_ofInt 7 = .ok (.ireturn, 1) := by decide +kernel
theorem d_Symbols_holdsInt_0 : decode b_Symbols_holdsInt 0 = .ok (.aload_n 0, 1) := by decide +kernel
theorem d_Symbols_holdsInt_1 : decode b_Symbols_holdsInt 1 = .ok (.getfield 11, 3) := by decide +kernel
theorem d_Symbols_holdsInt_4 : decode b_Symbols_holdsInt 4 = .ok (.iload_n 1, 1) := by decide +kernel
theorem d_Symbols_holdsInt_5 : decode b_Symbols_holdsInt 5 = .ok (.iaload, 1) := by decide +kernel
theorem d_Symbols_holdsInt_6 : decode b_Symbols_holdsInt 6 = .ok (.iconst 1, 1) := by decide +kernel
theorem d_Symbols_holdsInt_7 : decode b_Symbols_holdsInt 7 = .ok (.if_icmp .ne 7, 3) := by decide +kernel
theorem d_Symbols_holdsInt_10 : decode b_Symbols_holdsInt 10 = .ok (.iconst 1, 1) := by decide +kernel
theorem d_Symbols_holdsInt_11 : decode b_Symbols_holdsInt 11 = .ok (.goto 4, 3) := by decide +kernel
theorem d_Symbols_holdsInt_14 : decode b_Symbols_holdsInt 14 = .ok (.iconst 0, 1) := by decide +kernel
theorem d_Symbols_holdsInt_15 : decode b_Symbols_holdsInt 15 = .ok (.ireturn, 1) := by decide +kernel
theorem d_Symbols_intOf_0 : decode b_Symbols_intOf 0 = .ok (.aload_n 0, 1) := by decide +kernel
theorem d_Symbols_intOf_1 : decode b_Symbols_intOf 1 = .ok (.getfield 15, 3) := by decide +kernel
theorem d_Symbols_intOf_4 : decode b_Symbols_intOf 4 = .ok (.iload_n 1, 1) := by decide +kernel
theorem d_Symbols_intOf_5 : decode b_Symbols_intOf 5 = .ok (.iaload, 1) := by decide +kernel
theorem d_Symbols_intOf_6 : decode b_Symbols_intOf 6 = .ok (.ireturn, 1) := by decide +kernel
theorem d_Symbols_ofOpFolded_0 : decode b_Symbols_ofOpFolded 0 = .ok (.aload_n 0, 1) := by decide +kernel
theorem d_Symbols_ofOpFolded_1 : decode b_Symbols_ofOpFolded 1 = .ok (.iload_n 2, 1) := by decide +kernel
theorem d_Symbols_ofOpFolded_2 : decode b_Symbols_ofOpFolded 2 = .ok (.invokevirtual 29, 3) := by decide +kernel
theorem d_Symbols_ofOpFolded_5 : decode b_Symbols_ofOpFolded 5 = .ok (.ifCond .eq 23, 3) := by decide +kernel
theorem d_Symbols_ofOpFolded_8 : decode b_Symbols_ofOpFolded 8 = .ok (.aload_n 0, 1) := by decide +kernel
theorem d_Symbols_ofOpFolded_9 : decode b_Symbols_ofOpFolded 9 = .ok (.iload_n 3, 1) := by decide +kernel
theorem d_Symbols_ofOpFolded_10 : decode b_Symbols_ofOpFolded 10 = .ok (.invokevirtual 29, 3) := by decide +kernel
theorem d_Symbols_ofOpFolded_13 : decode b_Symbols_ofOpFolded 13 = .ok (.ifCond .eq 15, 3) := by decide +kernel
theorem d_Symbols_ofOpFolded_16 : decode b_Symbols_ofOpFolded 16 = .ok (.iload_n 1, 1) := by decide +kernel
theorem d_Symbols_ofOpFolded_17 : decode b_Symbols_ofOpFolded 17 = .ok (.aload_n 0, 1) := by decide +kernel
theorem d_Symbols_ofOpFolded_18 : decode b_Symbols_ofOpFolded 18 = .ok (.iload_n 3, 1) := by decide +kernel
theorem d_Symbols_ofOpFolded_19 : decode b_Symbols_ofOpFolded 19 = .ok (.invokevirtual 33, 3) := by decide +kernel
theorem d_Symbols_ofOpFolded_22 : decode b_Symbols_ofOpFolded 22 = .ok (.invokestatic 37, 3) := by decide +kernel
theorem d_Symbols_ofOpFolded_25 : decode b_Symbols_ofOpFolded 25 = .ok (.ifCond .eq 11, 3) := by decide +kernel
theorem d_Symbols_ofOpFolded_28 : decode b_Symbols_ofOpFolded 28 = .ok (.aload_n 0, 1) := by decide +kernel
theorem d_Symbols_ofOpFolded_29 : decode b_Symbols_ofOpFolded 29 = .ok (.iload_n 1, 1) := by decide +kernel
theorem d_Symbols_ofOpFolded_30 : decode b_Symbols_ofOpFolded 30 = .ok (.iload_n 2, 1) := by decide +kernel
theorem d_Symbols_ofOpFolded_31 : decode b_Symbols_ofOpFolded 31 = .ok (.iload_n 3, 1) := by decide +kernel
theorem d_Symbols_ofOpFolded_32 : decode b_Symbols_ofOpFolded 32 = .ok (.invokevirtual 25, 3) := by decide +kernel
theorem d_Symbols_ofOpFolded_35 : decode b_Symbols_ofOpFolded 35 = .ok (.ireturn, 1) := by decide +kernel
theorem d_Symbols_ofOpFolded_36 : decode b_Symbols_ofOpFolded 36 = .ok (.aload_n 0, 1) := by decide +kernel
theorem d_Symbols_ofOpFolded_37 : decode b_Symbols_ofOpFolded 37 = .ok (.iconst 1, 1) := by decide +kernel
theorem d_Symbols_ofOpFolded_38 : decode b_Symbols_ofOpFolded 38 = .ok (.iload_n 1, 1) := by decide +kernel
theorem d_Symbols_ofOpFolded_39 : decode b_Symbols_ofOpFolded 39 = .ok (.aload_n 0, 1) := by decide +kernel
theorem d_Symbols_ofOpFolded_40 : decode b_Symbols_ofOpFolded 40 = .ok (.iload_n 2, 1) := by decide +kernel
theorem d_Symbols_ofOpFolded_41 : decode b_Symbols_ofOpFolded 41 = .ok (.invokevirtual 33, 3) := by decide +kernel
theorem d_Symbols_ofOpFolded_44 : decode b_Symbols_ofOpFolded 44 = .ok (.aload_n 0, 1) := by decide +kernel
theorem d_Symbols_ofOpFolded_45 : decode b_Symbols_ofOpFolded 45 = .ok (.iload_n 3, 1) := by decide +kernel
theorem d_Symbols_ofOpFolded_46 : decode b_Symbols_ofOpFolded 46 = .ok (.invokevirtual 33, 3) := by decide +kernel
theorem d_Symbols_ofOpFolded_49 : decode b_Symbols_ofOpFolded 49 = .ok (.invokestatic 41, 3) := by decide +kernel
theorem d_Symbols_ofOpFolded_52 : decode b_Symbols_ofOpFolded 52 = .ok (.iconst 0, 1) := by decide +kernel
theorem d_Symbols_ofOpFolded_53 : decode b_Symbols_ofOpFolded 53 = .ok (.invokevirtual 25, 3) := by decide +kernel
theorem d_Symbols_ofOpFolded_56 : decode b_Symbols_ofOpFolded 56 = .ok (.ireturn, 1) := by decide +kernel
theorem d_Symbols_ofOp_0 : decode b_Symbols_ofOp 0 = .ok (.aload_n 0, 1) := by decide +kernel
theorem d_Symbols_ofOp_1 : decode b_Symbols_ofOp 1 = .ok (.iload_n 1, 1) := by decide +kernel
theorem d_Symbols_ofOp_2 : decode b_Symbols_ofOp 2 = .ok (.iload_n 2, 1) := by decide +kernel
theorem d_Symbols_ofOp_3 : decode b_Symbols_ofOp 3 = .ok (.iload_n 3, 1) := by decide +kernel
theorem d_Symbols_ofOp_4 : decode b_Symbols_ofOp 4 = .ok (.invokevirtual 25, 3) := by decide +kernel
theorem d_Symbols_ofOp_7 : decode b_Symbols_ofOp 7 = .ok (.ireturn, 1) := by decide +kernel
theorem d_Walk_madeBy_0 : decode b_Walk_madeBy 0 = .ok (.aload_n 1, 1) := by decide +kernel
theorem d_Walk_madeBy_1 : decode b_Walk_madeBy 1 = .ok (.getfield 48, 3) := by decide +kernel
theorem d_Walk_madeBy_4 : decode b_Walk_madeBy 4 = .ok (.iload_n 2, 1) := by decide +kernel
theorem d_Walk_madeBy_5 : decode b_Walk_madeBy 5 = .ok (.iaload, 1) := by decide +kernel
theorem d_Walk_madeBy_6 : decode b_Walk_madeBy 6 = .ok (.istore 4, 2) := by decide +kernel
theorem d_Walk_madeBy_8 : decode b_Walk_madeBy 8 = .ok (.iload 4, 2) := by decide +kernel
theorem d_Walk_madeBy_10 : decode b_Walk_madeBy 10 = .ok (.iconst 1, 1) := by decide +kernel
theorem d_Walk_madeBy_11 : decode b_Walk_madeBy 11 = .ok (.if_icmp .ne 17, 3) := by decide +kernel
theorem d_Walk_madeBy_14 : decode b_Walk_madeBy 14 = .ok (.aload_n 0, 1) := by decide +kernel
theorem d_Walk_madeBy_15 : decode b_Walk_madeBy 15 = .ok (.getfield 21, 3) := by decide +kernel
theorem d_Walk_madeBy_18 : decode b_Walk_madeBy 18 = .ok (.aload_n 1, 1) := by decide +kernel
theorem d_Walk_madeBy_19 : decode b_Walk_madeBy 19 = .ok (.getfield 79, 3) := by decide +kernel
theorem d_Walk_madeBy_22 : decode b_Walk_madeBy 22 = .ok (.iload_n 2, 1) := by decide +kernel
theorem d_Walk_madeBy_23 : decode b_Walk_madeBy 23 = .ok (.iaload, 1) := by decide +kernel
theorem d_Walk_madeBy_24 : decode b_Walk_madeBy 24 = .ok (.invokevirtual 45, 3) := by decide +kernel
theorem d_Walk_madeBy_27 : decode b_Walk_madeBy 27 = .ok (.ireturn, 1) := by decide +kernel
theorem d_Walk_madeBy_28 : decode b_Walk_madeBy 28 = .ok (.aload_n 0, 1) := by decide +kernel
theorem d_Walk_madeBy_29 : decode b_Walk_madeBy 29 = .ok (.getfield 9, 3) := by decide +kernel
theorem d_Walk_madeBy_32 : decode b_Walk_madeBy 32 = .ok (.aload_n 1, 1) := by decide +kernel
theorem d_Walk_madeBy_33 : decode b_Walk_madeBy 33 = .ok (.getfield 79, 3) := by decide +kernel
theorem d_Walk_madeBy_36 : decode b_Walk_madeBy 36 = .ok (.iload_n 2, 1) := by decide +kernel
theorem d_Walk_madeBy_37 : decode b_Walk_madeBy 37 = .ok (.iaload, 1) := by decide +kernel
theorem d_Walk_madeBy_38 : decode b_Walk_madeBy 38 = .ok (.iaload, 1) := by decide +kernel
theorem d_Walk_madeBy_39 : decode b_Walk_madeBy 39 = .ok (.istore 5, 2) := by decide +kernel
theorem d_Walk_madeBy_41 : decode b_Walk_madeBy 41 = .ok (.iload 4, 2) := by decide +kernel
theorem d_Walk_madeBy_43 : decode b_Walk_madeBy 43 = .ok (.iconst 2, 1) := by decide +kernel
theorem d_Walk_madeBy_44 : decode b_Walk_madeBy 44 = .ok (.if_icmp .ne 6, 3) := by decide +kernel
theorem d_Walk_madeBy_47 : decode b_Walk_madeBy 47 = .ok (.iload 5, 2) := by decide +kernel
theorem d_Walk_madeBy_49 : decode b_Walk_madeBy 49 = .ok (.ireturn, 1) := by decide +kernel
theorem d_Walk_madeBy_50 : decode b_Walk_madeBy 50 = .ok (.aload_n 0, 1) := by decide +kernel
theorem d_Walk_madeBy_51 : decode b_Walk_madeBy 51 = .ok (.getfield 9, 3) := by decide +kernel
theorem d_Walk_madeBy_54 : decode b_Walk_madeBy 54 = .ok (.aload_n 1, 1) := by decide +kernel
theorem d_Walk_madeBy_55 : decode b_Walk_madeBy 55 = .ok (.getfield 82, 3) := by decide +kernel
theorem d_Walk_madeBy_58 : decode b_Walk_madeBy 58 = .ok (.iload_n 2, 1) := by decide +kernel
theorem d_Walk_madeBy_59 : decode b_Walk_madeBy 59 = .ok (.iaload, 1) := by decide +kernel
theorem d_Walk_madeBy_60 : decode b_Walk_madeBy 60 = .ok (.iaload, 1) := by decide +kernel
theorem d_Walk_madeBy_61 : decode b_Walk_madeBy 61 = .ok (.istore 6, 2) := by decide +kernel
theorem d_Walk_madeBy_63 : decode b_Walk_madeBy 63 = .ok (.iload_n 3, 1) := by decide +kernel
theorem d_Walk_madeBy_64 : decode b_Walk_madeBy 64 = .ok (.ifCond .eq 19, 3) := by decide +kernel
theorem d_Walk_madeBy_67 : decode b_Walk_madeBy 67 = .ok (.aload_n 0, 1) := by decide +kernel
theorem d_Walk_madeBy_68 : decode b_Walk_madeBy 68 = .ok (.getfield 21, 3) := by decide +kernel
theorem d_Walk_madeBy_71 : decode b_Walk_madeBy 71 = .ok (.iload 4, 2) := by decide +kernel
theorem d_Walk_madeBy_73 : decode b_Walk_madeBy 73 = .ok (.iload 5, 2) := by decide +kernel
theorem d_Walk_madeBy_75 : decode b_Walk_madeBy 75 = .ok (.iload 6, 2) := by decide +kernel
theorem d_Walk_madeBy_77 : decode b_Walk_madeBy 77 = .ok (.invokevirtual 85, 3) := by decide +kernel
theorem d_Walk_madeBy_80 : decode b_Walk_madeBy 80 = .ok (.goto 16, 3) := by decide +kernel
theorem d_Walk_madeBy_83 : decode b_Walk_madeBy 83 = .ok (.aload_n 0, 1) := by decide +kernel
theorem d_Walk_madeBy_84 : decode b_Walk_madeBy 84 = .ok (.getfield 21, 3) := by decide +kernel
theorem d_Walk_madeBy_87 : decode b_Walk_madeBy 87 = .ok (.iload 4, 2) := by decide +kernel
theorem d_Walk_madeBy_89 : decode b_Walk_madeBy 89 = .ok (.iload 5, 2) := by decide +kernel
theorem d_Walk_madeBy_91 : decode b_Walk_madeBy 91 = .ok (.iload 6, 2) := by decide +kernel
theorem d_Walk_madeBy_93 : decode b_Walk_madeBy 93 = .ok (.invokevirtual 89, 3) := by decide +kernel
theorem d_Walk_madeBy_96 : decode b_Walk_madeBy 96 = .ok (.ireturn, 1) := by decide +kernel
theorem d_Walk_leastHolder_0 : decode b_Walk_leastHolder 0 = .ok (.iconst 0, 1) := by decide +kernel
theorem d_Walk_leastHolder_1 : decode b_Walk_leastHolder 1 = .ok (.istore_n 2, 1) := by decide +kernel
theorem d_Walk_leastHolder_2 : decode b_Walk_leastHolder 2 = .ok (.iload_n 2, 1) := by decide +kernel
theorem d_Walk_leastHolder_3 : decode b_Walk_leastHolder 3 = .ok (.iconst 5, 1) := by decide +kernel
theorem d_Walk_leastHolder_4 : decode b_Walk_leastHolder 4 = .ok (.if_icmp .ge 21, 3) := by decide +kernel
theorem d_Walk_leastHolder_7 : decode b_Walk_leastHolder 7 = .ok (.aload_n 0, 1) := by decide +kernel
theorem d_Walk_leastHolder_8 : decode b_Walk_leastHolder 8 = .ok (.getfield 9, 3) := by decide +kernel
theorem d_Walk_leastHolder_11 : decode b_Walk_leastHolder 11 = .ok (.iload_n 2, 1) := by decide +kernel
theorem d_Walk_leastHolder_12 : decode b_Walk_leastHolder 12 = .ok (.iaload, 1) := by decide +kernel
theorem d_Walk_leastHolder_13 : decode b_Walk_leastHolder 13 = .ok (.iload_n 1, 1) := by decide +kernel
theorem d_Walk_leastHolder_14 : decode b_Walk_leastHolder 14 = .ok (.if_icmp .ne 5, 3) := by decide +kernel
theorem d_Walk_leastHolder_17 : decode b_Walk_leastHolder 17 = .ok (.iload_n 2, 1) := by decide +kernel
theorem d_Walk_leastHolder_18 : decode b_Walk_leastHolder 18 = .ok (.ireturn, 1) := by decide +kernel
theorem d_Walk_leastHolder_19 : decode b_Walk_leastHolder 19 = .ok (.iinc 2 1, 3) := by decide +kernel
theorem d_Walk_leastHolder_22 : decode b_Walk_leastHolder 22 = .ok (.goto (-20), 3) := by decide +kernel
theorem d_Walk_leastHolder_25 : decode b_Walk_leastHolder 25 = .ok (.iconst (-1), 1) := by decide +kernel
theorem d_Walk_leastHolder_26 : decode b_Walk_leastHolder 26 = .ok (.ireturn, 1) := by decide +kernel
theorem d_BlockCode_putRepeat_0 : decode b_BlockCode_putRepeat 0 = .ok (.aload_n 0, 1) := by decide +kernel
theorem d_BlockCode_putRepeat_1 : decode b_BlockCode_putRepeat 1 = .ok (.getfield 10, 3) := by decide +kernel
theorem d_BlockCode_putRepeat_4 : decode b_BlockCode_putRepeat 4 = .ok (.getfield 149, 3) := by decide +kernel
theorem d_BlockCode_putRepeat_7 : decode b_BlockCode_putRepeat 7 = .ok (.iload_n 1, 1) := by decide +kernel
theorem d_BlockCode_putRepeat_8 : decode b_BlockCode_putRepeat 8 = .ok (.iaload, 1) := by decide +kernel
theorem d_BlockCode_putRepeat_9 : decode b_BlockCode_putRepeat 9 = .ok (.invokestatic 222, 3) := by decide +kernel
theorem d_BlockCode_putRepeat_12 : decode b_BlockCode_putRepeat 12 = .ok (.ifCond .ne 4, 3) := by decide +kernel
theorem d_BlockCode_putRepeat_15 : decode b_BlockCode_putRepeat 15 = .ok (.return_, 1) := by decide +kernel
theorem d_BlockCode_putRepeat_16 : decode b_BlockCode_putRepeat 16 = .ok (.aload_n 0, 1) := by decide +kernel
theorem d_BlockCode_putRepeat_17 : decode b_BlockCode_putRepeat 17 = .ok (.getfield 38, 3) := by decide +kernel
theorem d_BlockCode_putRepeat_20 : decode b_BlockCode_putRepeat 20 = .ok (.aload_n 0, 1) := by decide +kernel
theorem d_BlockCode_putRepeat_21 : decode b_BlockCode_putRepeat 21 = .ok (.getfield 38, 3) := by decide +kernel
theorem d_BlockCode_putRepeat_24 : decode b_BlockCode_putRepeat 24 = .ok (.aload_n 0, 1) := by decide +kernel
theorem d_BlockCode_putRepeat_25 : decode b_BlockCode_putRepeat 25 = .ok (.getfield 10, 3) := by decide +kernel
theorem d_BlockCode_putRepeat_28 : decode b_BlockCode_putRepeat 28 = .ok (.iload_n 1, 1) := by decide +kernel
theorem d_BlockCode_putRepeat_29 : decode b_BlockCode_putRepeat 29 = .ok (.iconst 0, 1) := by decide +kernel
theorem d_BlockCode_putRepeat_30 : decode b_BlockCode_putRepeat 30 = .ok (.invokevirtual 225, 3) := by decide +kernel
theorem d_BlockCode_putRepeat_33 : decode b_BlockCode_putRepeat 33 = .ok (.invokevirtual 228, 3) := by decide +kernel
theorem d_BlockCode_putRepeat_36 : decode b_BlockCode_putRepeat 36 = .ok (.istore_n 2, 1) := by decide +kernel
theorem d_BlockCode_putRepeat_37 : decode b_BlockCode_putRepeat 37 = .ok (.iload_n 2, 1) := by decide +kernel
theorem d_BlockCode_putRepeat_38 : decode b_BlockCode_putRepeat 38 = .ok (.aload_n 0, 1) := by decide +kernel
theorem d_BlockCode_putRepeat_39 : decode b_BlockCode_putRepeat 39 = .ok (.getfield 10, 3) := by decide +kernel
theorem d_BlockCode_putRepeat_42 : decode b_BlockCode_putRepeat 42 = .ok (.getfield 156, 3) := by decide +kernel
theorem d_BlockCode_putRepeat_45 : decode b_BlockCode_putRepeat 45 = .ok (.iload_n 1, 1) := by decide +kernel
theorem d_BlockCode_putRepeat_46 : decode b_BlockCode_putRepeat 46 = .ok (.iaload, 1) := by decide +kernel
theorem d_BlockCode_putRepeat_47 : decode b_BlockCode_putRepeat 47 = .ok (.if_icmp .ne 18, 3) := by decide +kernel
theorem d_BlockCode_putRepeat_50 : decode b_BlockCode_putRepeat 50 = .ok (.aload_n 0, 1) := by decide +kernel
theorem d_BlockCode_putRepeat_51 : decode b_BlockCode_putRepeat 51 = .ok (.getfield 16, 3) := by decide +kernel
theorem d_BlockCode_putRepeat_54 : decode b_BlockCode_putRepeat 54 = .ok (.iload_n 1, 1) := by decide +kernel
theorem d_BlockCode_putRepeat_55 : decode b_BlockCode_putRepeat 55 = .ok (.iconst 0, 1) := by decide +kernel
theorem d_BlockCode_putRepeat_56 : decode b_BlockCode_putRepeat 56 = .ok (.iconst 0, 1) := by decide +kernel
theorem d_BlockCode_putRepeat_57 : decode b_BlockCode_putRepeat 57 = .ok (.iconst 0, 1) := by decide +kernel
theorem d_BlockCode_putRepeat_58 : decode b_BlockCode_putRepeat 58 = .ok (.iconst 0, 1) := by decide +kernel
theorem d_BlockCode_putRepeat_59 : decode b_BlockCode_putRepeat 59 = .ok (.invokevirtual 74, 3) := by decide +kernel
theorem d_BlockCode_putRepeat_62 : decode b_BlockCode_putRepeat 62 = .ok (.goto 27, 3) := by decide +kernel
theorem d_BlockCode_putRepeat_65 : decode b_BlockCode_putRepeat 65 = .ok (.iload_n 2, 1) := by decide +kernel
theorem d_BlockCode_putRepeat_66 : decode b_BlockCode_putRepeat 66 = .ok (.ifCond .lt 23, 3) := by decide +kernel
theorem d_BlockCode_putRepeat_69 : decode b_BlockCode_putRepeat 69 = .ok (.aload_n 0, 1) := by decide +kernel
theorem d_BlockCode_putRepeat_70 : decode b_BlockCode_putRepeat 70 = .ok (.getfield 16, 3) := by decide +kernel
theorem d_BlockCode_putRepeat_73 : decode b_BlockCode_putRepeat 73 = .ok (.iload_n 1, 1) := by decide +kernel
theorem d_BlockCode_putRepeat_74 : decode b_BlockCode_putRepeat 74 = .ok (.iconst 2, 1) := by decide +kernel
theorem d_BlockCode_putRepeat_75 : decode b_BlockCode_putRepeat 75 = .ok (.aload_n 0, 1) := by decide +kernel
theorem d_BlockCode_putRepeat_76 : decode b_BlockCode_putRepeat 76 = .ok (.getfield 10, 3) := by decide +kernel
theorem d_BlockCode_putRepeat_79 : decode b_BlockCode_putRepeat 79 = .ok (.getfield 156, 3) := by decide +kernel
theorem d_BlockCode_putRepeat_82 : decode b_BlockCode_putRepeat 82 = .ok (.iload_n 1, 1) := by decide +kernel
theorem d_BlockCode_putRepeat_83 : decode b_BlockCode_putRepeat 83 = .ok (.iaload, 1) := by decide +kernel
theorem d_BlockCode_putRepeat_84 : decode b_BlockCode_putRepeat 84 = .ok (.iload_n 2, 1) := by decide +kernel
theorem d_BlockCode_putRepeat_85 : decode b_BlockCode_putRepeat 85 = .ok (.iconst 0, 1) := by decide +kernel
theorem d_BlockCode_putRepeat_86 : decode b_BlockCode_putRepeat 86 = .ok (.invokevirtual 74, 3) := by decide +kernel
theorem d_BlockCode_putRepeat_89 : decode b_BlockCode_putRepeat 89 = .ok (.return_, 1) := by decide +kernel
theorem d_Walk_follow_0 : decode b_Walk_follow 0 = .ok (.aload_n 1, 1) := by decide +kernel
theorem d_Walk_follow_1 : decode b_Walk_follow 1 = .ok (.getfield 48, 3) := by decide +kernel
theorem d_Walk_follow_4 : decode b_Walk_follow 4 = .ok (.iload_n 2, 1) := by decide +kernel
theorem d_Walk_follow_5 : decode b_Walk_follow 5 = .ok (.iaload, 1) := by decide +kernel
theorem d_Walk_follow_6 : decode b_Walk_follow 6 = .ok (.invokestatic 68, 3) := by decide +kernel
theorem d_Walk_follow_9 : decode b_Walk_follow 9 = .ok (.ifCond .eq 21, 3) := by decide +kernel
theorem d_Walk_follow_12 : decode b_Walk_follow 12 = .ok (.aload_n 0, 1) := by decide +kernel
theorem d_Walk_follow_13 : decode b_Walk_follow 13 = .ok (.getfield 9, 3) := by decide +kernel
theorem d_Walk_follow_16 : decode b_Walk_follow 16 = .ok (.aload_n 1, 1) := by decide +kernel
theorem d_Walk_follow_17 : decode b_Walk_follow 17 = .ok (.getfield 72, 3) := by decide +kernel
theorem d_Walk_follow_20 : decode b_Walk_follow 20 = .ok (.iload_n 2, 1) := by decide +kernel
theorem d_Walk_follow_21 : decode b_Walk_follow 21 = .ok (.iaload, 1) := by decide +kernel
theorem d_Walk_follow_22 : decode b_Walk_follow 22 = .ok (.aload_n 0, 1) := by decide +kernel
theorem d_Walk_follow_23 : decode b_Walk_follow 23 = .ok (.aload_n 1, 1) := by decide +kernel
theorem d_Walk_follow_24 : decode b_Walk_follow 24 = .ok (.iload_n 2, 1) := by decide +kernel
theorem d_Walk_follow_25 : decode b_Walk_follow 25 = .ok (.iload_n 3, 1) := by decide +kernel
theorem d_Walk_follow_26 : decode b_Walk_follow 26 = .ok (.invokevirtual 75, 3) := by decide +kernel
theorem d_Walk_follow_29 : decode b_Walk_follow 29 = .ok (.iastore, 1) := by decide +kernel
theorem d_Walk_follow_30 : decode b_Walk_follow 30 = .ok (.return_, 1) := by decide +kernel
theorem d_BlockCode_repeats_0 : decode b_BlockCode_repeats 0 = .ok (.aload_n 0, 1) := by decide +kernel
theorem d_BlockCode_repeats_1 : decode b_BlockCode_repeats 1 = .ok (.invokevirtual 119, 3) := by decide +kernel
theorem d_BlockCode_repeats_4 : decode b_BlockCode_repeats 4 = .ok (.aload_n 0, 1) := by decide +kernel
theorem d_BlockCode_repeats_5 : decode b_BlockCode_repeats 5 = .ok (.invokevirtual 87, 3) := by decide +kernel
theorem d_BlockCode_repeats_8 : decode b_BlockCode_repeats 8 = .ok (.iconst 0, 1) := by decide +kernel
theorem d_BlockCode_repeats_9 : decode b_BlockCode_repeats 9 = .ok (.istore_n 1, 1) := by decide +kernel
theorem d_BlockCode_repeats_10 : decode b_BlockCode_repeats 10 = .ok (.iload_n 1, 1) := by decide +kernel
theorem d_BlockCode_repeats_11 : decode b_BlockCode_repeats 11 = .ok (.aload_n 0, 1) := by decide +kernel
theorem d_BlockCode_repeats_12 : decode b_BlockCode_repeats 12 = .ok (.getfield 10, 3) := by decide +kernel
theorem d_BlockCode_repeats_15 : decode b_BlockCode_repeats 15 = .ok (.getfield 70, 3) := by decide +kernel
theorem d_BlockCode_repeats_18 : decode b_BlockCode_repeats 18 = .ok (.if_icmp .ge 52, 3) := by decide +kernel
theorem d_BlockCode_repeats_21 : decode b_BlockCode_repeats 21 = .ok (.aload_n 0, 1) := by decide +kernel
theorem d_BlockCode_repeats_22 : decode b_BlockCode_repeats 22 = .ok (.getfield 10, 3) := by decide +kernel
theorem d_BlockCode_repeats_25 : decode b_BlockCode_repeats 25 = .ok (.iload_n 1, 1) := by decide +kernel
theorem d_BlockCode_repeats_26 : decode b_BlockCode_repeats 26 = .ok (.invokevirtual 133, 3) := by decide +kernel
theorem d_BlockCode_repeats_29 : decode b_BlockCode_repeats 29 = .ok (.ifCond .eq 17, 3) := by decide +kernel
theorem d_BlockCode_repeats_32 : decode b_BlockCode_repeats 32 = .ok (.aload_n 0, 1) := by decide +kernel
theorem d_BlockCode_repeats_33 : decode b_BlockCode_repeats 33 = .ok (.getfield 29, 3) := by decide +kernel
theorem d_BlockCode_repeats_36 : decode b_BlockCode_repeats 36 = .ok (.invokevirtual 136, 3) := by decide +kernel
theorem d_BlockCode_repeats_39 : decode b_BlockCode_repeats 39 = .ok (.aload_n 0, 1) := by decide +kernel
theorem d_BlockCode_repeats_40 : decode b_BlockCode_repeats 40 = .ok (.getfield 38, 3) := by decide +kernel
theorem d_BlockCode_repeats_43 : decode b_BlockCode_repeats 43 = .ok (.invokevirtual 139, 3) := by decide +kernel
theorem d_BlockCode_repeats_46 : decode b_BlockCode_repeats 46 = .ok (.aload_n 0, 1) := by decide +kernel
theorem d_BlockCode_repeats_47 : decode b_BlockCode_repeats 47 = .ok (.iload_n 1, 1) := by decide +kernel
theorem d_BlockCode_repeats_48 : decode b_BlockCode_repeats 48 = .ok (.invokevirtual 142, 3) := by decide +kernel
theorem d_BlockCode_repeats_51 : decode b_BlockCode_repeats 51 = .ok (.aload_n 0, 1) := by decide +kernel
theorem d_BlockCode_repeats_52 : decode b_BlockCode_repeats 52 = .ok (.getfield 38, 3) := by decide +kernel
theorem d_BlockCode_repeats_55 : decode b_BlockCode_repeats 55 = .ok (.aload_n 0, 1) := by decide +kernel
theorem d_BlockCode_repeats_56 : decode b_BlockCode_repeats 56 = .ok (.getfield 10, 3) := by decide +kernel
theorem d_BlockCode_repeats_59 : decode b_BlockCode_repeats 59 = .ok (.iload_n 1, 1) := by decide +kernel
theorem d_BlockCode_repeats_60 : decode b_BlockCode_repeats 60 = .ok (.iconst 0, 1) := by decide +kernel
theorem d_BlockCode_repeats_61 : decode b_BlockCode_repeats 61 = .ok (.invokevirtual 145, 3) := by decide +kernel
theorem d_BlockCode_repeats_64 : decode b_BlockCode_repeats 64 = .ok (.iinc 1 1, 3) := by decide +kernel
theorem d_BlockCode_repeats_67 : decode b_BlockCode_repeats 67 = .ok (.goto (-57), 3) := by decide +kernel
theorem d_BlockCode_repeats_70 : decode b_BlockCode_repeats 70 = .ok (.aload_n 0, 1) := by decide +kernel
theorem d_BlockCode_repeats_71 : decode b_BlockCode_repeats 71 = .ok (.getfield 16, 3) := by decide +kernel
theorem d_BlockCode_repeats_74 : decode b_BlockCode_repeats 74 = .ok (.aload_n 0, 1) := by decide +kernel
theorem d_BlockCode_repeats_75 : decode b_BlockCode_repeats 75 = .ok (.getfield 10, 3) := by decide +kernel
theorem d_BlockCode_repeats_78 : decode b_BlockCode_repeats 78 = .ok (.invokevirtual 129, 3) := by decide +kernel
theorem d_BlockCode_repeats_81 : decode b_BlockCode_repeats 81 = .ok (.ireturn, 1) := by decide +kernel
theorem d_BlockCode_unneeded_0 : decode b_BlockCode_unneeded 0 = .ok (.aload_n 0, 1) := by decide +kernel
theorem d_BlockCode_unneeded_1 : decode b_BlockCode_unneeded 1 = .ok (.invokevirtual 119, 3) := by decide +kernel
theorem d_BlockCode_unneeded_4 : decode b_BlockCode_unneeded 4 = .ok (.aload_n 0, 1) := by decide +kernel
theorem d_BlockCode_unneeded_5 : decode b_BlockCode_unneeded 5 = .ok (.invokevirtual 87, 3) := by decide +kernel
theorem d_BlockCode_unneeded_8 : decode b_BlockCode_unneeded 8 = .ok (.iconst 0, 1) := by decide +kernel
theorem d_BlockCode_unneeded_9 : decode b_BlockCode_unneeded 9 = .ok (.istore_n 1, 1) := by decide +kernel
theorem d_BlockCode_unneeded_10 : decode b_BlockCode_unneeded 10 = .ok (.iload_n 1, 1) := by decide +kernel
theorem d_BlockCode_unneeded_11 : decode b_BlockCode_unneeded 11 = .ok (.aload_n 0, 1) := by decide +kernel
theorem d_BlockCode_unneeded_12 : decode b_BlockCode_unneeded 12 = .ok (.getfield 10, 3) := by decide +kernel
theorem d_BlockCode_unneeded_15 : decode b_BlockCode_unneeded 15 = .ok (.getfield 70, 3) := by decide +kernel
theorem d_BlockCode_unneeded_18 : decode b_BlockCode_unneeded 18 = .ok (.if_icmp .ge 79, 3) := by decide +kernel
theorem d_BlockCode_unneeded_21 : decode b_BlockCode_unneeded 21 = .ok (.aload_n 0, 1) := by decide +kernel
theorem d_BlockCode_unneeded_22 : decode b_BlockCode_unneeded 22 = .ok (.getfield 10, 3) := by decide +kernel
theorem d_BlockCode_unneeded_25 : decode b_BlockCode_unneeded 25 = .ok (.getfield 149, 3) := by decide +kernel
theorem d_BlockCode_unneeded_28 : decode b_BlockCode_unneeded 28 = .ok (.iload_n 1, 1) := by decide +kernel
theorem d_BlockCode_unneeded_29 : decode b_BlockCode_unneeded 29 = .ok (.iaload, 1) := by decide +kernel
theorem d_BlockCode_unneeded_30 : decode b_BlockCode_unneeded 30 = .ok (.istore_n 2, 1) := by decide +kernel
theorem d_BlockCode_unneeded_31 : decode b_BlockCode_unneeded 31 = .ok (.iload_n 2, 1) := by decide +kernel
theorem d_BlockCode_unneeded_32 : decode b_BlockCode_unneeded 32 = .ok (.invokestatic 153, 3) := by decide +kernel
theorem d_BlockCode_unneeded_35 : decode b_BlockCode_unneeded 35 = .ok (.ifCond .eq 13, 3) := by decide +kernel
theorem d_BlockCode_unneeded_38 : decode b_BlockCode_unneeded 38 = .ok (.iload_n 2, 1) := by decide +kernel
theorem d_BlockCode_unneeded_39 : decode b_BlockCode_unneeded 39 = .ok (.bipush 6, 2) := by decide +kernel
theorem d_BlockCode_unneeded_41 : decode b_BlockCode_unneeded 41 = .ok (.if_icmp .eq 7, 3) := by decide +kernel
theorem d_BlockCode_unneeded_44 : decode b_BlockCode_unneeded 44 = .ok (.iconst 1, 1) := by decide +kernel
theorem d_BlockCode_unneeded_45 : decode b_BlockCode_unneeded 45 = .ok (.goto 4, 3) := by decide +kernel
theorem d_BlockCode_unneeded_48 : decode b_BlockCode_unneeded 48 = .ok (.iconst 0, 1) := by decide +kernel
theorem d_BlockCode_unneeded_49 : decode b_BlockCode_unneeded 49 = .ok (.istore_n 3, 1) := by decide +kernel
theorem d_BlockCode_unneeded_50 : decode b_BlockCode_unneeded 50 = .ok (.iload_n 3, 1) := by decide +kernel
theorem d_BlockCode_unneeded_51 : decode b_BlockCode_unneeded 51 = .ok (.ifCond .eq 40, 3) := by decide +kernel
theorem d_BlockCode_unneeded_54 : decode b_BlockCode_unneeded 54 = .ok (.aload_n 0, 1) := by decide +kernel
theorem d_BlockCode_unneeded_55 : decode b_BlockCode_unneeded 55 = .ok (.getfield 10, 3) := by decide +kernel
theorem d_BlockCode_unneeded_58 : decode b_BlockCode_unneeded 58 = .ok (.getfield 156, 3) := by decide +kernel
theorem d_BlockCode_unneeded_61 : decode b_BlockCode_unneeded 61 = .ok (.iload_n 1, 1) := by decide +kernel
theorem d_BlockCode_unneeded_62 : decode b_BlockCode_unneeded 62 = .ok (.iaload, 1) := by decide +kernel
theorem d_BlockCode_unneeded_63 : decode b_BlockCode_unneeded 63 = .ok (.aload_n 0, 1) := by decide +kernel
theorem d_BlockCode_unneeded_64 : decode b_BlockCode_unneeded 64 = .ok (.getfield 10, 3) := by decide +kernel
theorem d_BlockCode_unneeded_67 : decode b_BlockCode_unneeded 67 = .ok (.iload_n 1, 1) := by decide +kernel
theorem d_BlockCode_unneeded_68 : decode b_BlockCode_unneeded 68 = .ok (.iconst 1, 1) := by decide +kernel
theorem d_BlockCode_unneeded_69 : decode b_BlockCode_unneeded 69 = .ok (.iadd, 1) := by decide +kernel
theorem d_BlockCode_unneeded_70 : decode b_BlockCode_unneeded 70 = .ok (.invokevirtual 116, 3) := by decide +kernel
theorem d_BlockCode_unneeded_73 : decode b_BlockCode_unneeded 73 = .ok (.invokestatic 159, 3) := by decide +kernel
theorem d_BlockCode_unneeded_76 : decode b_BlockCode_unneeded 76 = .ok (.ifCond .ne 15, 3) := by decide +kernel
theorem d_BlockCode_unneeded_79 : decode b_BlockCode_unneeded 79 = .ok (.aload_n 0, 1) := by decide +kernel
theorem d_BlockCode_unneeded_80 : decode b_BlockCode_unneeded 80 = .ok (.getfield 16, 3) := by decide +kernel
theorem d_BlockCode_unneeded_83 : decode b_BlockCode_unneeded 83 = .ok (.iload_n 1, 1) := by decide +kernel
theorem d_BlockCode_unneeded_84 : decode b_BlockCode_unneeded 84 = .ok (.iconst 0, 1) := by decide +kernel
theorem d_BlockCode_unneeded_85 : decode b_BlockCode_unneeded 85 = .ok (.iconst 0, 1) := by decide +kernel
theorem d_BlockCode_unneeded_86 : decode b_BlockCode_unneeded 86 = .ok (.iconst 0, 1) := by decide +kernel
theorem d_BlockCode_unneeded_87 : decode b_BlockCode_unneeded 87 = .ok (.iconst 0, 1) := by decide +kernel
theorem d_BlockCode_unneeded_88 : decode b_BlockCode_unneeded 88 = .ok (.invokevirtual 74, 3) := by decide +kernel
theorem d_BlockCode_unneeded_91 : decode b_BlockCode_unneeded 91 = .ok (.iinc 1 1, 3) := by decide +kernel
theorem d_BlockCode_unneeded_94 : decode b_BlockCode_unneeded 94 = .ok (.goto (-84), 3) := by decide +kernel
theorem d_BlockCode_unneeded_97 : decode b_BlockCode_unneeded 97 = .ok (.aload_n 0, 1) := by decide +kernel
theorem d_BlockCode_unneeded_98 : decode b_BlockCode_unneeded 98 = .ok (.getfield 16, 3) := by decide +kernel
theorem d_BlockCode_unneeded_101 : decode b_BlockCode_unneeded 101 = .ok (.aload_n 0, 1) := by decide +kernel
theorem d_BlockCode_unneeded_102 : decode b_BlockCode_unneeded 102 = .ok (.getfield 10, 3) := by decide +kernel
theorem d_BlockCode_unneeded_105 : decode b_BlockCode_unneeded 105 = .ok (.invokevirtual 129, 3) := by decide +kernel
theorem d_BlockCode_unneeded_108 : decode b_BlockCode_unneeded 108 = .ok (.ireturn, 1) := by decide +kernel
theorem d_BlockCode_poke_0 : decode b_BlockCode_poke 0 = .ok (.aload_n 0, 1) := by decide +kernel
theorem d_BlockCode_poke_1 : decode b_BlockCode_poke 1 = .ok (.getfield 16, 3) := by decide +kernel
theorem d_BlockCode_poke_4 : decode b_BlockCode_poke 4 = .ok (.iload_n 1, 1) := by decide +kernel
theorem d_BlockCode_poke_5 : decode b_BlockCode_poke 5 = .ok (.invokevirtual 103, 3) := by decide +kernel
theorem d_BlockCode_poke_8 : decode b_BlockCode_poke 8 = .ok (.ifCond .ne 5, 3) := by decide +kernel
theorem d_BlockCode_poke_11 : decode b_BlockCode_poke 11 = .ok (.iconst 0, 1) := by decide +kernel
theorem d_BlockCode_poke_12 : decode b_BlockCode_poke 12 = .ok (.ireturn, 1) := by decide +kernel
theorem d_BlockCode_poke_13 : decode b_BlockCode_poke 13 = .ok (.iload_n 2, 1) := by decide +kernel
theorem d_BlockCode_poke_14 : decode b_BlockCode_poke 14 = .ok (.iload_n 3, 1) := by decide +kernel
theorem d_BlockCode_poke_15 : decode b_BlockCode_poke 15 = .ok (.iload 4, 2) := by decide +kernel
theorem d_BlockCode_poke_17 : decode b_BlockCode_poke 17 = .ok (.iload 5, 2) := by decide +kernel
theorem d_BlockCode_poke_19 : decode b_BlockCode_poke 19 = .ok (.invokestatic 66, 3) := by decide +kernel
theorem d_BlockCode_poke_22 : decode b_BlockCode_poke 22 = .ok (.ifCond .eq 21, 3) := by decide +kernel
theorem d_BlockCode_poke_25 : decode b_BlockCode_poke 25 = .ok (.iload_n 2, 1) := by decide +kernel
theorem d_BlockCode_poke_26 : decode b_BlockCode_poke 26 = .ok (.iload 4, 2) := by decide +kernel
theorem d_BlockCode_poke_28 : decode b_BlockCode_poke 28 = .ok (.iload 5, 2) := by decide +kernel
theorem d_BlockCode_poke_30 : decode b_BlockCode_poke 30 = .ok (.invokestatic 163, 3) := by decide +kernel
theorem d_BlockCode_poke_33 : decode b_BlockCode_poke 33 = .ok (.aload_n 0, 1) := by decide +kernel
theorem d_BlockCode_poke_34 : decode b_BlockCode_poke 34 = .ok (.getfield 10, 3) := by decide +kernel
theorem d_BlockCode_poke_37 : decode b_BlockCode_poke 37 = .ok (.getfield 70, 3) := by decide +kernel
theorem d_BlockCode_poke_40 : decode b_BlockCode_poke 40 = .ok (.if_icmp .lt 5, 3) := by decide +kernel
theorem d_BlockCode_poke_43 : decode b_BlockCode_poke 43 = .ok (.iconst 0, 1) := by decide +kernel
theorem d_BlockCode_poke_44 : decode b_BlockCode_poke 44 = .ok (.ireturn, 1) := by decide +kernel
theorem d_BlockCode_poke_45 : decode b_BlockCode_poke 45 = .ok (.aload_n 0, 1) := by decide +kernel
theorem d_BlockCode_poke_46 : decode b_BlockCode_poke 46 = .ok (.getfield 16, 3) := by decide +kernel
theorem d_BlockCode_poke_49 : decode b_BlockCode_poke 49 = .ok (.iload_n 1, 1) := by decide +kernel
theorem d_BlockCode_poke_50 : decode b_BlockCode_poke 50 = .ok (.iload_n 2, 1) := by decide +kernel
theorem d_BlockCode_poke_51 : decode b_BlockCode_poke 51 = .ok (.iload_n 3, 1) := by decide +kernel
theorem d_BlockCode_poke_52 : decode b_BlockCode_poke 52 = .ok (.iload 4, 2) := by decide +kernel
