theorem d_Code_needBehind_39 : decode b_Code_needBehind 39 = .ok (.invokevirtual 73, 3) := by decide +kernel
theorem d_Code_needBehind_42 : decode b_Code_needBehind 42 = .ok (.ireturn, 1) := by decide +kernel
theorem d_Code_needBehind_43 : decode b_Code_needBehind 43 = .ok (.aload_n 0, 1) := by decide +kernel
theorem d_Code_needBehind_44 : decode b_Code_needBehind 44 = .ok (.aload_n 0, 1) := by decide +kernel
theorem d_Code_needBehind_45 : decode b_Code_needBehind 45 = .ok (.getfield 21, 3) := by decide +kernel
theorem d_Code_needBehind_48 : decode b_Code_needBehind 48 = .ok (.iload_n 1, 1) := by decide +kernel
theorem d_Code_needBehind_49 : decode b_Code_needBehind 49 = .ok (.iaload, 1) := by decide +kernel
theorem d_Code_needBehind_50 : decode b_Code_needBehind 50 = .ok (.invokevirtual 73, 3) := by decide +kernel
theorem d_Code_needBehind_53 : decode b_Code_needBehind 53 = .ok (.aload_n 0, 1) := by decide +kernel
theorem d_Code_needBehind_54 : decode b_Code_needBehind 54 = .ok (.iload_n 1, 1) := by decide +kernel
theorem d_Code_needBehind_55 : decode b_Code_needBehind 55 = .ok (.iconst 1, 1) := by decide +kernel
theorem d_Code_needBehind_56 : decode b_Code_needBehind 56 = .ok (.iadd, 1) := by decide +kernel
theorem d_Code_needBehind_57 : decode b_Code_needBehind 57 = .ok (.invokevirtual 73, 3) := by decide +kernel
theorem d_Code_needBehind_60 : decode b_Code_needBehind 60 = .ok (.ior, 1) := by decide +kernel
theorem d_Code_needBehind_61 : decode b_Code_needBehind 61 = .ok (.ireturn, 1) := by decide +kernel
theorem d_Code_needBehind_62 : decode b_Code_needBehind 62 = .ok (.iconst 0, 1) := by decide +kernel
theorem d_Code_needBehind_63 : decode b_Code_needBehind 63 = .ok (.ireturn, 1) := by decide +kernel
theorem d_Code_needBehind_64 : decode b_Code_needBehind 64 = .ok (.aload_n 0, 1) := by decide +kernel
theorem d_Code_needBehind_65 : decode b_Code_needBehind 65 = .ok (.iload_n 1, 1) := by decide +kernel
theorem d_Code_needBehind_66 : decode b_Code_needBehind 66 = .ok (.iconst 1, 1) := by decide +kernel
theorem d_Code_needBehind_67 : decode b_Code_needBehind 67 = .ok (.iadd, 1) := by decide +kernel
theorem d_Code_needBehind_68 : decode b_Code_needBehind 68 = .ok (.invokevirtual 73, 3) := by decide +kernel
theorem d_Code_needBehind_71 : decode b_Code_needBehind 71 = .ok (.ireturn, 1) := by decide +kernel
theorem d_Code_madeBy_0 : decode b_Code_madeBy 0 = .ok (.aload_n 0, 1) := by decide +kernel
theorem d_Code_madeBy_1 : decode b_Code_madeBy 1 = .ok (.getfield 9, 3) := by decide +kernel
theorem d_Code_madeBy_4 : decode b_Code_madeBy 4 = .ok (.iload_n 1, 1) := by decide +kernel
theorem d_Code_madeBy_5 : decode b_Code_madeBy 5 = .ok (.iaload, 1) := by decide +kernel
theorem d_Code_madeBy_6 : decode b_Code_madeBy 6 = .ok (.invokestatic 31, 3) := by decide +kernel
theorem d_Code_madeBy_9 : decode b_Code_madeBy 9 = .ok (.ifCond .eq 14, 3) := by decide +kernel
theorem d_Code_madeBy_12 : decode b_Code_madeBy 12 = .ok (.iconst 1, 1) := by decide +kernel
theorem d_Code_madeBy_13 : decode b_Code_madeBy 13 = .ok (.aload_n 0, 1) := by decide +kernel
theorem d_Code_madeBy_14 : decode b_Code_madeBy 14 = .ok (.getfield 15, 3) := by decide +kernel
theorem d_Code_madeBy_17 : decode b_Code_madeBy 17 = .ok (.iload_n 1, 1) := by decide +kernel
theorem d_Code_madeBy_18 : decode b_Code_madeBy 18 = .ok (.iaload, 1) := by decide +kernel
theorem d_Code_madeBy_19 : decode b_Code_madeBy 19 = .ok (.ishl, 1) := by decide +kernel
theorem d_Code_madeBy_20 : decode b_Code_madeBy 20 = .ok (.goto 4, 3) := by decide +kernel
theorem d_Code_madeBy_23 : decode b_Code_madeBy 23 = .ok (.iconst 0, 1) := by decide +kernel
theorem d_Code_madeBy_24 : decode b_Code_madeBy 24 = .ok (.ireturn, 1) := by decide +kernel
theorem d_Code_findNeeds_0 : decode b_Code_findNeeds 0 = .ok (.iconst 0, 1) := by decide +kernel
theorem d_Code_findNeeds_1 : decode b_Code_findNeeds 1 = .ok (.istore_n 1, 1) := by decide +kernel
theorem d_Code_findNeeds_2 : decode b_Code_findNeeds 2 = .ok (.iload_n 1, 1) := by decide +kernel
theorem d_Code_findNeeds_3 : decode b_Code_findNeeds 3 = .ok (.aload_n 0, 1) := by decide +kernel
theorem d_Code_findNeeds_4 : decode b_Code_findNeeds 4 = .ok (.getfield 27, 3) := by decide +kernel
theorem d_Code_findNeeds_7 : decode b_Code_findNeeds 7 = .ok (.if_icmp .ge 16, 3) := by decide +kernel
theorem d_Code_findNeeds_10 : decode b_Code_findNeeds 10 = .ok (.aload_n 0, 1) := by decide +kernel
theorem d_Code_findNeeds_11 : decode b_Code_findNeeds 11 = .ok (.getfield 24, 3) := by decide +kernel
theorem d_Code_findNeeds_14 : decode b_Code_findNeeds 14 = .ok (.iload_n 1, 1) := by decide +kernel
theorem d_Code_findNeeds_15 : decode b_Code_findNeeds 15 = .ok (.iconst 0, 1) := by decide +kernel
theorem d_Code_findNeeds_16 : decode b_Code_findNeeds 16 = .ok (.iastore, 1) := by decide +kernel
theorem d_Code_findNeeds_17 : decode b_Code_findNeeds 17 = .ok (.iinc 1 1, 3) := by decide +kernel
theorem d_Code_findNeeds_20 : decode b_Code_findNeeds 20 = .ok (.goto (-18), 3) := by decide +kernel
theorem d_Code_findNeeds_23 : decode b_Code_findNeeds 23 = .ok (.iconst 1, 1) := by decide +kernel
theorem d_Code_findNeeds_24 : decode b_Code_findNeeds 24 = .ok (.istore_n 1, 1) := by decide +kernel
theorem d_Code_findNeeds_25 : decode b_Code_findNeeds 25 = .ok (.iconst 0, 1) := by decide +kernel
theorem d_Code_findNeeds_26 : decode b_Code_findNeeds 26 = .ok (.istore_n 2, 1) := by decide +kernel
theorem d_Code_findNeeds_27 : decode b_Code_findNeeds 27 = .ok (.iload_n 1, 1) := by decide +kernel
theorem d_Code_findNeeds_28 : decode b_Code_findNeeds 28 = .ok (.ifCond .eq 84, 3) := by decide +kernel
theorem d_Code_findNeeds_31 : decode b_Code_findNeeds 31 = .ok (.iload_n 2, 1) := by decide +kernel
theorem d_Code_findNeeds_32 : decode b_Code_findNeeds 32 = .ok (.bipush 101, 2) := by decide +kernel
theorem d_Code_findNeeds_34 : decode b_Code_findNeeds 34 = .ok (.if_icmp .ge 78, 3) := by decide +kernel
theorem d_Code_findNeeds_37 : decode b_Code_findNeeds 37 = .ok (.iconst 0, 1) := by decide +kernel
theorem d_Code_findNeeds_38 : decode b_Code_findNeeds 38 = .ok (.istore_n 1, 1) := by decide +kernel
theorem d_Code_findNeeds_39 : decode b_Code_findNeeds 39 = .ok (.aload_n 0, 1) := by decide +kernel
theorem d_Code_findNeeds_40 : decode b_Code_findNeeds 40 = .ok (.getfield 27, 3) := by decide +kernel
theorem d_Code_findNeeds_43 : decode b_Code_findNeeds 43 = .ok (.iconst 1, 1) := by decide +kernel
theorem d_Code_findNeeds_44 : decode b_Code_findNeeds 44 = .ok (.isub, 1) := by decide +kernel
theorem d_Code_findNeeds_45 : decode b_Code_findNeeds 45 = .ok (.istore_n 3, 1) := by decide +kernel
theorem d_Code_findNeeds_46 : decode b_Code_findNeeds 46 = .ok (.iload_n 3, 1) := by decide +kernel
theorem d_Code_findNeeds_47 : decode b_Code_findNeeds 47 = .ok (.ifCond .lt 59, 3) := by decide +kernel
theorem d_Code_findNeeds_50 : decode b_Code_findNeeds 50 = .ok (.aload_n 0, 1) := by decide +kernel
theorem d_Code_findNeeds_51 : decode b_Code_findNeeds 51 = .ok (.iload_n 3, 1) := by decide +kernel
theorem d_Code_findNeeds_52 : decode b_Code_findNeeds 52 = .ok (.invokevirtual 63, 3) := by decide +kernel
theorem d_Code_findNeeds_55 : decode b_Code_findNeeds 55 = .ok (.aload_n 0, 1) := by decide +kernel
theorem d_Code_findNeeds_56 : decode b_Code_findNeeds 56 = .ok (.iload_n 3, 1) := by decide +kernel
theorem d_Code_findNeeds_57 : decode b_Code_findNeeds 57 = .ok (.invokevirtual 67, 3) := by decide +kernel
theorem d_Code_findNeeds_60 : decode b_Code_findNeeds 60 = .ok (.aload_n 0, 1) := by decide +kernel
theorem d_Code_findNeeds_61 : decode b_Code_findNeeds 61 = .ok (.iload_n 3, 1) := by decide +kernel
theorem d_Code_findNeeds_62 : decode b_Code_findNeeds 62 = .ok (.invokevirtual 70, 3) := by decide +kernel
theorem d_Code_findNeeds_65 : decode b_Code_findNeeds 65 = .ok (.iconst (-1), 1) := by decide +kernel
theorem d_Code_findNeeds_66 : decode b_Code_findNeeds 66 = .ok (.ixor, 1) := by decide +kernel
theorem d_Code_findNeeds_67 : decode b_Code_findNeeds 67 = .ok (.iand, 1) := by decide +kernel
theorem d_Code_findNeeds_68 : decode b_Code_findNeeds 68 = .ok (.ior, 1) := by decide +kernel
theorem d_Code_findNeeds_69 : decode b_Code_findNeeds 69 = .ok (.istore 4, 2) := by decide +kernel
theorem d_Code_findNeeds_71 : decode b_Code_findNeeds 71 = .ok (.iload_n 1, 1) := by decide +kernel
theorem d_Code_findNeeds_72 : decode b_Code_findNeeds 72 = .ok (.ifCond .ne 14, 3) := by decide +kernel
theorem d_Code_findNeeds_75 : decode b_Code_findNeeds 75 = .ok (.iload 4, 2) := by decide +kernel
theorem d_Code_findNeeds_77 : decode b_Code_findNeeds 77 = .ok (.aload_n 0, 1) := by decide +kernel
theorem d_Code_findNeeds_78 : decode b_Code_findNeeds 78 = .ok (.getfield 24, 3) := by decide +kernel
theorem d_Code_findNeeds_81 : decode b_Code_findNeeds 81 = .ok (.iload_n 3, 1) := by decide +kernel
theorem d_Code_findNeeds_82 : decode b_Code_findNeeds 82 = .ok (.iaload, 1) := by decide +kernel
theorem d_Code_findNeeds_83 : decode b_Code_findNeeds 83 = .ok (.if_icmp .eq 7, 3) := by decide +kernel
theorem d_Code_findNeeds_86 : decode b_Code_findNeeds 86 = .ok (.iconst 1, 1) := by decide +kernel
theorem d_Code_findNeeds_87 : decode b_Code_findNeeds 87 = .ok (.goto 4, 3) := by decide +kernel
theorem d_Code_findNeeds_90 : decode b_Code_findNeeds 90 = .ok (.iconst 0, 1) := by decide +kernel
theorem d_Code_findNeeds_91 : decode b_Code_findNeeds 91 = .ok (.istore_n 1, 1) := by decide +kernel
theorem d_Code_findNeeds_92 : decode b_Code_findNeeds 92 = .ok (.aload_n 0, 1) := by decide +kernel
theorem d_Code_findNeeds_93 : decode b_Code_findNeeds 93 = .ok (.getfield 24, 3) := by decide +kernel
theorem d_Code_findNeeds_96 : decode b_Code_findNeeds 96 = .ok (.iload_n 3, 1) := by decide +kernel
theorem d_Code_findNeeds_97 : decode b_Code_findNeeds 97 = .ok (.iload 4, 2) := by decide +kernel
theorem d_Code_findNeeds_99 : decode b_Code_findNeeds 99 = .ok (.iastore, 1) := by decide +kernel
theorem d_Code_findNeeds_100 : decode b_Code_findNeeds 100 = .ok (.iinc 3 (-1), 3) := by decide +kernel
theorem d_Code_findNeeds_103 : decode b_Code_findNeeds 103 = .ok (.goto (-57), 3) := by decide +kernel
theorem d_Code_findNeeds_106 : decode b_Code_findNeeds 106 = .ok (.iinc 2 1, 3) := by decide +kernel
theorem d_Code_findNeeds_109 : decode b_Code_findNeeds 109 = .ok (.goto (-82), 3) := by decide +kernel
theorem d_Code_findNeeds_112 : decode b_Code_findNeeds 112 = .ok (.return_, 1) := by decide +kernel
theorem d_Facts_at_0 : decode b_Facts_at 0 = .ok (.aload_n 0, 1) := by decide +kernel
theorem d_Facts_at_1 : decode b_Facts_at 1 = .ok (.getfield 9, 3) := by decide +kernel
theorem d_Facts_at_4 : decode b_Facts_at 4 = .ok (.iload_n 1, 1) := by decide +kernel
theorem d_Facts_at_5 : decode b_Facts_at 5 = .ok (.iconst 5, 1) := by decide +kernel
theorem d_Facts_at_6 : decode b_Facts_at 6 = .ok (.imul, 1) := by decide +kernel
theorem d_Facts_at_7 : decode b_Facts_at 7 = .ok (.iload_n 2, 1) := by decide +kernel
theorem d_Facts_at_8 : decode b_Facts_at 8 = .ok (.iadd, 1) := by decide +kernel
theorem d_Facts_at_9 : decode b_Facts_at 9 = .ok (.laload, 1) := by decide +kernel
theorem d_Facts_at_10 : decode b_Facts_at 10 = .ok (.lreturn, 1) := by decide +kernel
theorem d_Facts_reached_0 : decode b_Facts_reached 0 = .ok (.aload_n 0, 1) := by decide +kernel
theorem d_Facts_reached_1 : decode b_Facts_reached 1 = .ok (.iload_n 1, 1) := by decide +kernel
theorem d_Facts_reached_2 : decode b_Facts_reached 2 = .ok (.iconst 0, 1) := by decide +kernel
theorem d_Facts_reached_3 : decode b_Facts_reached 3 = .ok (.invokevirtual 18, 3) := by decide +kernel
theorem d_Facts_reached_6 : decode b_Facts_reached 6 = .ok (.ldc2_w 22, 3) := by decide +kernel
theorem d_Facts_reached_9 : decode b_Facts_reached 9 = .ok (.lcmp, 1) := by decide +kernel
theorem d_Facts_reached_10 : decode b_Facts_reached 10 = .ok (.ifCond .eq 7, 3) := by decide +kernel
theorem d_Facts_reached_13 : decode b_Facts_reached 13 = .ok (.iconst 1, 1) := by decide +kernel
theorem d_Facts_reached_14 : decode b_Facts_reached 14 = .ok (.goto 4, 3) := by decide +kernel
theorem d_Facts_reached_17 : decode b_Facts_reached 17 = .ok (.iconst 0, 1) := by decide +kernel
theorem d_Facts_reached_18 : decode b_Facts_reached 18 = .ok (.ireturn, 1) := by decide +kernel
theorem d_BlockCode_isInt_0 : decode b_BlockCode_isInt 0 = .ok (.lload_n 0, 1) := by decide +kernel
theorem d_BlockCode_isInt_1 : decode b_BlockCode_isInt 1 = .ok (.ldc2_w 259, 3) := by decide +kernel
theorem d_BlockCode_isInt_4 : decode b_BlockCode_isInt 4 = .ok (.lcmp, 1) := by decide +kernel
theorem d_BlockCode_isInt_5 : decode b_BlockCode_isInt 5 = .ok (.ifCond .ge 7, 3) := by decide +kernel
theorem d_BlockCode_isInt_8 : decode b_BlockCode_isInt 8 = .ok (.iconst 1, 1) := by decide +kernel
theorem d_BlockCode_isInt_9 : decode b_BlockCode_isInt 9 = .ok (.goto 4, 3) := by decide +kernel
theorem d_BlockCode_isInt_12 : decode b_BlockCode_isInt 12 = .ok (.iconst 0, 1) := by decide +kernel
theorem d_BlockCode_isInt_13 : decode b_BlockCode_isInt 13 = .ok (.ireturn, 1) := by decide +kernel
theorem d_BlockCode_dividesByZero_0 : decode b_BlockCode_dividesByZero 0 = .ok (.iload_n 0, 1) := by decide +kernel
theorem d_BlockCode_dividesByZero_1 : decode b_BlockCode_dividesByZero 1 = .ok (.bipush 6, 2) := by decide +kernel
theorem d_BlockCode_dividesByZero_3 : decode b_BlockCode_dividesByZero 3 = .ok (.if_icmp .ne 11, 3) := by decide +kernel
theorem d_BlockCode_dividesByZero_6 : decode b_BlockCode_dividesByZero 6 = .ok (.iload_n 1, 1) := by decide +kernel
theorem d_BlockCode_dividesByZero_7 : decode b_BlockCode_dividesByZero 7 = .ok (.ifCond .ne 7, 3) := by decide +kernel
theorem d_BlockCode_dividesByZero_10 : decode b_BlockCode_dividesByZero 10 = .ok (.iconst 1, 1) := by decide +kernel
theorem d_BlockCode_dividesByZero_11 : decode b_BlockCode_dividesByZero 11 = .ok (.goto 4, 3) := by decide +kernel
theorem d_BlockCode_dividesByZero_14 : decode b_BlockCode_dividesByZero 14 = .ok (.iconst 0, 1) := by decide +kernel
theorem d_BlockCode_dividesByZero_15 : decode b_BlockCode_dividesByZero 15 = .ok (.ireturn, 1) := by decide +kernel
theorem d_BlockCode_combined_0 : decode b_BlockCode_combined 0 = .ok (.iload_n 0, 1) := by decide +kernel
theorem d_BlockCode_combined_1 : decode b_BlockCode_combined 1 = .ok (.tableswitch 55 3 6 #[31, 35, 39, 43], 31) := by decide +kernel
theorem d_BlockCode_combined_32 : decode b_BlockCode_combined 32 = .ok (.iload_n 1, 1) := by decide +kernel
theorem d_BlockCode_combined_33 : decode b_BlockCode_combined 33 = .ok (.iload_n 2, 1) := by decide +kernel
theorem d_BlockCode_combined_34 : decode b_BlockCode_combined 34 = .ok (.iadd, 1) := by decide +kernel
theorem d_BlockCode_combined_35 : decode b_BlockCode_combined 35 = .ok (.ireturn, 1) := by decide +kernel
theorem d_BlockCode_combined_36 : decode b_BlockCode_combined 36 = .ok (.iload_n 1, 1) := by decide +kernel
theorem d_BlockCode_combined_37 : decode b_BlockCode_combined 37 = .ok (.iload_n 2, 1) := by decide +kernel
theorem d_BlockCode_combined_38 : decode b_BlockCode_combined 38 = .ok (.isub, 1) := by decide +kernel
theorem d_BlockCode_combined_39 : decode b_BlockCode_combined 39 = .ok (.ireturn, 1) := by decide +kernel
theorem d_BlockCode_combined_40 : decode b_BlockCode_combined 40 = .ok (.iload_n 1, 1) := by decide +kernel
theorem d_BlockCode_combined_41 : decode b_BlockCode_combined 41 = .ok (.iload_n 2, 1) := by decide +kernel
theorem d_BlockCode_combined_42 : decode b_BlockCode_combined 42 = .ok (.imul, 1) := by decide +kernel
theorem d_BlockCode_combined_43 : decode b_BlockCode_combined 43 = .ok (.ireturn, 1) := by decide +kernel
theorem d_BlockCode_combined_44 : decode b_BlockCode_combined 44 = .ok (.iload_n 2, 1) := by decide +kernel
theorem d_BlockCode_combined_45 : decode b_BlockCode_combined 45 = .ok (.ifCond .ne 7, 3) := by decide +kernel
theorem d_BlockCode_combined_48 : decode b_BlockCode_combined 48 = .ok (.iconst 0, 1) := by decide +kernel
theorem d_BlockCode_combined_49 : decode b_BlockCode_combined 49 = .ok (.goto 6, 3) := by decide +kernel
theorem d_BlockCode_combined_52 : decode b_BlockCode_combined 52 = .ok (.iload_n 1, 1) := by decide +kernel
theorem d_BlockCode_combined_53 : decode b_BlockCode_combined 53 = .ok (.iload_n 2, 1) := by decide +kernel
theorem d_BlockCode_combined_54 : decode b_BlockCode_combined 54 = .ok (.idiv, 1) := by decide +kernel
theorem d_BlockCode_combined_55 : decode b_BlockCode_combined 55 = .ok (.ireturn, 1) := by decide +kernel
theorem d_BlockCode_combined_56 : decode b_BlockCode_combined 56 = .ok (.iload_n 1, 1) := by decide +kernel
theorem d_BlockCode_combined_57 : decode b_BlockCode_combined 57 = .ok (.iload_n 2, 1) := by decide +kernel
theorem d_BlockCode_combined_58 : decode b_BlockCode_combined 58 = .ok (.if_icmp .ge 7, 3) := by decide +kernel
theorem d_BlockCode_combined_61 : decode b_BlockCode_combined 61 = .ok (.iconst 1, 1) := by decide +kernel
theorem d_BlockCode_combined_62 : decode b_BlockCode_combined 62 = .ok (.goto 4, 3) := by decide +kernel
theorem d_BlockCode_combined_65 : decode b_BlockCode_combined 65 = .ok (.iconst 0, 1) := by decide +kernel
theorem d_BlockCode_combined_66 : decode b_BlockCode_combined 66 = .ok (.ireturn, 1) := by decide +kernel
theorem d_Facts_madeBy_0 : decode b_Facts_madeBy 0 = .ok (.aload_n 1, 1) := by decide +kernel
theorem d_Facts_madeBy_1 : decode b_Facts_madeBy 1 = .ok (.getfield 40, 3) := by decide +kernel
theorem d_Facts_madeBy_4 : decode b_Facts_madeBy 4 = .ok (.iload_n 2, 1) := by decide +kernel
theorem d_Facts_madeBy_5 : decode b_Facts_madeBy 5 = .ok (.iaload, 1) := by decide +kernel
theorem d_Facts_madeBy_6 : decode b_Facts_madeBy 6 = .ok (.istore_n 3, 1) := by decide +kernel
theorem d_Facts_madeBy_7 : decode b_Facts_madeBy 7 = .ok (.iload_n 3, 1) := by decide +kernel
theorem d_Facts_madeBy_8 : decode b_Facts_madeBy 8 = .ok (.iconst 1, 1) := by decide +kernel
theorem d_Facts_madeBy_9 : decode b_Facts_madeBy 9 = .ok (.if_icmp .ne 11, 3) := by decide +kernel
theorem d_Facts_madeBy_12 : decode b_Facts_madeBy 12 = .ok (.aload_n 1, 1) := by decide +kernel
theorem d_Facts_madeBy_13 : decode b_Facts_madeBy 13 = .ok (.getfield 44, 3) := by decide +kernel
theorem d_Facts_madeBy_16 : decode b_Facts_madeBy 16 = .ok (.iload_n 2, 1) := by decide +kernel
theorem d_Facts_madeBy_17 : decode b_Facts_madeBy 17 = .ok (.iaload, 1) := by decide +kernel
theorem d_Facts_madeBy_18 : decode b_Facts_madeBy 18 = .ok (.i2l, 1) := by decide +kernel
theorem d_Facts_madeBy_19 : decode b_Facts_madeBy 19 = .ok (.lreturn, 1) := by decide +kernel
theorem d_Facts_madeBy_20 : decode b_Facts_madeBy 20 = .ok (.aload_n 0, 1) := by decide +kernel
theorem d_Facts_madeBy_21 : decode b_Facts_madeBy 21 = .ok (.iload_n 2, 1) := by decide +kernel
theorem d_Facts_madeBy_22 : decode b_Facts_madeBy 22 = .ok (.aload_n 1, 1) := by decide +kernel
theorem d_Facts_madeBy_23 : decode b_Facts_madeBy 23 = .ok (.getfield 44, 3) := by decide +kernel
theorem d_Facts_madeBy_26 : decode b_Facts_madeBy 26 = .ok (.iload_n 2, 1) := by decide +kernel
theorem d_Facts_madeBy_27 : decode b_Facts_madeBy 27 = .ok (.iaload, 1) := by decide +kernel
theorem d_Facts_madeBy_28 : decode b_Facts_madeBy 28 = .ok (.invokevirtual 18, 3) := by decide +kernel
theorem d_Facts_madeBy_31 : decode b_Facts_madeBy 31 = .ok (.lstore 4, 2) := by decide +kernel
theorem d_Facts_madeBy_33 : decode b_Facts_madeBy 33 = .ok (.iload_n 3, 1) := by decide +kernel
theorem d_Facts_madeBy_34 : decode b_Facts_madeBy 34 = .ok (.iconst 2, 1) := by decide +kernel
theorem d_Facts_madeBy_35 : decode b_Facts_madeBy 35 = .ok (.if_icmp .ne 6, 3) := by decide +kernel
theorem d_Facts_madeBy_38 : decode b_Facts_madeBy 38 = .ok (.lload 4, 2) := by decide +kernel
theorem d_Facts_madeBy_40 : decode b_Facts_madeBy 40 = .ok (.lreturn, 1) := by decide +kernel
theorem d_Facts_madeBy_41 : decode b_Facts_madeBy 41 = .ok (.aload_n 0, 1) := by decide +kernel
theorem d_Facts_madeBy_42 : decode b_Facts_madeBy 42 = .ok (.iload_n 2, 1) := by decide +kernel
theorem d_Facts_madeBy_43 : decode b_Facts_madeBy 43 = .ok (.aload_n 1, 1) := by decide +kernel
theorem d_Facts_madeBy_44 : decode b_Facts_madeBy 44 = .ok (.getfield 47, 3) := by decide +kernel
theorem d_Facts_madeBy_47 : decode b_Facts_madeBy 47 = .ok (.iload_n 2, 1) := by decide +kernel
theorem d_Facts_madeBy_48 : decode b_Facts_madeBy 48 = .ok (.iaload, 1) := by decide +kernel
theorem d_Facts_madeBy_49 : decode b_Facts_madeBy 49 = .ok (.invokevirtual 18, 3) := by decide +kernel
theorem d_Facts_madeBy_52 : decode b_Facts_madeBy 52 = .ok (.lstore 6, 2) := by decide +kernel
theorem d_Facts_madeBy_54 : decode b_Facts_madeBy 54 = .ok (.lload 4, 2) := by decide +kernel
theorem d_Facts_madeBy_56 : decode b_Facts_madeBy 56 = .ok (.invokestatic 50, 3) := by decide +kernel
theorem d_Facts_madeBy_59 : decode b_Facts_madeBy 59 = .ok (.ifCond .eq 21, 3) := by decide +kernel
theorem d_Facts_madeBy_62 : decode b_Facts_madeBy 62 = .ok (.lload 6, 2) := by decide +kernel
theorem d_Facts_madeBy_64 : decode b_Facts_madeBy 64 = .ok (.invokestatic 50, 3) := by decide +kernel
theorem d_Facts_madeBy_67 : decode b_Facts_madeBy 67 = .ok (.ifCond .eq 13, 3) := by decide +kernel
theorem d_Facts_madeBy_70 : decode b_Facts_madeBy 70 = .ok (.iload_n 3, 1) := by decide +kernel
theorem d_Facts_madeBy_71 : decode b_Facts_madeBy 71 = .ok (.lload 6, 2) := by decide +kernel
theorem d_Facts_madeBy_73 : decode b_Facts_madeBy 73 = .ok (.l2i, 1) := by decide +kernel
theorem d_Facts_madeBy_74 : decode b_Facts_madeBy 74 = .ok (.invokestatic 54, 3) := by decide +kernel
theorem d_Facts_madeBy_77 : decode b_Facts_madeBy 77 = .ok (.ifCond .eq 7, 3) := by decide +kernel
theorem d_Facts_madeBy_80 : decode b_Facts_madeBy 80 = .ok (.ldc2_w 24, 3) := by decide +kernel
theorem d_Facts_madeBy_83 : decode b_Facts_madeBy 83 = .ok (.lreturn, 1) := by decide +kernel
theorem d_Facts_madeBy_84 : decode b_Facts_madeBy 84 = .ok (.iload_n 3, 1) := by decide +kernel
theorem d_Facts_madeBy_85 : decode b_Facts_madeBy 85 = .ok (.lload 4, 2) := by decide +kernel
theorem d_Facts_madeBy_87 : decode b_Facts_madeBy 87 = .ok (.l2i, 1) := by decide +kernel
theorem d_Facts_madeBy_88 : decode b_Facts_madeBy 88 = .ok (.lload 6, 2) := by decide +kernel
theorem d_Facts_madeBy_90 : decode b_Facts_madeBy 90 = .ok (.l2i, 1) := by decide +kernel
theorem d_Facts_madeBy_91 : decode b_Facts_madeBy 91 = .ok (.invokestatic 58, 3) := by decide +kernel
theorem d_Facts_madeBy_94 : decode b_Facts_madeBy 94 = .ok (.i2l, 1) := by decide +kernel
theorem d_Facts_madeBy_95 : decode b_Facts_madeBy 95 = .ok (.lreturn, 1) := by decide +kernel
theorem d_Facts_flowTo_0 : decode b_Facts_flowTo 0 = .ok (.iload_n 1, 1) := by decide +kernel
theorem d_Facts_flowTo_1 : decode b_Facts_flowTo 1 = .ok (.invokestatic 78, 3) := by decide +kernel
theorem d_Facts_flowTo_4 : decode b_Facts_flowTo 4 = .ok (.ifCond .ne 5, 3) := by decide +kernel
theorem d_Facts_flowTo_7 : decode b_Facts_flowTo 7 = .ok (.iconst 0, 1) := by decide +kernel
theorem d_Facts_flowTo_8 : decode b_Facts_flowTo 8 = .ok (.ireturn, 1) := by decide +kernel
theorem d_Facts_flowTo_9 : decode b_Facts_flowTo 9 = .ok (.iconst 0, 1) := by decide +kernel
theorem d_Facts_flowTo_10 : decode b_Facts_flowTo 10 = .ok (.istore_n 2, 1) := by decide +kernel
theorem d_Facts_flowTo_11 : decode b_Facts_flowTo 11 = .ok (.iconst 0, 1) := by decide +kernel
theorem d_Facts_flowTo_12 : decode b_Facts_flowTo 12 = .ok (.istore_n 3, 1) := by decide +kernel
theorem d_Facts_flowTo_13 : decode b_Facts_flowTo 13 = .ok (.iload_n 3, 1) := by decide +kernel
theorem d_Facts_flowTo_14 : decode b_Facts_flowTo 14 = .ok (.iconst 5, 1) := by decide +kernel
theorem d_Facts_flowTo_15 : decode b_Facts_flowTo 15 = .ok (.if_icmp .ge 82, 3) := by decide +kernel
theorem d_Facts_flowTo_18 : decode b_Facts_flowTo 18 = .ok (.aload_n 0, 1) := by decide +kernel
theorem d_Facts_flowTo_19 : decode b_Facts_flowTo 19 = .ok (.iload_n 1, 1) := by decide +kernel
theorem d_Facts_flowTo_20 : decode b_Facts_flowTo 20 = .ok (.iload_n 3, 1) := by decide +kernel
theorem d_Facts_flowTo_21 : decode b_Facts_flowTo 21 = .ok (.invokevirtual 18, 3) := by decide +kernel
theorem d_Facts_flowTo_24 : decode b_Facts_flowTo 24 = .ok (.lstore 4, 2) := by decide +kernel
theorem d_Facts_flowTo_26 : decode b_Facts_flowTo 26 = .ok (.lload 4, 2) := by decide +kernel
theorem d_Facts_flowTo_28 : decode b_Facts_flowTo 28 = .ok (.ldc2_w 22, 3) := by decide +kernel
theorem d_Facts_flowTo_31 : decode b_Facts_flowTo 31 = .ok (.lcmp, 1) := by decide +kernel
theorem d_Facts_flowTo_32 : decode b_Facts_flowTo 32 = .ok (.ifCond .eq 15, 3) := by decide +kernel
theorem d_Facts_flowTo_35 : decode b_Facts_flowTo 35 = .ok (.lload 4, 2) := by decide +kernel
theorem d_Facts_flowTo_37 : decode b_Facts_flowTo 37 = .ok (.aload_n 0, 1) := by decide +kernel
theorem d_Facts_flowTo_38 : decode b_Facts_flowTo 38 = .ok (.getfield 15, 3) := by decide +kernel
theorem d_Facts_flowTo_41 : decode b_Facts_flowTo 41 = .ok (.iload_n 3, 1) := by decide +kernel
theorem d_Facts_flowTo_42 : decode b_Facts_flowTo 42 = .ok (.laload, 1) := by decide +kernel
theorem d_Facts_flowTo_43 : decode b_Facts_flowTo 43 = .ok (.lcmp, 1) := by decide +kernel
theorem d_Facts_flowTo_44 : decode b_Facts_flowTo 44 = .ok (.ifCond .ne 12, 3) := by decide +kernel
theorem d_Facts_flowTo_47 : decode b_Facts_flowTo 47 = .ok (.aload_n 0, 1) := by decide +kernel
theorem d_Facts_flowTo_48 : decode b_Facts_flowTo 48 = .ok (.getfield 15, 3) := by decide +kernel
theorem d_Facts_flowTo_51 : decode b_Facts_flowTo 51 = .ok (.iload_n 3, 1) := by decide +kernel
theorem d_Facts_flowTo_52 : decode b_Facts_flowTo 52 = .ok (.laload, 1) := by decide +kernel
theorem d_Facts_flowTo_53 : decode b_Facts_flowTo 53 = .ok (.goto 6, 3) := by decide +kernel
theorem d_Facts_flowTo_56 : decode b_Facts_flowTo 56 = .ok (.ldc2_w 24, 3) := by decide +kernel
theorem d_Facts_flowTo_59 : decode b_Facts_flowTo 59 = .ok (.lstore 6, 2) := by decide +kernel
theorem d_Facts_flowTo_61 : decode b_Facts_flowTo 61 = .ok (.iload_n 2, 1) := by decide +kernel
theorem d_Facts_flowTo_62 : decode b_Facts_flowTo 62 = .ok (.ifCond .ne 11, 3) := by decide +kernel
theorem d_Facts_flowTo_65 : decode b_Facts_flowTo 65 = .ok (.lload 6, 2) := by decide +kernel
theorem d_Facts_flowTo_67 : decode b_Facts_flowTo 67 = .ok (.lload 4, 2) := by decide +kernel
theorem d_Facts_flowTo_69 : decode b_Facts_flowTo 69 = .ok (.lcmp, 1) := by decide +kernel
theorem d_Facts_flowTo_70 : decode b_Facts_flowTo 70 = .ok (.ifCond .eq 7, 3) := by decide +kernel
theorem d_Facts_flowTo_73 : decode b_Facts_flowTo 73 = .ok (.iconst 1, 1) := by decide +kernel
theorem d_Facts_flowTo_74 : decode b_Facts_flowTo 74 = .ok (.goto 4, 3) := by decide +kernel
theorem d_Facts_flowTo_77 : decode b_Facts_flowTo 77 = .ok (.iconst 0, 1) := by decide +kernel
theorem d_Facts_flowTo_78 : decode b_Facts_flowTo 78 = .ok (.istore_n 2, 1) := by decide +kernel
theorem d_Facts_flowTo_79 : decode b_Facts_flowTo 79 = .ok (.aload_n 0, 1) := by decide +kernel
theorem d_Facts_flowTo_80 : decode b_Facts_flowTo 80 = .ok (.getfield 9, 3) := by decide +kernel
theorem d_Facts_flowTo_83 : decode b_Facts_flowTo 83 = .ok (.iload_n 1, 1) := by decide +kernel
theorem d_Facts_flowTo_84 : decode b_Facts_flowTo 84 = .ok (.iconst 5, 1) := by decide +kernel
theorem d_Facts_flowTo_85 : decode b_Facts_flowTo 85 = .ok (.imul, 1) := by decide +kernel
theorem d_Facts_flowTo_86 : decode b_Facts_flowTo 86 = .ok (.iload_n 3, 1) := by decide +kernel
theorem d_Facts_flowTo_87 : decode b_Facts_flowTo 87 = .ok (.iadd, 1) := by decide +kernel
theorem d_Facts_flowTo_88 : decode b_Facts_flowTo 88 = .ok (.lload 6, 2) := by decide +kernel
theorem d_Facts_flowTo_90 : decode b_Facts_flowTo 90 = .ok (.lastore, 1) := by decide +kernel
theorem d_Facts_flowTo_91 : decode b_Facts_flowTo 91 = .ok (.iinc 3 1, 3) := by decide +kernel
theorem d_Facts_flowTo_94 : decode b_Facts_flowTo 94 = .ok (.goto (-81), 3) := by decide +kernel
theorem d_Facts_flowTo_97 : decode b_Facts_flowTo 97 = .ok (.iload_n 2, 1) := by decide +kernel
theorem d_Facts_flowTo_98 : decode b_Facts_flowTo 98 = .ok (.ireturn, 1) := by decide +kernel
theorem d_Facts_flowFromBranch_0 : decode b_Facts_flowFromBranch 0 = .ok (.aload_n 0, 1) := by decide +kernel
theorem d_Facts_flowFromBranch_1 : decode b_Facts_flowFromBranch 1 = .ok (.iload_n 2, 1) := by decide +kernel
theorem d_Facts_flowFromBranch_2 : decode b_Facts_flowFromBranch 2 = .ok (.aload_n 1, 1) := by decide +kernel
theorem d_Facts_flowFromBranch_3 : decode b_Facts_flowFromBranch 3 = .ok (.getfield 44, 3) := by decide +kernel
theorem d_Facts_flowFromBranch_6 : decode b_Facts_flowFromBranch 6 = .ok (.iload_n 2, 1) := by decide +kernel
theorem d_Facts_flowFromBranch_7 : decode b_Facts_flowFromBranch 7 = .ok (.iaload, 1) := by decide +kernel
theorem d_Facts_flowFromBranch_8 : decode b_Facts_flowFromBranch 8 = .ok (.invokevirtual 18, 3) := by decide +kernel
theorem d_Facts_flowFromBranch_11 : decode b_Facts_flowFromBranch 11 = .ok (.lstore_n 3, 1) := by decide +kernel
theorem d_Facts_flowFromBranch_12 : decode b_Facts_flowFromBranch 12 = .ok (.iconst 0, 1) := by decide +kernel
theorem d_Facts_flowFromBranch_13 : decode b_Facts_flowFromBranch 13 = .ok (.istore 5, 2) := by decide +kernel
theorem d_Facts_flowFromBranch_15 : decode b_Facts_flowFromBranch 15 = .ok (.lload_n 3, 1) := by decide +kernel
theorem d_Facts_flowFromBranch_16 : decode b_Facts_flowFromBranch 16 = .ok (.lconst 0, 1) := by decide +kernel
theorem d_Facts_flowFromBranch_17 : decode b_Facts_flowFromBranch 17 = .ok (.lcmp, 1) := by decide +kernel
theorem d_Facts_flowFromBranch_18 : decode b_Facts_flowFromBranch 18 = .ok (.ifCond .eq 15, 3) := by decide +kernel
theorem d_Facts_flowFromBranch_21 : decode b_Facts_flowFromBranch 21 = .ok (.aload_n 0, 1) := by decide +kernel
theorem d_Facts_flowFromBranch_22 : decode b_Facts_flowFromBranch 22 = .ok (.aload_n 1, 1) := by decide +kernel
theorem d_Facts_flowFromBranch_23 : decode b_Facts_flowFromBranch 23 = .ok (.getfield 47, 3) := by decide +kernel
theorem d_Facts_flowFromBranch_26 : decode b_Facts_flowFromBranch 26 = .ok (.iload_n 2, 1) := by decide +kernel
theorem d_Facts_flowFromBranch_27 : decode b_Facts_flowFromBranch 27 = .ok (.iaload, 1) := by decide +kernel
theorem d_Facts_flowFromBranch_28 : decode b_Facts_flowFromBranch 28 = .ok (.invokevirtual 75, 3) := by decide +kernel
theorem d_Facts_flowFromBranch_31 : decode b_Facts_flowFromBranch 31 = .ok (.istore 5, 2) := by decide +kernel
theorem d_Facts_flowFromBranch_33 : decode b_Facts_flowFromBranch 33 = .ok (.lload_n 3, 1) := by decide +kernel
theorem d_Facts_flowFromBranch_34 : decode b_Facts_flowFromBranch 34 = .ok (.lconst 0, 1) := by decide +kernel
theorem d_Facts_flowFromBranch_35 : decode b_Facts_flowFromBranch 35 = .ok (.lcmp, 1) := by decide +kernel
theorem d_Facts_flowFromBranch_36 : decode b_Facts_flowFromBranch 36 = .ok (.ifCond .eq 11, 3) := by decide +kernel
theorem d_Facts_flowFromBranch_39 : decode b_Facts_flowFromBranch 39 = .ok (.lload_n 3, 1) := by decide +kernel
theorem d_Facts_flowFromBranch_40 : decode b_Facts_flowFromBranch 40 = .ok (.ldc2_w 24, 3) := by decide +kernel
theorem d_Facts_flowFromBranch_43 : decode b_Facts_flowFromBranch 43 = .ok (.lcmp, 1) := by decide +kernel
theorem d_Facts_flowFromBranch_44 : decode b_Facts_flowFromBranch 44 = .ok (.ifCond .ne 25, 3) := by decide +kernel
theorem d_Facts_flowFromBranch_47 : decode b_Facts_flowFromBranch 47 = .ok (.aload_n 0, 1) := by decide +kernel
theorem d_Facts_flowFromBranch_48 : decode b_Facts_flowFromBranch 48 = .ok (.iload_n 2, 1) := by decide +kernel
theorem d_Facts_flowFromBranch_49 : decode b_Facts_flowFromBranch 49 = .ok (.iconst 1, 1) := by decide +kernel
theorem d_Facts_flowFromBranch_50 : decode b_Facts_flowFromBranch 50 = .ok (.iadd, 1) := by decide +kernel
theorem d_Facts_flowFromBranch_51 : decode b_Facts_flowFromBranch 51 = .ok (.invokevirtual 75, 3) := by decide +kernel
theorem d_Facts_flowFromBranch_54 : decode b_Facts_flowFromBranch 54 = .ok (.ifCond .ne 8, 3) := by decide +kernel
theorem d_Facts_flowFromBranch_57 : decode b_Facts_flowFromBranch 57 = .ok (.iload 5, 2) := by decide +kernel
theorem d_Facts_flowFromBranch_59 : decode b_Facts_flowFromBranch 59 = .ok (.ifCond .eq 7, 3) := by decide +kernel
theorem d_Facts_flowFromBranch_62 : decode b_Facts_flowFromBranch 62 = .ok (.iconst 1, 1) := by decide +kernel
theorem d_Facts_flowFromBranch_63 : decode b_Facts_flowFromBranch 63 = .ok (.goto 4, 3) := by decide +kernel
theorem d_Facts_flowFromBranch_66 : decode b_Facts_flowFromBranch 66 = .ok (.iconst 0, 1) := by decide +kernel
theorem d_Facts_flowFromBranch_67 : decode b_Facts_flowFromBranch 67 = .ok (.istore 5, 2) := by decide +kernel
theorem d_Facts_flowFromBranch_69 : decode b_Facts_flowFromBranch 69 = .ok (.iload 5, 2) := by decide +kernel
theorem d_Facts_flowFromBranch_71 : decode b_Facts_flowFromBranch 71 = .ok (.ireturn, 1) := by decide +kernel
theorem d_Facts_flowFrom_0 : decode b_Facts_flowFrom 0 = .ok (.aload_n 1, 1) := by decide +kernel
theorem d_Facts_flowFrom_1 : decode b_Facts_flowFrom 1 = .ok (.getfield 40, 3) := by decide +kernel
theorem d_Facts_flowFrom_4 : decode b_Facts_flowFrom 4 = .ok (.iload_n 2, 1) := by decide +kernel
theorem d_Facts_flowFrom_5 : decode b_Facts_flowFrom 5 = .ok (.iaload, 1) := by decide +kernel
theorem d_Facts_flowFrom_6 : decode b_Facts_flowFrom 6 = .ok (.istore_n 3, 1) := by decide +kernel
theorem d_Facts_flowFrom_7 : decode b_Facts_flowFrom 7 = .ok (.iload_n 3, 1) := by decide +kernel
theorem d_Facts_flowFrom_8 : decode b_Facts_flowFrom 8 = .ok (.bipush 10, 2) := by decide +kernel
theorem d_Facts_flowFrom_10 : decode b_Facts_flowFrom 10 = .ok (.if_icmp .eq 25, 3) := by decide +kernel
theorem d_Facts_flowFrom_13 : decode b_Facts_flowFrom 13 = .ok (.iload_n 3, 1) := by decide +kernel
theorem d_Facts_flowFrom_14 : decode b_Facts_flowFrom 14 = .ok (.bipush 6, 2) := by decide +kernel
theorem d_Facts_flowFrom_16 : decode b_Facts_flowFrom 16 = .ok (.if_icmp .ne 21, 3) := by decide +kernel
theorem d_Facts_flowFrom_19 : decode b_Facts_flowFrom 19 = .ok (.aload_n 0, 1) := by decide +kernel
theorem d_Facts_flowFrom_20 : decode b_Facts_flowFrom 20 = .ok (.iload_n 2, 1) := by decide +kernel
theorem d_Facts_flowFrom_21 : decode b_Facts_flowFrom 21 = .ok (.aload_n 1, 1) := by decide +kernel
theorem d_Facts_flowFrom_22 : decode b_Facts_flowFrom 22 = .ok (.getfield 47, 3) := by decide +kernel
theorem d_Facts_flowFrom_25 : decode b_Facts_flowFrom 25 = .ok (.iload_n 2, 1) := by decide +kernel
theorem d_Facts_flowFrom_26 : decode b_Facts_flowFrom 26 = .ok (.iaload, 1) := by decide +kernel
theorem d_Facts_flowFrom_27 : decode b_Facts_flowFrom 27 = .ok (.invokevirtual 18, 3) := by decide +kernel
theorem d_Facts_flowFrom_30 : decode b_Facts_flowFrom 30 = .ok (.lconst 0, 1) := by decide +kernel
theorem d_Facts_flowFrom_31 : decode b_Facts_flowFrom 31 = .ok (.lcmp, 1) := by decide +kernel
theorem d_Facts_flowFrom_32 : decode b_Facts_flowFrom 32 = .ok (.ifCond .ne 5, 3) := by decide +kernel
theorem d_Facts_flowFrom_35 : decode b_Facts_flowFrom 35 = .ok (.iconst 0, 1) := by decide +kernel
theorem d_Facts_flowFrom_36 : decode b_Facts_flowFrom 36 = .ok (.ireturn, 1) := by decide +kernel
theorem d_Facts_flowFrom_37 : decode b_Facts_flowFrom 37 = .ok (.iconst 0, 1) := by decide +kernel
theorem d_Facts_flowFrom_38 : decode b_Facts_flowFrom 38 = .ok (.istore 4, 2) := by decide +kernel
theorem d_Facts_flowFrom_40 : decode b_Facts_flowFrom 40 = .ok (.iload 4, 2) := by decide +kernel
theorem d_Facts_flowFrom_42 : decode b_Facts_flowFrom 42 = .ok (.iconst 5, 1) := by decide +kernel
theorem d_Facts_flowFrom_43 : decode b_Facts_flowFrom 43 = .ok (.if_icmp .ge 23, 3) := by decide +kernel
theorem d_Facts_flowFrom_46 : decode b_Facts_flowFrom 46 = .ok (.aload_n 0, 1) := by decide +kernel
theorem d_Facts_flowFrom_47 : decode b_Facts_flowFrom 47 = .ok (.getfield 15, 3) := by decide +kernel
theorem d_Facts_flowFrom_50 : decode b_Facts_flowFrom 50 = .ok (.iload 4, 2) := by decide +kernel
theorem d_Facts_flowFrom_52 : decode b_Facts_flowFrom 52 = .ok (.aload_n 0, 1) := by decide +kernel
theorem d_Facts_flowFrom_53 : decode b_Facts_flowFrom 53 = .ok (.iload_n 2, 1) := by decide +kernel
theorem d_Facts_flowFrom_54 : decode b_Facts_flowFrom 54 = .ok (.iload 4, 2) := by decide +kernel
theorem d_Facts_flowFrom_56 : decode b_Facts_flowFrom 56 = .ok (.invokevirtual 18, 3) := by decide +kernel
theorem d_Facts_flowFrom_59 : decode b_Facts_flowFrom 59 = .ok (.lastore, 1) := by decide +kernel
theorem d_Facts_flowFrom_60 : decode b_Facts_flowFrom 60 = .ok (.iinc 4 1, 3) := by decide +kernel
theorem d_Facts_flowFrom_63 : decode b_Facts_flowFrom 63 = .ok (.goto (-23), 3) := by decide +kernel
theorem d_Facts_flowFrom_66 : decode b_Facts_flowFrom 66 = .ok (.iload_n 3, 1) := by decide +kernel
theorem d_Facts_flowFrom_67 : decode b_Facts_flowFrom 67 = .ok (.invokestatic 62, 3) := by decide +kernel
theorem d_Facts_flowFrom_70 : decode b_Facts_flowFrom 70 = .ok (.ifCond .eq 20, 3) := by decide +kernel
theorem d_Facts_flowFrom_73 : decode b_Facts_flowFrom 73 = .ok (.aload_n 0, 1) := by decide +kernel
theorem d_Facts_flowFrom_74 : decode b_Facts_flowFrom 74 = .ok (.getfield 15, 3) := by decide +kernel
theorem d_Facts_flowFrom_77 : decode b_Facts_flowFrom 77 = .ok (.aload_n 1, 1) := by decide +kernel
theorem d_Facts_flowFrom_78 : decode b_Facts_flowFrom 78 = .ok (.getfield 65, 3) := by decide +kernel
theorem d_Facts_flowFrom_81 : decode b_Facts_flowFrom 81 = .ok (.iload_n 2, 1) := by decide +kernel
theorem d_Facts_flowFrom_82 : decode b_Facts_flowFrom 82 = .ok (.iaload, 1) := by decide +kernel
theorem d_Facts_flowFrom_83 : decode b_Facts_flowFrom 83 = .ok (.aload_n 0, 1) := by decide +kernel
theorem d_Facts_flowFrom_84 : decode b_Facts_flowFrom 84 = .ok (.aload_n 1, 1) := by decide +kernel
theorem d_Facts_flowFrom_85 : decode b_Facts_flowFrom 85 = .ok (.iload_n 2, 1) := by decide +kernel
theorem d_Facts_flowFrom_86 : decode b_Facts_flowFrom 86 = .ok (.invokevirtual 68, 3) := by decide +kernel
theorem d_Facts_flowFrom_89 : decode b_Facts_flowFrom 89 = .ok (.lastore, 1) := by decide +kernel
theorem d_Facts_flowFrom_90 : decode b_Facts_flowFrom 90 = .ok (.iload_n 3, 1) := by decide +kernel
theorem d_Facts_flowFrom_91 : decode b_Facts_flowFrom 91 = .ok (.bipush 9, 2) := by decide +kernel
theorem d_Facts_flowFrom_93 : decode b_Facts_flowFrom 93 = .ok (.if_icmp .ne 10, 3) := by decide +kernel
theorem d_Facts_flowFrom_96 : decode b_Facts_flowFrom 96 = .ok (.aload_n 0, 1) := by decide +kernel
theorem d_Facts_flowFrom_97 : decode b_Facts_flowFrom 97 = .ok (.aload_n 1, 1) := by decide +kernel
theorem d_Facts_flowFrom_98 : decode b_Facts_flowFrom 98 = .ok (.iload_n 2, 1) := by decide +kernel
theorem d_Facts_flowFrom_99 : decode b_Facts_flowFrom 99 = .ok (.invokevirtual 72, 3) := by decide +kernel
theorem d_Facts_flowFrom_102 : decode b_Facts_flowFrom 102 = .ok (.ireturn, 1) := by decide +kernel
theorem d_Facts_flowFrom_103 : decode b_Facts_flowFrom 103 = .ok (.aload_n 0, 1) := by decide +kernel
theorem d_Facts_flowFrom_104 : decode b_Facts_flowFrom 104 = .ok (.iload_n 3, 1) := by decide +kernel
theorem d_Facts_flowFrom_105 : decode b_Facts_flowFrom 105 = .ok (.bipush 8, 2) := by decide +kernel
theorem d_Facts_flowFrom_107 : decode b_Facts_flowFrom 107 = .ok (.if_icmp .ne 12, 3) := by decide +kernel
theorem d_Facts_flowFrom_110 : decode b_Facts_flowFrom 110 = .ok (.aload_n 1, 1) := by decide +kernel
theorem d_Facts_flowFrom_111 : decode b_Facts_flowFrom 111 = .ok (.getfield 44, 3) := by decide +kernel
theorem d_Facts_flowFrom_114 : decode b_Facts_flowFrom 114 = .ok (.iload_n 2, 1) := by decide +kernel
theorem d_Facts_flowFrom_115 : decode b_Facts_flowFrom 115 = .ok (.iaload, 1) := by decide +kernel
theorem d_Facts_flowFrom_116 : decode b_Facts_flowFrom 116 = .ok (.goto 6, 3) := by decide +kernel
theorem d_Facts_flowFrom_119 : decode b_Facts_flowFrom 119 = .ok (.iload_n 2, 1) := by decide +kernel
theorem d_Facts_flowFrom_120 : decode b_Facts_flowFrom 120 = .ok (.iconst 1, 1) := by decide +kernel
theorem d_Facts_flowFrom_121 : decode b_Facts_flowFrom 121 = .ok (.iadd, 1) := by decide +kernel
