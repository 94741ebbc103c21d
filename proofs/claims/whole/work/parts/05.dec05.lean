theorem d_BlockCode_poke_54 : decode b_BlockCode_poke 54 = .ok (.iload 5, 2) := by decide +kernel
theorem d_BlockCode_poke_56 : decode b_BlockCode_poke 56 = .ok (.invokevirtual 74, 3) := by decide +kernel
theorem d_BlockCode_poke_59 : decode b_BlockCode_poke 59 = .ok (.aload_n 0, 1) := by decide +kernel
theorem d_BlockCode_poke_60 : decode b_BlockCode_poke 60 = .ok (.iconst 0, 1) := by decide +kernel
theorem d_BlockCode_poke_61 : decode b_BlockCode_poke 61 = .ok (.putfield 56, 3) := by decide +kernel
theorem d_BlockCode_poke_64 : decode b_BlockCode_poke 64 = .ok (.iconst 1, 1) := by decide +kernel
theorem d_BlockCode_poke_65 : decode b_BlockCode_poke 65 = .ok (.ireturn, 1) := by decide +kernel
theorem d_Code_lastOfBlock_0 : decode b_Code_lastOfBlock 0 = .ok (.iload_n 1, 1) := by decide +kernel
theorem d_Code_lastOfBlock_1 : decode b_Code_lastOfBlock 1 = .ok (.istore_n 2, 1) := by decide +kernel
theorem d_Code_lastOfBlock_2 : decode b_Code_lastOfBlock 2 = .ok (.iload_n 2, 1) := by decide +kernel
theorem d_Code_lastOfBlock_3 : decode b_Code_lastOfBlock 3 = .ok (.iconst 1, 1) := by decide +kernel
theorem d_Code_lastOfBlock_4 : decode b_Code_lastOfBlock 4 = .ok (.iadd, 1) := by decide +kernel
theorem d_Code_lastOfBlock_5 : decode b_Code_lastOfBlock 5 = .ok (.aload_n 0, 1) := by decide +kernel
theorem d_Code_lastOfBlock_6 : decode b_Code_lastOfBlock 6 = .ok (.getfield 27, 3) := by decide +kernel
theorem d_Code_lastOfBlock_9 : decode b_Code_lastOfBlock 9 = .ok (.if_icmp .ge 19, 3) := by decide +kernel
theorem d_Code_lastOfBlock_12 : decode b_Code_lastOfBlock 12 = .ok (.aload_n 0, 1) := by decide +kernel
theorem d_Code_lastOfBlock_13 : decode b_Code_lastOfBlock 13 = .ok (.iload_n 2, 1) := by decide +kernel
theorem d_Code_lastOfBlock_14 : decode b_Code_lastOfBlock 14 = .ok (.iconst 1, 1) := by decide +kernel
theorem d_Code_lastOfBlock_15 : decode b_Code_lastOfBlock 15 = .ok (.iadd, 1) := by decide +kernel
theorem d_Code_lastOfBlock_16 : decode b_Code_lastOfBlock 16 = .ok (.invokevirtual 60, 3) := by decide +kernel
theorem d_Code_lastOfBlock_19 : decode b_Code_lastOfBlock 19 = .ok (.ifCond .ne 9, 3) := by decide +kernel
theorem d_Code_lastOfBlock_22 : decode b_Code_lastOfBlock 22 = .ok (.iinc 2 1, 3) := by decide +kernel
theorem d_Code_lastOfBlock_25 : decode b_Code_lastOfBlock 25 = .ok (.goto (-23), 3) := by decide +kernel
theorem d_Code_lastOfBlock_28 : decode b_Code_lastOfBlock 28 = .ok (.iload_n 2, 1) := by decide +kernel
theorem d_Code_lastOfBlock_29 : decode b_Code_lastOfBlock 29 = .ok (.ireturn, 1) := by decide +kernel
theorem d_Walk_beginKnown_0 : decode b_Walk_beginKnown 0 = .ok (.aload_n 0, 1) := by decide +kernel
theorem d_Walk_beginKnown_1 : decode b_Walk_beginKnown 1 = .ok (.iconst 0, 1) := by decide +kernel
theorem d_Walk_beginKnown_2 : decode b_Walk_beginKnown 2 = .ok (.putfield 31, 3) := by decide +kernel
theorem d_Walk_beginKnown_5 : decode b_Walk_beginKnown 5 = .ok (.iconst 0, 1) := by decide +kernel
theorem d_Walk_beginKnown_6 : decode b_Walk_beginKnown 6 = .ok (.istore_n 3, 1) := by decide +kernel
theorem d_Walk_beginKnown_7 : decode b_Walk_beginKnown 7 = .ok (.iload_n 3, 1) := by decide +kernel
theorem d_Walk_beginKnown_8 : decode b_Walk_beginKnown 8 = .ok (.iconst 5, 1) := by decide +kernel
theorem d_Walk_beginKnown_9 : decode b_Walk_beginKnown 9 = .ok (.if_icmp .ge 52, 3) := by decide +kernel
theorem d_Walk_beginKnown_12 : decode b_Walk_beginKnown 12 = .ok (.aload_n 1, 1) := by decide +kernel
theorem d_Walk_beginKnown_13 : decode b_Walk_beginKnown 13 = .ok (.iload_n 2, 1) := by decide +kernel
theorem d_Walk_beginKnown_14 : decode b_Walk_beginKnown 14 = .ok (.iload_n 3, 1) := by decide +kernel
theorem d_Walk_beginKnown_15 : decode b_Walk_beginKnown 15 = .ok (.invokevirtual 35, 3) := by decide +kernel
theorem d_Walk_beginKnown_18 : decode b_Walk_beginKnown 18 = .ok (.lstore 4, 2) := by decide +kernel
theorem d_Walk_beginKnown_20 : decode b_Walk_beginKnown 20 = .ok (.aload_n 0, 1) := by decide +kernel
theorem d_Walk_beginKnown_21 : decode b_Walk_beginKnown 21 = .ok (.getfield 9, 3) := by decide +kernel
theorem d_Walk_beginKnown_24 : decode b_Walk_beginKnown 24 = .ok (.iload_n 3, 1) := by decide +kernel
theorem d_Walk_beginKnown_25 : decode b_Walk_beginKnown 25 = .ok (.lload 4, 2) := by decide +kernel
theorem d_Walk_beginKnown_27 : decode b_Walk_beginKnown 27 = .ok (.invokestatic 41, 3) := by decide +kernel
theorem d_Walk_beginKnown_30 : decode b_Walk_beginKnown 30 = .ok (.ifCond .eq 16, 3) := by decide +kernel
theorem d_Walk_beginKnown_33 : decode b_Walk_beginKnown 33 = .ok (.aload_n 0, 1) := by decide +kernel
theorem d_Walk_beginKnown_34 : decode b_Walk_beginKnown 34 = .ok (.getfield 21, 3) := by decide +kernel
theorem d_Walk_beginKnown_37 : decode b_Walk_beginKnown 37 = .ok (.lload 4, 2) := by decide +kernel
theorem d_Walk_beginKnown_39 : decode b_Walk_beginKnown 39 = .ok (.l2i, 1) := by decide +kernel
theorem d_Walk_beginKnown_40 : decode b_Walk_beginKnown 40 = .ok (.invokevirtual 45, 3) := by decide +kernel
theorem d_Walk_beginKnown_43 : decode b_Walk_beginKnown 43 = .ok (.goto 11, 3) := by decide +kernel
theorem d_Walk_beginKnown_46 : decode b_Walk_beginKnown 46 = .ok (.aload_n 0, 1) := by decide +kernel
theorem d_Walk_beginKnown_47 : decode b_Walk_beginKnown 47 = .ok (.getfield 21, 3) := by decide +kernel
theorem d_Walk_beginKnown_50 : decode b_Walk_beginKnown 50 = .ok (.iload_n 3, 1) := by decide +kernel
theorem d_Walk_beginKnown_51 : decode b_Walk_beginKnown 51 = .ok (.invokevirtual 25, 3) := by decide +kernel
theorem d_Walk_beginKnown_54 : decode b_Walk_beginKnown 54 = .ok (.iastore, 1) := by decide +kernel
theorem d_Walk_beginKnown_55 : decode b_Walk_beginKnown 55 = .ok (.iinc 3 1, 3) := by decide +kernel
theorem d_Walk_beginKnown_58 : decode b_Walk_beginKnown 58 = .ok (.goto (-51), 3) := by decide +kernel
theorem d_Walk_beginKnown_61 : decode b_Walk_beginKnown 61 = .ok (.return_, 1) := by decide +kernel
theorem d_Walk_endBy_0 : decode b_Walk_endBy 0 = .ok (.aload_n 0, 1) := by decide +kernel
theorem d_Walk_endBy_1 : decode b_Walk_endBy 1 = .ok (.iload_n 1, 1) := by decide +kernel
theorem d_Walk_endBy_2 : decode b_Walk_endBy 2 = .ok (.putfield 92, 3) := by decide +kernel
theorem d_Walk_endBy_5 : decode b_Walk_endBy 5 = .ok (.aload_n 0, 1) := by decide +kernel
theorem d_Walk_endBy_6 : decode b_Walk_endBy 6 = .ok (.iload_n 2, 1) := by decide +kernel
theorem d_Walk_endBy_7 : decode b_Walk_endBy 7 = .ok (.putfield 95, 3) := by decide +kernel
theorem d_Walk_endBy_10 : decode b_Walk_endBy 10 = .ok (.aload_n 0, 1) := by decide +kernel
theorem d_Walk_endBy_11 : decode b_Walk_endBy 11 = .ok (.iconst 0, 1) := by decide +kernel
theorem d_Walk_endBy_12 : decode b_Walk_endBy 12 = .ok (.putfield 98, 3) := by decide +kernel
theorem d_Walk_endBy_15 : decode b_Walk_endBy 15 = .ok (.aload_n 0, 1) := by decide +kernel
theorem d_Walk_endBy_16 : decode b_Walk_endBy 16 = .ok (.iconst 0, 1) := by decide +kernel
theorem d_Walk_endBy_17 : decode b_Walk_endBy 17 = .ok (.putfield 101, 3) := by decide +kernel
theorem d_Walk_endBy_20 : decode b_Walk_endBy 20 = .ok (.return_, 1) := by decide +kernel
theorem d_Walk_endAtBranch_0 : decode b_Walk_endAtBranch 0 = .ok (.aload_n 0, 1) := by decide +kernel
theorem d_Walk_endAtBranch_1 : decode b_Walk_endAtBranch 1 = .ok (.getfield 21, 3) := by decide +kernel
theorem d_Walk_endAtBranch_4 : decode b_Walk_endAtBranch 4 = .ok (.iload_n 2, 1) := by decide +kernel
theorem d_Walk_endAtBranch_5 : decode b_Walk_endAtBranch 5 = .ok (.invokevirtual 111, 3) := by decide +kernel
theorem d_Walk_endAtBranch_8 : decode b_Walk_endAtBranch 8 = .ok (.ifCond .eq 30, 3) := by decide +kernel
theorem d_Walk_endAtBranch_11 : decode b_Walk_endAtBranch 11 = .ok (.aload_n 0, 1) := by decide +kernel
theorem d_Walk_endAtBranch_12 : decode b_Walk_endAtBranch 12 = .ok (.bipush 8, 2) := by decide +kernel
theorem d_Walk_endAtBranch_14 : decode b_Walk_endAtBranch 14 = .ok (.aload_n 0, 1) := by decide +kernel
theorem d_Walk_endAtBranch_15 : decode b_Walk_endAtBranch 15 = .ok (.getfield 21, 3) := by decide +kernel
theorem d_Walk_endAtBranch_18 : decode b_Walk_endAtBranch 18 = .ok (.iload_n 2, 1) := by decide +kernel
theorem d_Walk_endAtBranch_19 : decode b_Walk_endAtBranch 19 = .ok (.invokevirtual 114, 3) := by decide +kernel
theorem d_Walk_endAtBranch_22 : decode b_Walk_endAtBranch 22 = .ok (.ifCond .eq 7, 3) := by decide +kernel
theorem d_Walk_endAtBranch_25 : decode b_Walk_endAtBranch 25 = .ok (.iload_n 3, 1) := by decide +kernel
theorem d_Walk_endAtBranch_26 : decode b_Walk_endAtBranch 26 = .ok (.goto 6, 3) := by decide +kernel
theorem d_Walk_endAtBranch_29 : decode b_Walk_endAtBranch 29 = .ok (.iload_n 1, 1) := by decide +kernel
theorem d_Walk_endAtBranch_30 : decode b_Walk_endAtBranch 30 = .ok (.iconst 1, 1) := by decide +kernel
theorem d_Walk_endAtBranch_31 : decode b_Walk_endAtBranch 31 = .ok (.iadd, 1) := by decide +kernel
theorem d_Walk_endAtBranch_32 : decode b_Walk_endAtBranch 32 = .ok (.invokevirtual 64, 3) := by decide +kernel
theorem d_Walk_endAtBranch_35 : decode b_Walk_endAtBranch 35 = .ok (.goto 37, 3) := by decide +kernel
theorem d_Walk_endAtBranch_38 : decode b_Walk_endAtBranch 38 = .ok (.iload_n 3, 1) := by decide +kernel
theorem d_Walk_endAtBranch_39 : decode b_Walk_endAtBranch 39 = .ok (.iload_n 1, 1) := by decide +kernel
theorem d_Walk_endAtBranch_40 : decode b_Walk_endAtBranch 40 = .ok (.iconst 1, 1) := by decide +kernel
theorem d_Walk_endAtBranch_41 : decode b_Walk_endAtBranch 41 = .ok (.iadd, 1) := by decide +kernel
theorem d_Walk_endAtBranch_42 : decode b_Walk_endAtBranch 42 = .ok (.if_icmp .ne 13, 3) := by decide +kernel
theorem d_Walk_endAtBranch_45 : decode b_Walk_endAtBranch 45 = .ok (.aload_n 0, 1) := by decide +kernel
theorem d_Walk_endAtBranch_46 : decode b_Walk_endAtBranch 46 = .ok (.bipush 8, 2) := by decide +kernel
theorem d_Walk_endAtBranch_48 : decode b_Walk_endAtBranch 48 = .ok (.iload_n 3, 1) := by decide +kernel
theorem d_Walk_endAtBranch_49 : decode b_Walk_endAtBranch 49 = .ok (.invokevirtual 64, 3) := by decide +kernel
theorem d_Walk_endAtBranch_52 : decode b_Walk_endAtBranch 52 = .ok (.goto 20, 3) := by decide +kernel
theorem d_Walk_endAtBranch_55 : decode b_Walk_endAtBranch 55 = .ok (.aload_n 0, 1) := by decide +kernel
theorem d_Walk_endAtBranch_56 : decode b_Walk_endAtBranch 56 = .ok (.bipush 9, 2) := by decide +kernel
theorem d_Walk_endAtBranch_58 : decode b_Walk_endAtBranch 58 = .ok (.iload_n 3, 1) := by decide +kernel
theorem d_Walk_endAtBranch_59 : decode b_Walk_endAtBranch 59 = .ok (.invokevirtual 64, 3) := by decide +kernel
theorem d_Walk_endAtBranch_62 : decode b_Walk_endAtBranch 62 = .ok (.aload_n 0, 1) := by decide +kernel
theorem d_Walk_endAtBranch_63 : decode b_Walk_endAtBranch 63 = .ok (.iload_n 1, 1) := by decide +kernel
theorem d_Walk_endAtBranch_64 : decode b_Walk_endAtBranch 64 = .ok (.putfield 98, 3) := by decide +kernel
theorem d_Walk_endAtBranch_67 : decode b_Walk_endAtBranch 67 = .ok (.aload_n 0, 1) := by decide +kernel
theorem d_Walk_endAtBranch_68 : decode b_Walk_endAtBranch 68 = .ok (.iload_n 2, 1) := by decide +kernel
theorem d_Walk_endAtBranch_69 : decode b_Walk_endAtBranch 69 = .ok (.putfield 101, 3) := by decide +kernel
theorem d_Walk_endAtBranch_72 : decode b_Walk_endAtBranch 72 = .ok (.return_, 1) := by decide +kernel
theorem d_Walk_endAt_0 : decode b_Walk_endAt 0 = .ok (.aload_n 1, 1) := by decide +kernel
theorem d_Walk_endAt_1 : decode b_Walk_endAt 1 = .ok (.getfield 48, 3) := by decide +kernel
theorem d_Walk_endAt_4 : decode b_Walk_endAt 4 = .ok (.iload_n 2, 1) := by decide +kernel
theorem d_Walk_endAt_5 : decode b_Walk_endAt 5 = .ok (.iaload, 1) := by decide +kernel
theorem d_Walk_endAt_6 : decode b_Walk_endAt 6 = .ok (.bipush 9, 2) := by decide +kernel
theorem d_Walk_endAt_8 : decode b_Walk_endAt 8 = .ok (.if_icmp .ne 28, 3) := by decide +kernel
theorem d_Walk_endAt_11 : decode b_Walk_endAt 11 = .ok (.aload_n 0, 1) := by decide +kernel
theorem d_Walk_endAt_12 : decode b_Walk_endAt 12 = .ok (.iload_n 2, 1) := by decide +kernel
theorem d_Walk_endAt_13 : decode b_Walk_endAt 13 = .ok (.aload_n 0, 1) := by decide +kernel
theorem d_Walk_endAt_14 : decode b_Walk_endAt 14 = .ok (.getfield 9, 3) := by decide +kernel
theorem d_Walk_endAt_17 : decode b_Walk_endAt 17 = .ok (.aload_n 1, 1) := by decide +kernel
theorem d_Walk_endAt_18 : decode b_Walk_endAt 18 = .ok (.getfield 79, 3) := by decide +kernel
theorem d_Walk_endAt_21 : decode b_Walk_endAt 21 = .ok (.iload_n 2, 1) := by decide +kernel
theorem d_Walk_endAt_22 : decode b_Walk_endAt 22 = .ok (.iaload, 1) := by decide +kernel
theorem d_Walk_endAt_23 : decode b_Walk_endAt 23 = .ok (.iaload, 1) := by decide +kernel
theorem d_Walk_endAt_24 : decode b_Walk_endAt 24 = .ok (.aload_n 1, 1) := by decide +kernel
theorem d_Walk_endAt_25 : decode b_Walk_endAt 25 = .ok (.getfield 82, 3) := by decide +kernel
theorem d_Walk_endAt_28 : decode b_Walk_endAt 28 = .ok (.iload_n 2, 1) := by decide +kernel
theorem d_Walk_endAt_29 : decode b_Walk_endAt 29 = .ok (.iaload, 1) := by decide +kernel
theorem d_Walk_endAt_30 : decode b_Walk_endAt 30 = .ok (.invokevirtual 120, 3) := by decide +kernel
theorem d_Walk_endAt_33 : decode b_Walk_endAt 33 = .ok (.goto 19, 3) := by decide +kernel
theorem d_Walk_endAt_36 : decode b_Walk_endAt 36 = .ok (.aload_n 0, 1) := by decide +kernel
theorem d_Walk_endAt_37 : decode b_Walk_endAt 37 = .ok (.aload_n 1, 1) := by decide +kernel
theorem d_Walk_endAt_38 : decode b_Walk_endAt 38 = .ok (.getfield 48, 3) := by decide +kernel
theorem d_Walk_endAt_41 : decode b_Walk_endAt 41 = .ok (.iload_n 2, 1) := by decide +kernel
theorem d_Walk_endAt_42 : decode b_Walk_endAt 42 = .ok (.iaload, 1) := by decide +kernel
theorem d_Walk_endAt_43 : decode b_Walk_endAt 43 = .ok (.aload_n 1, 1) := by decide +kernel
theorem d_Walk_endAt_44 : decode b_Walk_endAt 44 = .ok (.getfield 79, 3) := by decide +kernel
theorem d_Walk_endAt_47 : decode b_Walk_endAt 47 = .ok (.iload_n 2, 1) := by decide +kernel
theorem d_Walk_endAt_48 : decode b_Walk_endAt 48 = .ok (.iaload, 1) := by decide +kernel
theorem d_Walk_endAt_49 : decode b_Walk_endAt 49 = .ok (.invokevirtual 64, 3) := by decide +kernel
theorem d_Walk_endAt_52 : decode b_Walk_endAt 52 = .ok (.return_, 1) := by decide +kernel
theorem d_Walk_hasRisk_0 : decode b_Walk_hasRisk 0 = .ok (.iconst 0, 1) := by decide +kernel
theorem d_Walk_hasRisk_1 : decode b_Walk_hasRisk 1 = .ok (.istore_n 3, 1) := by decide +kernel
theorem d_Walk_hasRisk_2 : decode b_Walk_hasRisk 2 = .ok (.iload_n 3, 1) := by decide +kernel
theorem d_Walk_hasRisk_3 : decode b_Walk_hasRisk 3 = .ok (.aload_n 0, 1) := by decide +kernel
theorem d_Walk_hasRisk_4 : decode b_Walk_hasRisk 4 = .ok (.getfield 31, 3) := by decide +kernel
theorem d_Walk_hasRisk_7 : decode b_Walk_hasRisk 7 = .ok (.if_icmp .ge 31, 3) := by decide +kernel
theorem d_Walk_hasRisk_10 : decode b_Walk_hasRisk 10 = .ok (.aload_n 0, 1) := by decide +kernel
theorem d_Walk_hasRisk_11 : decode b_Walk_hasRisk 11 = .ok (.getfield 15, 3) := by decide +kernel
theorem d_Walk_hasRisk_14 : decode b_Walk_hasRisk 14 = .ok (.iload_n 3, 1) := by decide +kernel
theorem d_Walk_hasRisk_15 : decode b_Walk_hasRisk 15 = .ok (.iaload, 1) := by decide +kernel
theorem d_Walk_hasRisk_16 : decode b_Walk_hasRisk 16 = .ok (.iload_n 1, 1) := by decide +kernel
theorem d_Walk_hasRisk_17 : decode b_Walk_hasRisk 17 = .ok (.if_icmp .ne 15, 3) := by decide +kernel
theorem d_Walk_hasRisk_20 : decode b_Walk_hasRisk 20 = .ok (.aload_n 0, 1) := by decide +kernel
theorem d_Walk_hasRisk_21 : decode b_Walk_hasRisk 21 = .ok (.getfield 18, 3) := by decide +kernel
theorem d_Walk_hasRisk_24 : decode b_Walk_hasRisk 24 = .ok (.iload_n 3, 1) := by decide +kernel
theorem d_Walk_hasRisk_25 : decode b_Walk_hasRisk 25 = .ok (.iaload, 1) := by decide +kernel
theorem d_Walk_hasRisk_26 : decode b_Walk_hasRisk 26 = .ok (.iload_n 2, 1) := by decide +kernel
theorem d_Walk_hasRisk_27 : decode b_Walk_hasRisk 27 = .ok (.if_icmp .ne 5, 3) := by decide +kernel
theorem d_Walk_hasRisk_30 : decode b_Walk_hasRisk 30 = .ok (.iconst 1, 1) := by decide +kernel
theorem d_Walk_hasRisk_31 : decode b_Walk_hasRisk 31 = .ok (.ireturn, 1) := by decide +kernel
theorem d_Walk_hasRisk_32 : decode b_Walk_hasRisk 32 = .ok (.iinc 3 1, 3) := by decide +kernel
theorem d_Walk_hasRisk_35 : decode b_Walk_hasRisk 35 = .ok (.goto (-33), 3) := by decide +kernel
theorem d_Walk_hasRisk_38 : decode b_Walk_hasRisk 38 = .ok (.iconst 0, 1) := by decide +kernel
theorem d_Walk_hasRisk_39 : decode b_Walk_hasRisk 39 = .ok (.ireturn, 1) := by decide +kernel
theorem d_Walk_noteRisk_0 : decode b_Walk_noteRisk 0 = .ok (.aload_n 1, 1) := by decide +kernel
theorem d_Walk_noteRisk_1 : decode b_Walk_noteRisk 1 = .ok (.getfield 48, 3) := by decide +kernel
theorem d_Walk_noteRisk_4 : decode b_Walk_noteRisk 4 = .ok (.iload_n 2, 1) := by decide +kernel
theorem d_Walk_noteRisk_5 : decode b_Walk_noteRisk 5 = .ok (.iaload, 1) := by decide +kernel
theorem d_Walk_noteRisk_6 : decode b_Walk_noteRisk 6 = .ok (.bipush 6, 2) := by decide +kernel
theorem d_Walk_noteRisk_8 : decode b_Walk_noteRisk 8 = .ok (.if_icmp .eq 4, 3) := by decide +kernel
theorem d_Walk_noteRisk_11 : decode b_Walk_noteRisk 11 = .ok (.return_, 1) := by decide +kernel
theorem d_Walk_noteRisk_12 : decode b_Walk_noteRisk 12 = .ok (.aload_n 0, 1) := by decide +kernel
theorem d_Walk_noteRisk_13 : decode b_Walk_noteRisk 13 = .ok (.getfield 9, 3) := by decide +kernel
theorem d_Walk_noteRisk_16 : decode b_Walk_noteRisk 16 = .ok (.aload_n 1, 1) := by decide +kernel
theorem d_Walk_noteRisk_17 : decode b_Walk_noteRisk 17 = .ok (.getfield 79, 3) := by decide +kernel
theorem d_Walk_noteRisk_20 : decode b_Walk_noteRisk 20 = .ok (.iload_n 2, 1) := by decide +kernel
theorem d_Walk_noteRisk_21 : decode b_Walk_noteRisk 21 = .ok (.iaload, 1) := by decide +kernel
theorem d_Walk_noteRisk_22 : decode b_Walk_noteRisk 22 = .ok (.iaload, 1) := by decide +kernel
theorem d_Walk_noteRisk_23 : decode b_Walk_noteRisk 23 = .ok (.istore_n 3, 1) := by decide +kernel
theorem d_Walk_noteRisk_24 : decode b_Walk_noteRisk 24 = .ok (.aload_n 0, 1) := by decide +kernel
theorem d_Walk_noteRisk_25 : decode b_Walk_noteRisk 25 = .ok (.getfield 9, 3) := by decide +kernel
theorem d_Walk_noteRisk_28 : decode b_Walk_noteRisk 28 = .ok (.aload_n 1, 1) := by decide +kernel
theorem d_Walk_noteRisk_29 : decode b_Walk_noteRisk 29 = .ok (.getfield 82, 3) := by decide +kernel
theorem d_Walk_noteRisk_32 : decode b_Walk_noteRisk 32 = .ok (.iload_n 2, 1) := by decide +kernel
theorem d_Walk_noteRisk_33 : decode b_Walk_noteRisk 33 = .ok (.iaload, 1) := by decide +kernel
theorem d_Walk_noteRisk_34 : decode b_Walk_noteRisk 34 = .ok (.iaload, 1) := by decide +kernel
theorem d_Walk_noteRisk_35 : decode b_Walk_noteRisk 35 = .ok (.istore 4, 2) := by decide +kernel
theorem d_Walk_noteRisk_37 : decode b_Walk_noteRisk 37 = .ok (.aload_n 0, 1) := by decide +kernel
theorem d_Walk_noteRisk_38 : decode b_Walk_noteRisk 38 = .ok (.getfield 21, 3) := by decide +kernel
theorem d_Walk_noteRisk_41 : decode b_Walk_noteRisk 41 = .ok (.iload 4, 2) := by decide +kernel
theorem d_Walk_noteRisk_43 : decode b_Walk_noteRisk 43 = .ok (.invokevirtual 111, 3) := by decide +kernel
theorem d_Walk_noteRisk_46 : decode b_Walk_noteRisk 46 = .ok (.ifCond .eq 16, 3) := by decide +kernel
theorem d_Walk_noteRisk_49 : decode b_Walk_noteRisk 49 = .ok (.aload_n 0, 1) := by decide +kernel
theorem d_Walk_noteRisk_50 : decode b_Walk_noteRisk 50 = .ok (.getfield 21, 3) := by decide +kernel
theorem d_Walk_noteRisk_53 : decode b_Walk_noteRisk 53 = .ok (.iload 4, 2) := by decide +kernel
theorem d_Walk_noteRisk_55 : decode b_Walk_noteRisk 55 = .ok (.invokevirtual 114, 3) := by decide +kernel
theorem d_Walk_noteRisk_58 : decode b_Walk_noteRisk 58 = .ok (.ifCond .eq 4, 3) := by decide +kernel
theorem d_Walk_noteRisk_61 : decode b_Walk_noteRisk 61 = .ok (.return_, 1) := by decide +kernel
theorem d_Walk_noteRisk_62 : decode b_Walk_noteRisk 62 = .ok (.aload_n 0, 1) := by decide +kernel
theorem d_Walk_noteRisk_63 : decode b_Walk_noteRisk 63 = .ok (.iload_n 3, 1) := by decide +kernel
theorem d_Walk_noteRisk_64 : decode b_Walk_noteRisk 64 = .ok (.iload 4, 2) := by decide +kernel
theorem d_Walk_noteRisk_66 : decode b_Walk_noteRisk 66 = .ok (.invokevirtual 117, 3) := by decide +kernel
theorem d_Walk_noteRisk_69 : decode b_Walk_noteRisk 69 = .ok (.ifCond .ne 34, 3) := by decide +kernel
theorem d_Walk_noteRisk_72 : decode b_Walk_noteRisk 72 = .ok (.aload_n 0, 1) := by decide +kernel
theorem d_Walk_noteRisk_73 : decode b_Walk_noteRisk 73 = .ok (.getfield 15, 3) := by decide +kernel
theorem d_Walk_noteRisk_76 : decode b_Walk_noteRisk 76 = .ok (.aload_n 0, 1) := by decide +kernel
theorem d_Walk_noteRisk_77 : decode b_Walk_noteRisk 77 = .ok (.getfield 31, 3) := by decide +kernel
theorem d_Walk_noteRisk_80 : decode b_Walk_noteRisk 80 = .ok (.iload_n 3, 1) := by decide +kernel
theorem d_Walk_noteRisk_81 : decode b_Walk_noteRisk 81 = .ok (.iastore, 1) := by decide +kernel
theorem d_Walk_noteRisk_82 : decode b_Walk_noteRisk 82 = .ok (.aload_n 0, 1) := by decide +kernel
theorem d_Walk_noteRisk_83 : decode b_Walk_noteRisk 83 = .ok (.getfield 18, 3) := by decide +kernel
theorem d_Walk_noteRisk_86 : decode b_Walk_noteRisk 86 = .ok (.aload_n 0, 1) := by decide +kernel
theorem d_Walk_noteRisk_87 : decode b_Walk_noteRisk 87 = .ok (.getfield 31, 3) := by decide +kernel
theorem d_Walk_noteRisk_90 : decode b_Walk_noteRisk 90 = .ok (.iload 4, 2) := by decide +kernel
theorem d_Walk_noteRisk_92 : decode b_Walk_noteRisk 92 = .ok (.iastore, 1) := by decide +kernel
theorem d_Walk_noteRisk_93 : decode b_Walk_noteRisk 93 = .ok (.aload_n 0, 1) := by decide +kernel
theorem d_Walk_noteRisk_94 : decode b_Walk_noteRisk 94 = .ok (.dup, 1) := by decide +kernel
theorem d_Walk_noteRisk_95 : decode b_Walk_noteRisk 95 = .ok (.getfield 31, 3) := by decide +kernel
theorem d_Walk_noteRisk_98 : decode b_Walk_noteRisk 98 = .ok (.iconst 1, 1) := by decide +kernel
theorem d_Walk_noteRisk_99 : decode b_Walk_noteRisk 99 = .ok (.iadd, 1) := by decide +kernel
theorem d_Walk_noteRisk_100 : decode b_Walk_noteRisk 100 = .ok (.putfield 31, 3) := by decide +kernel
theorem d_Walk_noteRisk_103 : decode b_Walk_noteRisk 103 = .ok (.return_, 1) := by decide +kernel
theorem d_Walk_goThrough_0 : decode b_Walk_goThrough 0 = .ok (.iload_n 2, 1) := by decide +kernel
theorem d_Walk_goThrough_1 : decode b_Walk_goThrough 1 = .ok (.istore 4, 2) := by decide +kernel
theorem d_Walk_goThrough_3 : decode b_Walk_goThrough 3 = .ok (.iload 4, 2) := by decide +kernel
theorem d_Walk_goThrough_5 : decode b_Walk_goThrough 5 = .ok (.iload_n 3, 1) := by decide +kernel
theorem d_Walk_goThrough_6 : decode b_Walk_goThrough 6 = .ok (.if_icmp .gt 44, 3) := by decide +kernel
theorem d_Walk_goThrough_9 : decode b_Walk_goThrough 9 = .ok (.aload_n 1, 1) := by decide +kernel
theorem d_Walk_goThrough_10 : decode b_Walk_goThrough 10 = .ok (.getfield 48, 3) := by decide +kernel
theorem d_Walk_goThrough_13 : decode b_Walk_goThrough 13 = .ok (.iload 4, 2) := by decide +kernel
theorem d_Walk_goThrough_15 : decode b_Walk_goThrough 15 = .ok (.iaload, 1) := by decide +kernel
theorem d_Walk_goThrough_16 : decode b_Walk_goThrough 16 = .ok (.bipush 8, 2) := by decide +kernel
theorem d_Walk_goThrough_18 : decode b_Walk_goThrough 18 = .ok (.if_icmp .lt 11, 3) := by decide +kernel
theorem d_Walk_goThrough_21 : decode b_Walk_goThrough 21 = .ok (.aload_n 0, 1) := by decide +kernel
theorem d_Walk_goThrough_22 : decode b_Walk_goThrough 22 = .ok (.aload_n 1, 1) := by decide +kernel
theorem d_Walk_goThrough_23 : decode b_Walk_goThrough 23 = .ok (.iload 4, 2) := by decide +kernel
theorem d_Walk_goThrough_25 : decode b_Walk_goThrough 25 = .ok (.invokevirtual 53, 3) := by decide +kernel
theorem d_Walk_goThrough_28 : decode b_Walk_goThrough 28 = .ok (.return_, 1) := by decide +kernel
theorem d_Walk_goThrough_29 : decode b_Walk_goThrough 29 = .ok (.aload_n 0, 1) := by decide +kernel
theorem d_Walk_goThrough_30 : decode b_Walk_goThrough 30 = .ok (.aload_n 1, 1) := by decide +kernel
theorem d_Walk_goThrough_31 : decode b_Walk_goThrough 31 = .ok (.iload 4, 2) := by decide +kernel
theorem d_Walk_goThrough_33 : decode b_Walk_goThrough 33 = .ok (.invokevirtual 57, 3) := by decide +kernel
theorem d_Walk_goThrough_36 : decode b_Walk_goThrough 36 = .ok (.aload_n 0, 1) := by decide +kernel
theorem d_Walk_goThrough_37 : decode b_Walk_goThrough 37 = .ok (.aload_n 1, 1) := by decide +kernel
theorem d_Walk_goThrough_38 : decode b_Walk_goThrough 38 = .ok (.iload 4, 2) := by decide +kernel
theorem d_Walk_goThrough_40 : decode b_Walk_goThrough 40 = .ok (.iconst 1, 1) := by decide +kernel
theorem d_Walk_goThrough_41 : decode b_Walk_goThrough 41 = .ok (.invokevirtual 60, 3) := by decide +kernel
theorem d_Walk_goThrough_44 : decode b_Walk_goThrough 44 = .ok (.iinc 4 1, 3) := by decide +kernel
theorem d_Walk_goThrough_47 : decode b_Walk_goThrough 47 = .ok (.goto (-44), 3) := by decide +kernel
theorem d_Walk_goThrough_50 : decode b_Walk_goThrough 50 = .ok (.aload_n 0, 1) := by decide +kernel
theorem d_Walk_goThrough_51 : decode b_Walk_goThrough 51 = .ok (.bipush 8, 2) := by decide +kernel
theorem d_Walk_goThrough_53 : decode b_Walk_goThrough 53 = .ok (.iload_n 3, 1) := by decide +kernel
theorem d_Walk_goThrough_54 : decode b_Walk_goThrough 54 = .ok (.iconst 1, 1) := by decide +kernel
theorem d_Walk_goThrough_55 : decode b_Walk_goThrough 55 = .ok (.iadd, 1) := by decide +kernel
theorem d_Walk_goThrough_56 : decode b_Walk_goThrough 56 = .ok (.invokevirtual 64, 3) := by decide +kernel
theorem d_Walk_goThrough_59 : decode b_Walk_goThrough 59 = .ok (.return_, 1) := by decide +kernel
theorem d_Walk_hasRisksOf_0 : decode b_Walk_hasRisksOf 0 = .ok (.aload_n 0, 1) := by decide +kernel
theorem d_Walk_hasRisksOf_1 : decode b_Walk_hasRisksOf 1 = .ok (.getfield 31, 3) := by decide +kernel
theorem d_Walk_hasRisksOf_4 : decode b_Walk_hasRisksOf 4 = .ok (.aload_n 1, 1) := by decide +kernel
theorem d_Walk_hasRisksOf_5 : decode b_Walk_hasRisksOf 5 = .ok (.getfield 31, 3) := by decide +kernel
theorem d_Walk_hasRisksOf_8 : decode b_Walk_hasRisksOf 8 = .ok (.if_icmp .eq 5, 3) := by decide +kernel
theorem d_Walk_hasRisksOf_11 : decode b_Walk_hasRisksOf 11 = .ok (.iconst 0, 1) := by decide +kernel
theorem d_Walk_hasRisksOf_12 : decode b_Walk_hasRisksOf 12 = .ok (.ireturn, 1) := by decide +kernel
theorem d_Walk_hasRisksOf_13 : decode b_Walk_hasRisksOf 13 = .ok (.iconst 0, 1) := by decide +kernel
theorem d_Walk_hasRisksOf_14 : decode b_Walk_hasRisksOf 14 = .ok (.istore_n 2, 1) := by decide +kernel
theorem d_Walk_hasRisksOf_15 : decode b_Walk_hasRisksOf 15 = .ok (.iload_n 2, 1) := by decide +kernel
theorem d_Walk_hasRisksOf_16 : decode b_Walk_hasRisksOf 16 = .ok (.aload_n 0, 1) := by decide +kernel
theorem d_Walk_hasRisksOf_17 : decode b_Walk_hasRisksOf 17 = .ok (.getfield 31, 3) := by decide +kernel
theorem d_Walk_hasRisksOf_20 : decode b_Walk_hasRisksOf 20 = .ok (.if_icmp .ge 41, 3) := by decide +kernel
theorem d_Walk_hasRisksOf_23 : decode b_Walk_hasRisksOf 23 = .ok (.aload_n 0, 1) := by decide +kernel
theorem d_Walk_hasRisksOf_24 : decode b_Walk_hasRisksOf 24 = .ok (.getfield 15, 3) := by decide +kernel
theorem d_Walk_hasRisksOf_27 : decode b_Walk_hasRisksOf 27 = .ok (.iload_n 2, 1) := by decide +kernel
theorem d_Walk_hasRisksOf_28 : decode b_Walk_hasRisksOf 28 = .ok (.iaload, 1) := by decide +kernel
theorem d_Walk_hasRisksOf_29 : decode b_Walk_hasRisksOf 29 = .ok (.aload_n 1, 1) := by decide +kernel
theorem d_Walk_hasRisksOf_30 : decode b_Walk_hasRisksOf 30 = .ok (.getfield 15, 3) := by decide +kernel
theorem d_Walk_hasRisksOf_33 : decode b_Walk_hasRisksOf 33 = .ok (.iload_n 2, 1) := by decide +kernel
theorem d_Walk_hasRisksOf_34 : decode b_Walk_hasRisksOf 34 = .ok (.iaload, 1) := by decide +kernel
theorem d_Walk_hasRisksOf_35 : decode b_Walk_hasRisksOf 35 = .ok (.if_icmp .ne 18, 3) := by decide +kernel
theorem d_Walk_hasRisksOf_38 : decode b_Walk_hasRisksOf 38 = .ok (.aload_n 0, 1) := by decide +kernel
theorem d_Walk_hasRisksOf_39 : decode b_Walk_hasRisksOf 39 = .ok (.getfield 18, 3) := by decide +kernel
theorem d_Walk_hasRisksOf_42 : decode b_Walk_hasRisksOf 42 = .ok (.iload_n 2, 1) := by decide +kernel
theorem d_Walk_hasRisksOf_43 : decode b_Walk_hasRisksOf 43 = .ok (.iaload, 1) := by decide +kernel
theorem d_Walk_hasRisksOf_44 : decode b_Walk_hasRisksOf 44 = .ok (.aload_n 1, 1) := by decide +kernel
theorem d_Walk_hasRisksOf_45 : decode b_Walk_hasRisksOf 45 = .ok (.getfield 18, 3) := by decide +kernel
theorem d_Walk_hasRisksOf_48 : decode b_Walk_hasRisksOf 48 = .ok (.iload_n 2, 1) := by decide +kernel
theorem d_Walk_hasRisksOf_49 : decode b_Walk_hasRisksOf 49 = .ok (.iaload, 1) := by decide +kernel
theorem d_Walk_hasRisksOf_50 : decode b_Walk_hasRisksOf 50 = .ok (.if_icmp .eq 5, 3) := by decide +kernel
theorem d_Walk_hasRisksOf_53 : decode b_Walk_hasRisksOf 53 = .ok (.iconst 0, 1) := by decide +kernel
theorem d_Walk_hasRisksOf_54 : decode b_Walk_hasRisksOf 54 = .ok (.ireturn, 1) := by decide +kernel
theorem d_Walk_hasRisksOf_55 : decode b_Walk_hasRisksOf 55 = .ok (.iinc 2 1, 3) := by decide +kernel
theorem d_Walk_hasRisksOf_58 : decode b_Walk_hasRisksOf 58 = .ok (.goto (-43), 3) := by decide +kernel
theorem d_Walk_hasRisksOf_61 : decode b_Walk_hasRisksOf 61 = .ok (.iconst 1, 1) := by decide +kernel
theorem d_Walk_hasRisksOf_62 : decode b_Walk_hasRisksOf 62 = .ok (.ireturn, 1) := by decide +kernel
theorem d_Walk_hasEndOf_0 : decode b_Walk_hasEndOf 0 = .ok (.aload_n 0, 1) := by decide +kernel
theorem d_Walk_hasEndOf_1 : decode b_Walk_hasEndOf 1 = .ok (.getfield 92, 3) := by decide +kernel
theorem d_Walk_hasEndOf_4 : decode b_Walk_hasEndOf 4 = .ok (.aload_n 1, 1) := by decide +kernel
theorem d_Walk_hasEndOf_5 : decode b_Walk_hasEndOf 5 = .ok (.getfield 92, 3) := by decide +kernel
theorem d_Walk_hasEndOf_8 : decode b_Walk_hasEndOf 8 = .ok (.if_icmp .ne 40, 3) := by decide +kernel
theorem d_Walk_hasEndOf_11 : decode b_Walk_hasEndOf 11 = .ok (.aload_n 0, 1) := by decide +kernel
theorem d_Walk_hasEndOf_12 : decode b_Walk_hasEndOf 12 = .ok (.getfield 95, 3) := by decide +kernel
theorem d_Walk_hasEndOf_15 : decode b_Walk_hasEndOf 15 = .ok (.aload_n 1, 1) := by decide +kernel
theorem d_Walk_hasEndOf_16 : decode b_Walk_hasEndOf 16 = .ok (.getfield 95, 3) := by decide +kernel
theorem d_Walk_hasEndOf_19 : decode b_Walk_hasEndOf 19 = .ok (.if_icmp .ne 29, 3) := by decide +kernel
theorem d_Walk_hasEndOf_22 : decode b_Walk_hasEndOf 22 = .ok (.aload_n 0, 1) := by decide +kernel
theorem d_Walk_hasEndOf_23 : decode b_Walk_hasEndOf 23 = .ok (.getfield 98, 3) := by decide +kernel
theorem d_Walk_hasEndOf_26 : decode b_Walk_hasEndOf 26 = .ok (.aload_n 1, 1) := by decide +kernel
theorem d_Walk_hasEndOf_27 : decode b_Walk_hasEndOf 27 = .ok (.getfield 98, 3) := by decide +kernel
theorem d_Walk_hasEndOf_30 : decode b_Walk_hasEndOf 30 = .ok (.if_icmp .ne 18, 3) := by decide +kernel
theorem d_Walk_hasEndOf_33 : decode b_Walk_hasEndOf 33 = .ok (.aload_n 0, 1) := by decide +kernel
theorem d_Walk_hasEndOf_34 : decode b_Walk_hasEndOf 34 = .ok (.getfield 101, 3) := by decide +kernel
theorem d_Walk_hasEndOf_37 : decode b_Walk_hasEndOf 37 = .ok (.aload_n 1, 1) := by decide +kernel
theorem d_Walk_hasEndOf_38 : decode b_Walk_hasEndOf 38 = .ok (.getfield 101, 3) := by decide +kernel
theorem d_Walk_hasEndOf_41 : decode b_Walk_hasEndOf 41 = .ok (.if_icmp .ne 7, 3) := by decide +kernel
theorem d_Walk_hasEndOf_44 : decode b_Walk_hasEndOf 44 = .ok (.iconst 1, 1) := by decide +kernel
theorem d_Walk_hasEndOf_45 : decode b_Walk_hasEndOf 45 = .ok (.goto 4, 3) := by decide +kernel
theorem d_Walk_hasEndOf_48 : decode b_Walk_hasEndOf 48 = .ok (.iconst 0, 1) := by decide +kernel
theorem d_Walk_hasEndOf_49 : decode b_Walk_hasEndOf 49 = .ok (.ireturn, 1) := by decide +kernel
theorem d_Walk_countingRegisters_0 : decode b_Walk_countingRegisters 0 = .ok (.aload_n 0, 1) := by decide +kernel
theorem d_Walk_countingRegisters_1 : decode b_Walk_countingRegisters 1 = .ok (.getfield 92, 3) := by decide +kernel
theorem d_Walk_countingRegisters_4 : decode b_Walk_countingRegisters 4 = .ok (.bipush 10, 2) := by decide +kernel
theorem d_Walk_countingRegisters_6 : decode b_Walk_countingRegisters 6 = .ok (.if_icmp .ne 8, 3) := by decide +kernel
theorem d_Walk_countingRegisters_9 : decode b_Walk_countingRegisters 9 = .ok (.aload_n 0, 1) := by decide +kernel
theorem d_Walk_countingRegisters_10 : decode b_Walk_countingRegisters 10 = .ok (.getfield 95, 3) := by decide +kernel
theorem d_Walk_countingRegisters_13 : decode b_Walk_countingRegisters 13 = .ok (.ireturn, 1) := by decide +kernel
theorem d_Walk_countingRegisters_14 : decode b_Walk_countingRegisters 14 = .ok (.aload_n 1, 1) := by decide +kernel
theorem d_Walk_countingRegisters_15 : decode b_Walk_countingRegisters 15 = .ok (.aload_n 0, 1) := by decide +kernel
theorem d_Walk_countingRegisters_16 : decode b_Walk_countingRegisters 16 = .ok (.getfield 95, 3) := by decide +kernel
theorem d_Walk_countingRegisters_19 : decode b_Walk_countingRegisters 19 = .ok (.invokevirtual 108, 3) := by decide +kernel
theorem d_Walk_countingRegisters_22 : decode b_Walk_countingRegisters 22 = .ok (.istore_n 2, 1) := by decide +kernel
theorem d_Walk_countingRegisters_23 : decode b_Walk_countingRegisters 23 = .ok (.aload_n 0, 1) := by decide +kernel
theorem d_Walk_countingRegisters_24 : decode b_Walk_countingRegisters 24 = .ok (.getfield 92, 3) := by decide +kernel
theorem d_Walk_countingRegisters_27 : decode b_Walk_countingRegisters 27 = .ok (.bipush 9, 2) := by decide +kernel
theorem d_Walk_countingRegisters_29 : decode b_Walk_countingRegisters 29 = .ok (.if_icmp .ne 18, 3) := by decide +kernel
theorem d_Walk_countingRegisters_32 : decode b_Walk_countingRegisters 32 = .ok (.iload_n 2, 1) := by decide +kernel
theorem d_Walk_countingRegisters_33 : decode b_Walk_countingRegisters 33 = .ok (.aload_n 1, 1) := by decide +kernel
theorem d_Walk_countingRegisters_34 : decode b_Walk_countingRegisters 34 = .ok (.aload_n 0, 1) := by decide +kernel
theorem d_Walk_countingRegisters_35 : decode b_Walk_countingRegisters 35 = .ok (.getfield 98, 3) := by decide +kernel
theorem d_Walk_countingRegisters_38 : decode b_Walk_countingRegisters 38 = .ok (.iconst 1, 1) := by decide +kernel
theorem d_Walk_countingRegisters_39 : decode b_Walk_countingRegisters 39 = .ok (.iadd, 1) := by decide +kernel
theorem d_Walk_countingRegisters_40 : decode b_Walk_countingRegisters 40 = .ok (.invokevirtual 108, 3) := by decide +kernel
theorem d_Walk_countingRegisters_43 : decode b_Walk_countingRegisters 43 = .ok (.ior, 1) := by decide +kernel
theorem d_Walk_countingRegisters_44 : decode b_Walk_countingRegisters 44 = .ok (.goto 4, 3) := by decide +kernel
theorem d_Walk_countingRegisters_47 : decode b_Walk_countingRegisters 47 = .ok (.iload_n 2, 1) := by decide +kernel
theorem d_Walk_countingRegisters_48 : decode b_Walk_countingRegisters 48 = .ok (.ireturn, 1) := by decide +kernel
theorem d_Walk_holdsAlike_0 : decode b_Walk_holdsAlike 0 = .ok (.iconst 0, 1) := by decide +kernel
theorem d_Walk_holdsAlike_1 : decode b_Walk_holdsAlike 1 = .ok (.istore_n 3, 1) := by decide +kernel
theorem d_Walk_holdsAlike_2 : decode b_Walk_holdsAlike 2 = .ok (.iload_n 3, 1) := by decide +kernel
theorem d_Walk_holdsAlike_3 : decode b_Walk_holdsAlike 3 = .ok (.iconst 5, 1) := by decide +kernel
theorem d_Walk_holdsAlike_4 : decode b_Walk_holdsAlike 4 = .ok (.if_icmp .ge 34, 3) := by decide +kernel
theorem d_Walk_holdsAlike_7 : decode b_Walk_holdsAlike 7 = .ok (.iload_n 3, 1) := by decide +kernel
theorem d_Walk_holdsAlike_8 : decode b_Walk_holdsAlike 8 = .ok (.iload_n 2, 1) := by decide +kernel
theorem d_Walk_holdsAlike_9 : decode b_Walk_holdsAlike 9 = .ok (.invokestatic 104, 3) := by decide +kernel
theorem d_Walk_holdsAlike_12 : decode b_Walk_holdsAlike 12 = .ok (.ifCond .eq 20, 3) := by decide +kernel
theorem d_Walk_holdsAlike_15 : decode b_Walk_holdsAlike 15 = .ok (.aload_n 0, 1) := by decide +kernel
theorem d_Walk_holdsAlike_16 : decode b_Walk_holdsAlike 16 = .ok (.getfield 9, 3) := by decide +kernel
theorem d_Walk_holdsAlike_19 : decode b_Walk_holdsAlike 19 = .ok (.iload_n 3, 1) := by decide +kernel
theorem d_Walk_holdsAlike_20 : decode b_Walk_holdsAlike 20 = .ok (.iaload, 1) := by decide +kernel
theorem d_Walk_holdsAlike_21 : decode b_Walk_holdsAlike 21 = .ok (.aload_n 1, 1) := by decide +kernel
theorem d_Walk_holdsAlike_22 : decode b_Walk_holdsAlike 22 = .ok (.getfield 9, 3) := by decide +kernel
theorem d_Walk_holdsAlike_25 : decode b_Walk_holdsAlike 25 = .ok (.iload_n 3, 1) := by decide +kernel
theorem d_Walk_holdsAlike_26 : decode b_Walk_holdsAlike 26 = .ok (.iaload, 1) := by decide +kernel
theorem d_Walk_holdsAlike_27 : decode b_Walk_holdsAlike 27 = .ok (.if_icmp .eq 5, 3) := by decide +kernel
theorem d_Walk_holdsAlike_30 : decode b_Walk_holdsAlike 30 = .ok (.iconst 0, 1) := by decide +kernel
theorem d_Walk_holdsAlike_31 : decode b_Walk_holdsAlike 31 = .ok (.ireturn, 1) := by decide +kernel
theorem d_Walk_holdsAlike_32 : decode b_Walk_holdsAlike 32 = .ok (.iinc 3 1, 3) := by decide +kernel
theorem d_Walk_holdsAlike_35 : decode b_Walk_holdsAlike 35 = .ok (.goto (-33), 3) := by decide +kernel
theorem d_Walk_holdsAlike_38 : decode b_Walk_holdsAlike 38 = .ok (.iconst 1, 1) := by decide +kernel
theorem d_Walk_holdsAlike_39 : decode b_Walk_holdsAlike 39 = .ok (.ireturn, 1) := by decide +kernel
theorem d_BlockCode_isBlockAlike_0 : decode b_BlockCode_isBlockAlike 0 = .ok (.aload_n 0, 1) := by decide +kernel
theorem d_BlockCode_isBlockAlike_1 : decode b_BlockCode_isBlockAlike 1 = .ok (.getfield 10, 3) := by decide +kernel
theorem d_BlockCode_isBlockAlike_4 : decode b_BlockCode_isBlockAlike 4 = .ok (.iload_n 1, 1) := by decide +kernel
theorem d_BlockCode_isBlockAlike_5 : decode b_BlockCode_isBlockAlike 5 = .ok (.invokevirtual 231, 3) := by decide +kernel
theorem d_BlockCode_isBlockAlike_8 : decode b_BlockCode_isBlockAlike 8 = .ok (.istore_n 2, 1) := by decide +kernel
theorem d_BlockCode_isBlockAlike_9 : decode b_BlockCode_isBlockAlike 9 = .ok (.aload_n 0, 1) := by decide +kernel
theorem d_BlockCode_isBlockAlike_10 : decode b_BlockCode_isBlockAlike 10 = .ok (.getfield 29, 3) := by decide +kernel
theorem d_BlockCode_isBlockAlike_13 : decode b_BlockCode_isBlockAlike 13 = .ok (.invokevirtual 136, 3) := by decide +kernel
theorem d_BlockCode_isBlockAlike_16 : decode b_BlockCode_isBlockAlike 16 = .ok (.aload_n 0, 1) := by decide +kernel
theorem d_BlockCode_isBlockAlike_17 : decode b_BlockCode_isBlockAlike 17 = .ok (.getfield 38, 3) := by decide +kernel
theorem d_BlockCode_isBlockAlike_20 : decode b_BlockCode_isBlockAlike 20 = .ok (.aload_n 0, 1) := by decide +kernel
theorem d_BlockCode_isBlockAlike_21 : decode b_BlockCode_isBlockAlike 21 = .ok (.getfield 22, 3) := by decide +kernel
theorem d_BlockCode_isBlockAlike_24 : decode b_BlockCode_isBlockAlike 24 = .ok (.iload_n 1, 1) := by decide +kernel
theorem d_BlockCode_isBlockAlike_25 : decode b_BlockCode_isBlockAlike 25 = .ok (.invokevirtual 234, 3) := by decide +kernel
theorem d_BlockCode_isBlockAlike_28 : decode b_BlockCode_isBlockAlike 28 = .ok (.aload_n 0, 1) := by decide +kernel
theorem d_BlockCode_isBlockAlike_29 : decode b_BlockCode_isBlockAlike 29 = .ok (.getfield 38, 3) := by decide +kernel
theorem d_BlockCode_isBlockAlike_32 : decode b_BlockCode_isBlockAlike 32 = .ok (.aload_n 0, 1) := by decide +kernel
theorem d_BlockCode_isBlockAlike_33 : decode b_BlockCode_isBlockAlike 33 = .ok (.getfield 10, 3) := by decide +kernel
theorem d_BlockCode_isBlockAlike_36 : decode b_BlockCode_isBlockAlike 36 = .ok (.iload_n 1, 1) := by decide +kernel
theorem d_BlockCode_isBlockAlike_37 : decode b_BlockCode_isBlockAlike 37 = .ok (.iload_n 2, 1) := by decide +kernel
theorem d_BlockCode_isBlockAlike_38 : decode b_BlockCode_isBlockAlike 38 = .ok (.invokevirtual 238, 3) := by decide +kernel
theorem d_BlockCode_isBlockAlike_41 : decode b_BlockCode_isBlockAlike 41 = .ok (.aload_n 0, 1) := by decide +kernel
theorem d_BlockCode_isBlockAlike_42 : decode b_BlockCode_isBlockAlike 42 = .ok (.getfield 42, 3) := by decide +kernel
theorem d_BlockCode_isBlockAlike_45 : decode b_BlockCode_isBlockAlike 45 = .ok (.aload_n 0, 1) := by decide +kernel
theorem d_BlockCode_isBlockAlike_46 : decode b_BlockCode_isBlockAlike 46 = .ok (.getfield 22, 3) := by decide +kernel
theorem d_BlockCode_isBlockAlike_49 : decode b_BlockCode_isBlockAlike 49 = .ok (.iload_n 1, 1) := by decide +kernel
theorem d_BlockCode_isBlockAlike_50 : decode b_BlockCode_isBlockAlike 50 = .ok (.invokevirtual 234, 3) := by decide +kernel
theorem d_BlockCode_isBlockAlike_53 : decode b_BlockCode_isBlockAlike 53 = .ok (.aload_n 0, 1) := by decide +kernel
theorem d_BlockCode_isBlockAlike_54 : decode b_BlockCode_isBlockAlike 54 = .ok (.getfield 42, 3) := by decide +kernel
