theorem d_Facts_flowFrom_122 : decode b_Facts_flowFrom 122 = .ok (.invokevirtual 75, 3) := by decide +kernel
theorem d_Facts_flowFrom_125 : decode b_Facts_flowFrom 125 = .ok (.ireturn, 1) := by decide +kernel
theorem d_Facts_find_0 : decode b_Facts_find 0 = .ok (.iconst 0, 1) := by decide +kernel
theorem d_Facts_find_1 : decode b_Facts_find 1 = .ok (.istore_n 2, 1) := by decide +kernel
theorem d_Facts_find_2 : decode b_Facts_find 2 = .ok (.iload_n 2, 1) := by decide +kernel
theorem d_Facts_find_3 : decode b_Facts_find 3 = .ok (.aload_n 0, 1) := by decide +kernel
theorem d_Facts_find_4 : decode b_Facts_find 4 = .ok (.getfield 9, 3) := by decide +kernel
theorem d_Facts_find_7 : decode b_Facts_find 7 = .ok (.arraylength, 1) := by decide +kernel
theorem d_Facts_find_8 : decode b_Facts_find 8 = .ok (.if_icmp .ge 29, 3) := by decide +kernel
theorem d_Facts_find_11 : decode b_Facts_find 11 = .ok (.aload_n 0, 1) := by decide +kernel
theorem d_Facts_find_12 : decode b_Facts_find 12 = .ok (.getfield 9, 3) := by decide +kernel
theorem d_Facts_find_15 : decode b_Facts_find 15 = .ok (.iload_n 2, 1) := by decide +kernel
theorem d_Facts_find_16 : decode b_Facts_find 16 = .ok (.iload_n 2, 1) := by decide +kernel
theorem d_Facts_find_17 : decode b_Facts_find 17 = .ok (.iconst 5, 1) := by decide +kernel
theorem d_Facts_find_18 : decode b_Facts_find 18 = .ok (.if_icmp .ge 9, 3) := by decide +kernel
theorem d_Facts_find_21 : decode b_Facts_find 21 = .ok (.ldc2_w 24, 3) := by decide +kernel
theorem d_Facts_find_24 : decode b_Facts_find 24 = .ok (.goto 6, 3) := by decide +kernel
theorem d_Facts_find_27 : decode b_Facts_find 27 = .ok (.ldc2_w 22, 3) := by decide +kernel
theorem d_Facts_find_30 : decode b_Facts_find 30 = .ok (.lastore, 1) := by decide +kernel
theorem d_Facts_find_31 : decode b_Facts_find 31 = .ok (.iinc 2 1, 3) := by decide +kernel
theorem d_Facts_find_34 : decode b_Facts_find 34 = .ok (.goto (-32), 3) := by decide +kernel
theorem d_Facts_find_37 : decode b_Facts_find 37 = .ok (.iconst 1, 1) := by decide +kernel
theorem d_Facts_find_38 : decode b_Facts_find 38 = .ok (.istore_n 2, 1) := by decide +kernel
theorem d_Facts_find_39 : decode b_Facts_find 39 = .ok (.iconst 0, 1) := by decide +kernel
theorem d_Facts_find_40 : decode b_Facts_find 40 = .ok (.istore_n 3, 1) := by decide +kernel
theorem d_Facts_find_41 : decode b_Facts_find 41 = .ok (.iload_n 2, 1) := by decide +kernel
theorem d_Facts_find_42 : decode b_Facts_find 42 = .ok (.ifCond .eq 57, 3) := by decide +kernel
theorem d_Facts_find_45 : decode b_Facts_find 45 = .ok (.iload_n 3, 1) := by decide +kernel
theorem d_Facts_find_46 : decode b_Facts_find 46 = .ok (.sipush 201, 3) := by decide +kernel
theorem d_Facts_find_49 : decode b_Facts_find 49 = .ok (.if_icmp .ge 50, 3) := by decide +kernel
theorem d_Facts_find_52 : decode b_Facts_find 52 = .ok (.iconst 0, 1) := by decide +kernel
theorem d_Facts_find_53 : decode b_Facts_find 53 = .ok (.istore_n 2, 1) := by decide +kernel
theorem d_Facts_find_54 : decode b_Facts_find 54 = .ok (.iconst 0, 1) := by decide +kernel
theorem d_Facts_find_55 : decode b_Facts_find 55 = .ok (.istore 4, 2) := by decide +kernel
theorem d_Facts_find_57 : decode b_Facts_find 57 = .ok (.iload 4, 2) := by decide +kernel
theorem d_Facts_find_59 : decode b_Facts_find 59 = .ok (.aload_n 1, 1) := by decide +kernel
theorem d_Facts_find_60 : decode b_Facts_find 60 = .ok (.getfield 26, 3) := by decide +kernel
theorem d_Facts_find_63 : decode b_Facts_find 63 = .ok (.if_icmp .ge 30, 3) := by decide +kernel
theorem d_Facts_find_66 : decode b_Facts_find 66 = .ok (.aload_n 0, 1) := by decide +kernel
theorem d_Facts_find_67 : decode b_Facts_find 67 = .ok (.iload 4, 2) := by decide +kernel
theorem d_Facts_find_69 : decode b_Facts_find 69 = .ok (.invokevirtual 32, 3) := by decide +kernel
theorem d_Facts_find_72 : decode b_Facts_find 72 = .ok (.ifCond .eq 15, 3) := by decide +kernel
theorem d_Facts_find_75 : decode b_Facts_find 75 = .ok (.aload_n 0, 1) := by decide +kernel
theorem d_Facts_find_76 : decode b_Facts_find 76 = .ok (.aload_n 1, 1) := by decide +kernel
theorem d_Facts_find_77 : decode b_Facts_find 77 = .ok (.iload 4, 2) := by decide +kernel
theorem d_Facts_find_79 : decode b_Facts_find 79 = .ok (.invokevirtual 36, 3) := by decide +kernel
theorem d_Facts_find_82 : decode b_Facts_find 82 = .ok (.ifCond .eq 5, 3) := by decide +kernel
theorem d_Facts_find_85 : decode b_Facts_find 85 = .ok (.iconst 1, 1) := by decide +kernel
theorem d_Facts_find_86 : decode b_Facts_find 86 = .ok (.istore_n 2, 1) := by decide +kernel
theorem d_Facts_find_87 : decode b_Facts_find 87 = .ok (.iinc 4 1, 3) := by decide +kernel
theorem d_Facts_find_90 : decode b_Facts_find 90 = .ok (.goto (-33), 3) := by decide +kernel
theorem d_Facts_find_93 : decode b_Facts_find 93 = .ok (.iinc 3 1, 3) := by decide +kernel
theorem d_Facts_find_96 : decode b_Facts_find 96 = .ok (.goto (-55), 3) := by decide +kernel
theorem d_Facts_find_99 : decode b_Facts_find 99 = .ok (.return_, 1) := by decide +kernel
theorem d_BlockCode_studySource_0 : decode b_BlockCode_studySource 0 = .ok (.aload_n 0, 1) := by decide +kernel
theorem d_BlockCode_studySource_1 : decode b_BlockCode_studySource 1 = .ok (.getfield 10, 3) := by decide +kernel
theorem d_BlockCode_studySource_4 : decode b_BlockCode_studySource 4 = .ok (.invokevirtual 198, 3) := by decide +kernel
theorem d_BlockCode_studySource_7 : decode b_BlockCode_studySource 7 = .ok (.aload_n 0, 1) := by decide +kernel
theorem d_BlockCode_studySource_8 : decode b_BlockCode_studySource 8 = .ok (.getfield 10, 3) := by decide +kernel
theorem d_BlockCode_studySource_11 : decode b_BlockCode_studySource 11 = .ok (.invokevirtual 167, 3) := by decide +kernel
theorem d_BlockCode_studySource_14 : decode b_BlockCode_studySource 14 = .ok (.aload_n 0, 1) := by decide +kernel
theorem d_BlockCode_studySource_15 : decode b_BlockCode_studySource 15 = .ok (.getfield 22, 3) := by decide +kernel
theorem d_BlockCode_studySource_18 : decode b_BlockCode_studySource 18 = .ok (.aload_n 0, 1) := by decide +kernel
theorem d_BlockCode_studySource_19 : decode b_BlockCode_studySource 19 = .ok (.getfield 10, 3) := by decide +kernel
theorem d_BlockCode_studySource_22 : decode b_BlockCode_studySource 22 = .ok (.invokevirtual 201, 3) := by decide +kernel
theorem d_BlockCode_studySource_25 : decode b_BlockCode_studySource 25 = .ok (.return_, 1) := by decide +kernel
theorem d_Code_become_0 : decode b_Code_become 0 = .ok (.aload_n 0, 1) := by decide +kernel
theorem d_Code_become_1 : decode b_Code_become 1 = .ok (.aload_n 1, 1) := by decide +kernel
theorem d_Code_become_2 : decode b_Code_become 2 = .ok (.getfield 27, 3) := by decide +kernel
theorem d_Code_become_5 : decode b_Code_become 5 = .ok (.putfield 27, 3) := by decide +kernel
theorem d_Code_become_8 : decode b_Code_become 8 = .ok (.iconst 0, 1) := by decide +kernel
theorem d_Code_become_9 : decode b_Code_become 9 = .ok (.istore_n 2, 1) := by decide +kernel
theorem d_Code_become_10 : decode b_Code_become 10 = .ok (.iload_n 2, 1) := by decide +kernel
theorem d_Code_become_11 : decode b_Code_become 11 = .ok (.aload_n 0, 1) := by decide +kernel
theorem d_Code_become_12 : decode b_Code_become 12 = .ok (.getfield 27, 3) := by decide +kernel
theorem d_Code_become_15 : decode b_Code_become 15 = .ok (.if_icmp .ge 38, 3) := by decide +kernel
theorem d_Code_become_18 : decode b_Code_become 18 = .ok (.aload_n 0, 1) := by decide +kernel
theorem d_Code_become_19 : decode b_Code_become 19 = .ok (.iload_n 2, 1) := by decide +kernel
theorem d_Code_become_20 : decode b_Code_become 20 = .ok (.aload_n 1, 1) := by decide +kernel
theorem d_Code_become_21 : decode b_Code_become 21 = .ok (.getfield 9, 3) := by decide +kernel
theorem d_Code_become_24 : decode b_Code_become 24 = .ok (.iload_n 2, 1) := by decide +kernel
theorem d_Code_become_25 : decode b_Code_become 25 = .ok (.iaload, 1) := by decide +kernel
theorem d_Code_become_26 : decode b_Code_become 26 = .ok (.aload_n 1, 1) := by decide +kernel
theorem d_Code_become_27 : decode b_Code_become 27 = .ok (.getfield 15, 3) := by decide +kernel
theorem d_Code_become_30 : decode b_Code_become 30 = .ok (.iload_n 2, 1) := by decide +kernel
theorem d_Code_become_31 : decode b_Code_become 31 = .ok (.iaload, 1) := by decide +kernel
theorem d_Code_become_32 : decode b_Code_become 32 = .ok (.aload_n 1, 1) := by decide +kernel
theorem d_Code_become_33 : decode b_Code_become 33 = .ok (.getfield 18, 3) := by decide +kernel
theorem d_Code_become_36 : decode b_Code_become 36 = .ok (.iload_n 2, 1) := by decide +kernel
theorem d_Code_become_37 : decode b_Code_become 37 = .ok (.iaload, 1) := by decide +kernel
theorem d_Code_become_38 : decode b_Code_become 38 = .ok (.aload_n 1, 1) := by decide +kernel
theorem d_Code_become_39 : decode b_Code_become 39 = .ok (.getfield 21, 3) := by decide +kernel
theorem d_Code_become_42 : decode b_Code_become 42 = .ok (.iload_n 2, 1) := by decide +kernel
theorem d_Code_become_43 : decode b_Code_become 43 = .ok (.iaload, 1) := by decide +kernel
theorem d_Code_become_44 : decode b_Code_become 44 = .ok (.invokevirtual 41, 3) := by decide +kernel
theorem d_Code_become_47 : decode b_Code_become 47 = .ok (.iinc 2 1, 3) := by decide +kernel
theorem d_Code_become_50 : decode b_Code_become 50 = .ok (.goto (-40), 3) := by decide +kernel
theorem d_Code_become_53 : decode b_Code_become 53 = .ok (.return_, 1) := by decide +kernel
theorem d_BlockCode_resultBecomesSource_0 : decode b_BlockCode_resultBecomesSource 0 = .ok (.aload_n 0, 1) := by decide +kernel
theorem d_BlockCode_resultBecomesSource_1 : decode b_BlockCode_resultBecomesSource 1 = .ok (.getfield 16, 3) := by decide +kernel
theorem d_BlockCode_resultBecomesSource_4 : decode b_BlockCode_resultBecomesSource 4 = .ok (.aload_n 0, 1) := by decide +kernel
theorem d_BlockCode_resultBecomesSource_5 : decode b_BlockCode_resultBecomesSource 5 = .ok (.getfield 10, 3) := by decide +kernel
theorem d_BlockCode_resultBecomesSource_8 : decode b_BlockCode_resultBecomesSource 8 = .ok (.invokevirtual 176, 3) := by decide +kernel
theorem d_BlockCode_resultBecomesSource_11 : decode b_BlockCode_resultBecomesSource 11 = .ok (.aload_n 0, 1) := by decide +kernel
theorem d_BlockCode_resultBecomesSource_12 : decode b_BlockCode_resultBecomesSource 12 = .ok (.iconst 0, 1) := by decide +kernel
theorem d_BlockCode_resultBecomesSource_13 : decode b_BlockCode_resultBecomesSource 13 = .ok (.putfield 56, 3) := by decide +kernel
theorem d_BlockCode_resultBecomesSource_16 : decode b_BlockCode_resultBecomesSource 16 = .ok (.return_, 1) := by decide +kernel
theorem d_BlockCode_seal_0 : decode b_BlockCode_seal 0 = .ok (.aload_n 0, 1) := by decide +kernel
theorem d_BlockCode_seal_1 : decode b_BlockCode_seal 1 = .ok (.getfield 52, 3) := by decide +kernel
theorem d_BlockCode_seal_4 : decode b_BlockCode_seal 4 = .ok (.ifCond .eq 13, 3) := by decide +kernel
theorem d_BlockCode_seal_7 : decode b_BlockCode_seal 7 = .ok (.new 59, 3) := by decide +kernel
theorem d_BlockCode_seal_10 : decode b_BlockCode_seal 10 = .ok (.dup, 1) := by decide +kernel
theorem d_BlockCode_seal_11 : decode b_BlockCode_seal 11 = .ok (.ldc 78, 2) := by decide +kernel
theorem d_BlockCode_seal_13 : decode b_BlockCode_seal 13 = .ok (.invokespecial 63, 3) := by decide +kernel
theorem d_BlockCode_seal_16 : decode b_BlockCode_seal 16 = .ok (.athrow, 1) := by decide +kernel
theorem d_BlockCode_seal_17 : decode b_BlockCode_seal 17 = .ok (.aload_n 0, 1) := by decide +kernel
theorem d_BlockCode_seal_18 : decode b_BlockCode_seal 18 = .ok (.getfield 10, 3) := by decide +kernel
theorem d_BlockCode_seal_21 : decode b_BlockCode_seal 21 = .ok (.invokevirtual 80, 3) := by decide +kernel
theorem d_BlockCode_seal_24 : decode b_BlockCode_seal 24 = .ok (.ifCond .ne 5, 3) := by decide +kernel
theorem d_BlockCode_seal_27 : decode b_BlockCode_seal 27 = .ok (.iconst (-1), 1) := by decide +kernel
theorem d_BlockCode_seal_28 : decode b_BlockCode_seal 28 = .ok (.ireturn, 1) := by decide +kernel
theorem d_BlockCode_seal_29 : decode b_BlockCode_seal 29 = .ok (.aload_n 0, 1) := by decide +kernel
theorem d_BlockCode_seal_30 : decode b_BlockCode_seal 30 = .ok (.iconst 1, 1) := by decide +kernel
theorem d_BlockCode_seal_31 : decode b_BlockCode_seal 31 = .ok (.putfield 52, 3) := by decide +kernel
theorem d_BlockCode_seal_34 : decode b_BlockCode_seal 34 = .ok (.aload_n 0, 1) := by decide +kernel
theorem d_BlockCode_seal_35 : decode b_BlockCode_seal 35 = .ok (.invokevirtual 84, 3) := by decide +kernel
theorem d_BlockCode_seal_38 : decode b_BlockCode_seal 38 = .ok (.aload_n 0, 1) := by decide +kernel
theorem d_BlockCode_seal_39 : decode b_BlockCode_seal 39 = .ok (.invokevirtual 87, 3) := by decide +kernel
theorem d_BlockCode_seal_42 : decode b_BlockCode_seal 42 = .ok (.aload_n 0, 1) := by decide +kernel
theorem d_BlockCode_seal_43 : decode b_BlockCode_seal 43 = .ok (.getfield 10, 3) := by decide +kernel
theorem d_BlockCode_seal_46 : decode b_BlockCode_seal 46 = .ok (.getfield 90, 3) := by decide +kernel
theorem d_BlockCode_seal_49 : decode b_BlockCode_seal 49 = .ok (.invokestatic 93, 3) := by decide +kernel
theorem d_BlockCode_seal_52 : decode b_BlockCode_seal 52 = .ok (.ireturn, 1) := by decide +kernel
theorem d_BlockCode_size_0 : decode b_BlockCode_size 0 = .ok (.aload_n 0, 1) := by decide +kernel
theorem d_BlockCode_size_1 : decode b_BlockCode_size 1 = .ok (.getfield 10, 3) := by decide +kernel
theorem d_BlockCode_size_4 : decode b_BlockCode_size 4 = .ok (.getfield 70, 3) := by decide +kernel
theorem d_BlockCode_size_7 : decode b_BlockCode_size 7 = .ok (.ireturn, 1) := by decide +kernel
theorem d_Code_number_0 : decode b_Code_number 0 = .ok (.aload_n 0, 1) := by decide +kernel
theorem d_Code_number_1 : decode b_Code_number 1 = .ok (.iload_n 1, 1) := by decide +kernel
theorem d_Code_number_2 : decode b_Code_number 2 = .ok (.invokevirtual 38, 3) := by decide +kernel
theorem d_Code_number_5 : decode b_Code_number 5 = .ok (.ifCond .ne 6, 3) := by decide +kernel
theorem d_Code_number_8 : decode b_Code_number 8 = .ok (.bipush (-9), 2) := by decide +kernel
theorem d_Code_number_10 : decode b_Code_number 10 = .ok (.ireturn, 1) := by decide +kernel
theorem d_Code_number_11 : decode b_Code_number 11 = .ok (.iload_n 2, 1) := by decide +kernel
theorem d_Code_number_12 : decode b_Code_number 12 = .ok (.tableswitch 60 0 3 #[32, 39, 46, 53], 32) := by decide +kernel
theorem d_Code_number_44 : decode b_Code_number 44 = .ok (.aload_n 0, 1) := by decide +kernel
theorem d_Code_number_45 : decode b_Code_number 45 = .ok (.getfield 9, 3) := by decide +kernel
theorem d_Code_number_48 : decode b_Code_number 48 = .ok (.iload_n 1, 1) := by decide +kernel
theorem d_Code_number_49 : decode b_Code_number 49 = .ok (.iaload, 1) := by decide +kernel
theorem d_Code_number_50 : decode b_Code_number 50 = .ok (.ireturn, 1) := by decide +kernel
theorem d_Code_number_51 : decode b_Code_number 51 = .ok (.aload_n 0, 1) := by decide +kernel
theorem d_Code_number_52 : decode b_Code_number 52 = .ok (.getfield 15, 3) := by decide +kernel
theorem d_Code_number_55 : decode b_Code_number 55 = .ok (.iload_n 1, 1) := by decide +kernel
theorem d_Code_number_56 : decode b_Code_number 56 = .ok (.iaload, 1) := by decide +kernel
theorem d_Code_number_57 : decode b_Code_number 57 = .ok (.ireturn, 1) := by decide +kernel
theorem d_Code_number_58 : decode b_Code_number 58 = .ok (.aload_n 0, 1) := by decide +kernel
theorem d_Code_number_59 : decode b_Code_number 59 = .ok (.getfield 18, 3) := by decide +kernel
theorem d_Code_number_62 : decode b_Code_number 62 = .ok (.iload_n 1, 1) := by decide +kernel
theorem d_Code_number_63 : decode b_Code_number 63 = .ok (.iaload, 1) := by decide +kernel
theorem d_Code_number_64 : decode b_Code_number 64 = .ok (.ireturn, 1) := by decide +kernel
theorem d_Code_number_65 : decode b_Code_number 65 = .ok (.aload_n 0, 1) := by decide +kernel
theorem d_Code_number_66 : decode b_Code_number 66 = .ok (.getfield 21, 3) := by decide +kernel
theorem d_Code_number_69 : decode b_Code_number 69 = .ok (.iload_n 1, 1) := by decide +kernel
theorem d_Code_number_70 : decode b_Code_number 70 = .ok (.iaload, 1) := by decide +kernel
theorem d_Code_number_71 : decode b_Code_number 71 = .ok (.ireturn, 1) := by decide +kernel
theorem d_Code_number_72 : decode b_Code_number 72 = .ok (.iconst 0, 1) := by decide +kernel
theorem d_Code_number_73 : decode b_Code_number 73 = .ok (.ireturn, 1) := by decide +kernel
theorem d_BlockCode_source_0 : decode b_BlockCode_source 0 = .ok (.aload_n 0, 1) := by decide +kernel
theorem d_BlockCode_source_1 : decode b_BlockCode_source 1 = .ok (.getfield 10, 3) := by decide +kernel
theorem d_BlockCode_source_4 : decode b_BlockCode_source 4 = .ok (.iload_n 1, 1) := by decide +kernel
theorem d_BlockCode_source_5 : decode b_BlockCode_source 5 = .ok (.iload_n 2, 1) := by decide +kernel
theorem d_BlockCode_source_6 : decode b_BlockCode_source 6 = .ok (.invokevirtual 99, 3) := by decide +kernel
theorem d_BlockCode_source_9 : decode b_BlockCode_source 9 = .ok (.ireturn, 1) := by decide +kernel
theorem d_BlockCode_result_0 : decode b_BlockCode_result 0 = .ok (.aload_n 0, 1) := by decide +kernel
theorem d_BlockCode_result_1 : decode b_BlockCode_result 1 = .ok (.getfield 16, 3) := by decide +kernel
theorem d_BlockCode_result_4 : decode b_BlockCode_result 4 = .ok (.iload_n 1, 1) := by decide +kernel
theorem d_BlockCode_result_5 : decode b_BlockCode_result 5 = .ok (.iload_n 2, 1) := by decide +kernel
theorem d_BlockCode_result_6 : decode b_BlockCode_result 6 = .ok (.invokevirtual 99, 3) := by decide +kernel
theorem d_BlockCode_result_9 : decode b_BlockCode_result 9 = .ok (.ireturn, 1) := by decide +kernel
theorem d_BlockCode_known_0 : decode b_BlockCode_known 0 = .ok (.aload_n 0, 1) := by decide +kernel
theorem d_BlockCode_known_1 : decode b_BlockCode_known 1 = .ok (.getfield 52, 3) := by decide +kernel
theorem d_BlockCode_known_4 : decode b_BlockCode_known 4 = .ok (.ifCond .eq 21, 3) := by decide +kernel
theorem d_BlockCode_known_7 : decode b_BlockCode_known 7 = .ok (.aload_n 0, 1) := by decide +kernel
theorem d_BlockCode_known_8 : decode b_BlockCode_known 8 = .ok (.getfield 10, 3) := by decide +kernel
theorem d_BlockCode_known_11 : decode b_BlockCode_known 11 = .ok (.iload_n 1, 1) := by decide +kernel
theorem d_BlockCode_known_12 : decode b_BlockCode_known 12 = .ok (.invokevirtual 103, 3) := by decide +kernel
theorem d_BlockCode_known_15 : decode b_BlockCode_known 15 = .ok (.ifCond .eq 10, 3) := by decide +kernel
theorem d_BlockCode_known_18 : decode b_BlockCode_known 18 = .ok (.iload_n 2, 1) := by decide +kernel
theorem d_BlockCode_known_19 : decode b_BlockCode_known 19 = .ok (.invokestatic 107, 3) := by decide +kernel
theorem d_BlockCode_known_22 : decode b_BlockCode_known 22 = .ok (.ifCond .ne 7, 3) := by decide +kernel
theorem d_BlockCode_known_25 : decode b_BlockCode_known 25 = .ok (.ldc2_w 110, 3) := by decide +kernel
theorem d_BlockCode_known_28 : decode b_BlockCode_known 28 = .ok (.lreturn, 1) := by decide +kernel
theorem d_BlockCode_known_29 : decode b_BlockCode_known 29 = .ok (.aload_n 0, 1) := by decide +kernel
theorem d_BlockCode_known_30 : decode b_BlockCode_known 30 = .ok (.getfield 22, 3) := by decide +kernel
theorem d_BlockCode_known_33 : decode b_BlockCode_known 33 = .ok (.iload_n 1, 1) := by decide +kernel
theorem d_BlockCode_known_34 : decode b_BlockCode_known 34 = .ok (.iload_n 2, 1) := by decide +kernel
theorem d_BlockCode_known_35 : decode b_BlockCode_known 35 = .ok (.invokevirtual 112, 3) := by decide +kernel
theorem d_BlockCode_known_38 : decode b_BlockCode_known 38 = .ok (.lreturn, 1) := by decide +kernel
theorem d_BlockCode_needed_0 : decode b_BlockCode_needed 0 = .ok (.aload_n 0, 1) := by decide +kernel
theorem d_BlockCode_needed_1 : decode b_BlockCode_needed 1 = .ok (.getfield 52, 3) := by decide +kernel
theorem d_BlockCode_needed_4 : decode b_BlockCode_needed 4 = .ok (.ifCond .eq 14, 3) := by decide +kernel
theorem d_BlockCode_needed_7 : decode b_BlockCode_needed 7 = .ok (.aload_n 0, 1) := by decide +kernel
theorem d_BlockCode_needed_8 : decode b_BlockCode_needed 8 = .ok (.getfield 10, 3) := by decide +kernel
theorem d_BlockCode_needed_11 : decode b_BlockCode_needed 11 = .ok (.iload_n 1, 1) := by decide +kernel
theorem d_BlockCode_needed_12 : decode b_BlockCode_needed 12 = .ok (.invokevirtual 103, 3) := by decide +kernel
theorem d_BlockCode_needed_15 : decode b_BlockCode_needed 15 = .ok (.ifCond .ne 6, 3) := by decide +kernel
theorem d_BlockCode_needed_18 : decode b_BlockCode_needed 18 = .ok (.bipush (-9), 2) := by decide +kernel
theorem d_BlockCode_needed_20 : decode b_BlockCode_needed 20 = .ok (.ireturn, 1) := by decide +kernel
theorem d_BlockCode_needed_21 : decode b_BlockCode_needed 21 = .ok (.aload_n 0, 1) := by decide +kernel
theorem d_BlockCode_needed_22 : decode b_BlockCode_needed 22 = .ok (.getfield 10, 3) := by decide +kernel
theorem d_BlockCode_needed_25 : decode b_BlockCode_needed 25 = .ok (.iload_n 1, 1) := by decide +kernel
theorem d_BlockCode_needed_26 : decode b_BlockCode_needed 26 = .ok (.invokevirtual 116, 3) := by decide +kernel
theorem d_BlockCode_needed_29 : decode b_BlockCode_needed 29 = .ok (.ireturn, 1) := by decide +kernel
theorem d_BlockCode_requireSealed_0 : decode b_BlockCode_requireSealed 0 = .ok (.aload_n 0, 1) := by decide +kernel
theorem d_BlockCode_requireSealed_1 : decode b_BlockCode_requireSealed 1 = .ok (.getfield 52, 3) := by decide +kernel
theorem d_BlockCode_requireSealed_4 : decode b_BlockCode_requireSealed 4 = .ok (.ifCond .ne 13, 3) := by decide +kernel
theorem d_BlockCode_requireSealed_7 : decode b_BlockCode_requireSealed 7 = .ok (.new 59, 3) := by decide +kernel
theorem d_BlockCode_requireSealed_10 : decode b_BlockCode_requireSealed 10 = .ok (.dup, 1) := by decide +kernel
theorem d_BlockCode_requireSealed_11 : decode b_BlockCode_requireSealed 11 = .ok (.ldc 196, 2) := by decide +kernel
theorem d_BlockCode_requireSealed_13 : decode b_BlockCode_requireSealed 13 = .ok (.invokespecial 63, 3) := by decide +kernel
theorem d_BlockCode_requireSealed_16 : decode b_BlockCode_requireSealed 16 = .ok (.athrow, 1) := by decide +kernel
theorem d_BlockCode_requireSealed_17 : decode b_BlockCode_requireSealed 17 = .ok (.return_, 1) := by decide +kernel
theorem d_BlockCode_putSettledBranch_0 : decode b_BlockCode_putSettledBranch 0 = .ok (.lload_n 2, 1) := by decide +kernel
theorem d_BlockCode_putSettledBranch_1 : decode b_BlockCode_putSettledBranch 1 = .ok (.invokestatic 215, 3) := by decide +kernel
theorem d_BlockCode_putSettledBranch_4 : decode b_BlockCode_putSettledBranch 4 = .ok (.ifCond .ne 4, 3) := by decide +kernel
theorem d_BlockCode_putSettledBranch_7 : decode b_BlockCode_putSettledBranch 7 = .ok (.return_, 1) := by decide +kernel
theorem d_BlockCode_putSettledBranch_8 : decode b_BlockCode_putSettledBranch 8 = .ok (.lload_n 2, 1) := by decide +kernel
theorem d_BlockCode_putSettledBranch_9 : decode b_BlockCode_putSettledBranch 9 = .ok (.lconst 0, 1) := by decide +kernel
theorem d_BlockCode_putSettledBranch_10 : decode b_BlockCode_putSettledBranch 10 = .ok (.lcmp, 1) := by decide +kernel
theorem d_BlockCode_putSettledBranch_11 : decode b_BlockCode_putSettledBranch 11 = .ok (.ifCond .eq 27, 3) := by decide +kernel
theorem d_BlockCode_putSettledBranch_14 : decode b_BlockCode_putSettledBranch 14 = .ok (.aload_n 0, 1) := by decide +kernel
theorem d_BlockCode_putSettledBranch_15 : decode b_BlockCode_putSettledBranch 15 = .ok (.getfield 16, 3) := by decide +kernel
theorem d_BlockCode_putSettledBranch_18 : decode b_BlockCode_putSettledBranch 18 = .ok (.iload_n 1, 1) := by decide +kernel
theorem d_BlockCode_putSettledBranch_19 : decode b_BlockCode_putSettledBranch 19 = .ok (.bipush 8, 2) := by decide +kernel
theorem d_BlockCode_putSettledBranch_21 : decode b_BlockCode_putSettledBranch 21 = .ok (.iconst 0, 1) := by decide +kernel
theorem d_BlockCode_putSettledBranch_22 : decode b_BlockCode_putSettledBranch 22 = .ok (.aload_n 0, 1) := by decide +kernel
theorem d_BlockCode_putSettledBranch_23 : decode b_BlockCode_putSettledBranch 23 = .ok (.getfield 10, 3) := by decide +kernel
theorem d_BlockCode_putSettledBranch_26 : decode b_BlockCode_putSettledBranch 26 = .ok (.getfield 219, 3) := by decide +kernel
theorem d_BlockCode_putSettledBranch_29 : decode b_BlockCode_putSettledBranch 29 = .ok (.iload_n 1, 1) := by decide +kernel
theorem d_BlockCode_putSettledBranch_30 : decode b_BlockCode_putSettledBranch 30 = .ok (.iaload, 1) := by decide +kernel
theorem d_BlockCode_putSettledBranch_31 : decode b_BlockCode_putSettledBranch 31 = .ok (.iconst 0, 1) := by decide +kernel
theorem d_BlockCode_putSettledBranch_32 : decode b_BlockCode_putSettledBranch 32 = .ok (.invokevirtual 74, 3) := by decide +kernel
theorem d_BlockCode_putSettledBranch_35 : decode b_BlockCode_putSettledBranch 35 = .ok (.goto 15, 3) := by decide +kernel
theorem d_BlockCode_putSettledBranch_38 : decode b_BlockCode_putSettledBranch 38 = .ok (.aload_n 0, 1) := by decide +kernel
theorem d_BlockCode_putSettledBranch_39 : decode b_BlockCode_putSettledBranch 39 = .ok (.getfield 16, 3) := by decide +kernel
theorem d_BlockCode_putSettledBranch_42 : decode b_BlockCode_putSettledBranch 42 = .ok (.iload_n 1, 1) := by decide +kernel
theorem d_BlockCode_putSettledBranch_43 : decode b_BlockCode_putSettledBranch 43 = .ok (.iconst 0, 1) := by decide +kernel
theorem d_BlockCode_putSettledBranch_44 : decode b_BlockCode_putSettledBranch 44 = .ok (.iconst 0, 1) := by decide +kernel
theorem d_BlockCode_putSettledBranch_45 : decode b_BlockCode_putSettledBranch 45 = .ok (.iconst 0, 1) := by decide +kernel
theorem d_BlockCode_putSettledBranch_46 : decode b_BlockCode_putSettledBranch 46 = .ok (.iconst 0, 1) := by decide +kernel
theorem d_BlockCode_putSettledBranch_47 : decode b_BlockCode_putSettledBranch 47 = .ok (.invokevirtual 74, 3) := by decide +kernel
theorem d_BlockCode_putSettledBranch_50 : decode b_BlockCode_putSettledBranch 50 = .ok (.return_, 1) := by decide +kernel
theorem d_BlockCode_putConstant_0 : decode b_BlockCode_putConstant 0 = .ok (.aload_n 0, 1) := by decide +kernel
theorem d_BlockCode_putConstant_1 : decode b_BlockCode_putConstant 1 = .ok (.getfield 10, 3) := by decide +kernel
theorem d_BlockCode_putConstant_4 : decode b_BlockCode_putConstant 4 = .ok (.getfield 149, 3) := by decide +kernel
theorem d_BlockCode_putConstant_7 : decode b_BlockCode_putConstant 7 = .ok (.iload_n 1, 1) := by decide +kernel
theorem d_BlockCode_putConstant_8 : decode b_BlockCode_putConstant 8 = .ok (.iaload, 1) := by decide +kernel
theorem d_BlockCode_putConstant_9 : decode b_BlockCode_putConstant 9 = .ok (.istore_n 2, 1) := by decide +kernel
theorem d_BlockCode_putConstant_10 : decode b_BlockCode_putConstant 10 = .ok (.iload_n 2, 1) := by decide +kernel
theorem d_BlockCode_putConstant_11 : decode b_BlockCode_putConstant 11 = .ok (.bipush 9, 2) := by decide +kernel
theorem d_BlockCode_putConstant_13 : decode b_BlockCode_putConstant 13 = .ok (.if_icmp .ne 28, 3) := by decide +kernel
theorem d_BlockCode_putConstant_16 : decode b_BlockCode_putConstant 16 = .ok (.aload_n 0, 1) := by decide +kernel
theorem d_BlockCode_putConstant_17 : decode b_BlockCode_putConstant 17 = .ok (.iload_n 1, 1) := by decide +kernel
theorem d_BlockCode_putConstant_18 : decode b_BlockCode_putConstant 18 = .ok (.aload_n 0, 1) := by decide +kernel
theorem d_BlockCode_putConstant_19 : decode b_BlockCode_putConstant 19 = .ok (.getfield 22, 3) := by decide +kernel
theorem d_BlockCode_putConstant_22 : decode b_BlockCode_putConstant 22 = .ok (.iload_n 1, 1) := by decide +kernel
theorem d_BlockCode_putConstant_23 : decode b_BlockCode_putConstant 23 = .ok (.aload_n 0, 1) := by decide +kernel
theorem d_BlockCode_putConstant_24 : decode b_BlockCode_putConstant 24 = .ok (.getfield 10, 3) := by decide +kernel
theorem d_BlockCode_putConstant_27 : decode b_BlockCode_putConstant 27 = .ok (.getfield 204, 3) := by decide +kernel
theorem d_BlockCode_putConstant_30 : decode b_BlockCode_putConstant 30 = .ok (.iload_n 1, 1) := by decide +kernel
theorem d_BlockCode_putConstant_31 : decode b_BlockCode_putConstant 31 = .ok (.iaload, 1) := by decide +kernel
theorem d_BlockCode_putConstant_32 : decode b_BlockCode_putConstant 32 = .ok (.invokevirtual 112, 3) := by decide +kernel
theorem d_BlockCode_putConstant_35 : decode b_BlockCode_putConstant 35 = .ok (.invokevirtual 207, 3) := by decide +kernel
theorem d_BlockCode_putConstant_38 : decode b_BlockCode_putConstant 38 = .ok (.goto 56, 3) := by decide +kernel
theorem d_BlockCode_putConstant_41 : decode b_BlockCode_putConstant 41 = .ok (.iload_n 2, 1) := by decide +kernel
theorem d_BlockCode_putConstant_42 : decode b_BlockCode_putConstant 42 = .ok (.iconst 1, 1) := by decide +kernel
theorem d_BlockCode_putConstant_43 : decode b_BlockCode_putConstant 43 = .ok (.if_icmp .eq 51, 3) := by decide +kernel
theorem d_BlockCode_putConstant_46 : decode b_BlockCode_putConstant 46 = .ok (.iload_n 2, 1) := by decide +kernel
theorem d_BlockCode_putConstant_47 : decode b_BlockCode_putConstant 47 = .ok (.invokestatic 153, 3) := by decide +kernel
theorem d_BlockCode_putConstant_50 : decode b_BlockCode_putConstant 50 = .ok (.ifCond .eq 44, 3) := by decide +kernel
theorem d_BlockCode_putConstant_53 : decode b_BlockCode_putConstant 53 = .ok (.aload_n 0, 1) := by decide +kernel
theorem d_BlockCode_putConstant_54 : decode b_BlockCode_putConstant 54 = .ok (.getfield 22, 3) := by decide +kernel
theorem d_BlockCode_putConstant_57 : decode b_BlockCode_putConstant 57 = .ok (.aload_n 0, 1) := by decide +kernel
theorem d_BlockCode_putConstant_58 : decode b_BlockCode_putConstant 58 = .ok (.getfield 10, 3) := by decide +kernel
theorem d_BlockCode_putConstant_61 : decode b_BlockCode_putConstant 61 = .ok (.iload_n 1, 1) := by decide +kernel
theorem d_BlockCode_putConstant_62 : decode b_BlockCode_putConstant 62 = .ok (.invokevirtual 211, 3) := by decide +kernel
theorem d_BlockCode_putConstant_65 : decode b_BlockCode_putConstant 65 = .ok (.lstore_n 3, 1) := by decide +kernel
theorem d_BlockCode_putConstant_66 : decode b_BlockCode_putConstant 66 = .ok (.lload_n 3, 1) := by decide +kernel
theorem d_BlockCode_putConstant_67 : decode b_BlockCode_putConstant 67 = .ok (.invokestatic 215, 3) := by decide +kernel
theorem d_BlockCode_putConstant_70 : decode b_BlockCode_putConstant 70 = .ok (.ifCond .eq 24, 3) := by decide +kernel
theorem d_BlockCode_putConstant_73 : decode b_BlockCode_putConstant 73 = .ok (.aload_n 0, 1) := by decide +kernel
theorem d_BlockCode_putConstant_74 : decode b_BlockCode_putConstant 74 = .ok (.getfield 16, 3) := by decide +kernel
theorem d_BlockCode_putConstant_77 : decode b_BlockCode_putConstant 77 = .ok (.iload_n 1, 1) := by decide +kernel
theorem d_BlockCode_putConstant_78 : decode b_BlockCode_putConstant 78 = .ok (.iconst 1, 1) := by decide +kernel
theorem d_BlockCode_putConstant_79 : decode b_BlockCode_putConstant 79 = .ok (.aload_n 0, 1) := by decide +kernel
theorem d_BlockCode_putConstant_80 : decode b_BlockCode_putConstant 80 = .ok (.getfield 10, 3) := by decide +kernel
theorem d_BlockCode_putConstant_83 : decode b_BlockCode_putConstant 83 = .ok (.getfield 156, 3) := by decide +kernel
theorem d_BlockCode_putConstant_86 : decode b_BlockCode_putConstant 86 = .ok (.iload_n 1, 1) := by decide +kernel
theorem d_BlockCode_putConstant_87 : decode b_BlockCode_putConstant 87 = .ok (.iaload, 1) := by decide +kernel
theorem d_BlockCode_putConstant_88 : decode b_BlockCode_putConstant 88 = .ok (.lload_n 3, 1) := by decide +kernel
theorem d_BlockCode_putConstant_89 : decode b_BlockCode_putConstant 89 = .ok (.l2i, 1) := by decide +kernel
theorem d_BlockCode_putConstant_90 : decode b_BlockCode_putConstant 90 = .ok (.iconst 0, 1) := by decide +kernel
theorem d_BlockCode_putConstant_91 : decode b_BlockCode_putConstant 91 = .ok (.invokevirtual 74, 3) := by decide +kernel
theorem d_BlockCode_putConstant_94 : decode b_BlockCode_putConstant 94 = .ok (.return_, 1) := by decide +kernel
theorem d_Code_differencesFrom_0 : decode b_Code_differencesFrom 0 = .ok (.iconst 0, 1) := by decide +kernel
theorem d_Code_differencesFrom_1 : decode b_Code_differencesFrom 1 = .ok (.istore_n 2, 1) := by decide +kernel
theorem d_Code_differencesFrom_2 : decode b_Code_differencesFrom 2 = .ok (.iconst 0, 1) := by decide +kernel
theorem d_Code_differencesFrom_3 : decode b_Code_differencesFrom 3 = .ok (.istore_n 3, 1) := by decide +kernel
theorem d_Code_differencesFrom_4 : decode b_Code_differencesFrom 4 = .ok (.iload_n 3, 1) := by decide +kernel
theorem d_Code_differencesFrom_5 : decode b_Code_differencesFrom 5 = .ok (.aload_n 0, 1) := by decide +kernel
theorem d_Code_differencesFrom_6 : decode b_Code_differencesFrom 6 = .ok (.getfield 27, 3) := by decide +kernel
theorem d_Code_differencesFrom_9 : decode b_Code_differencesFrom 9 = .ok (.if_icmp .ge 72, 3) := by decide +kernel
theorem d_Code_differencesFrom_12 : decode b_Code_differencesFrom 12 = .ok (.aload_n 0, 1) := by decide +kernel
theorem d_Code_differencesFrom_13 : decode b_Code_differencesFrom 13 = .ok (.getfield 9, 3) := by decide +kernel
theorem d_Code_differencesFrom_16 : decode b_Code_differencesFrom 16 = .ok (.iload_n 3, 1) := by decide +kernel
theorem d_Code_differencesFrom_17 : decode b_Code_differencesFrom 17 = .ok (.iaload, 1) := by decide +kernel
theorem d_Code_differencesFrom_18 : decode b_Code_differencesFrom 18 = .ok (.aload_n 1, 1) := by decide +kernel
theorem d_Code_differencesFrom_19 : decode b_Code_differencesFrom 19 = .ok (.getfield 9, 3) := by decide +kernel
theorem d_Code_differencesFrom_22 : decode b_Code_differencesFrom 22 = .ok (.iload_n 3, 1) := by decide +kernel
theorem d_Code_differencesFrom_23 : decode b_Code_differencesFrom 23 = .ok (.iaload, 1) := by decide +kernel
theorem d_Code_differencesFrom_24 : decode b_Code_differencesFrom 24 = .ok (.if_icmp .ne 48, 3) := by decide +kernel
theorem d_Code_differencesFrom_27 : decode b_Code_differencesFrom 27 = .ok (.aload_n 0, 1) := by decide +kernel
theorem d_Code_differencesFrom_28 : decode b_Code_differencesFrom 28 = .ok (.getfield 15, 3) := by decide +kernel
theorem d_Code_differencesFrom_31 : decode b_Code_differencesFrom 31 = .ok (.iload_n 3, 1) := by decide +kernel
theorem d_Code_differencesFrom_32 : decode b_Code_differencesFrom 32 = .ok (.iaload, 1) := by decide +kernel
theorem d_Code_differencesFrom_33 : decode b_Code_differencesFrom 33 = .ok (.aload_n 1, 1) := by decide +kernel
theorem d_Code_differencesFrom_34 : decode b_Code_differencesFrom 34 = .ok (.getfield 15, 3) := by decide +kernel
theorem d_Code_differencesFrom_37 : decode b_Code_differencesFrom 37 = .ok (.iload_n 3, 1) := by decide +kernel
theorem d_Code_differencesFrom_38 : decode b_Code_differencesFrom 38 = .ok (.iaload, 1) := by decide +kernel
theorem d_Code_differencesFrom_39 : decode b_Code_differencesFrom 39 = .ok (.if_icmp .ne 33, 3) := by decide +kernel
theorem d_Code_differencesFrom_42 : decode b_Code_differencesFrom 42 = .ok (.aload_n 0, 1) := by decide +kernel
theorem d_Code_differencesFrom_43 : decode b_Code_differencesFrom 43 = .ok (.getfield 18, 3) := by decide +kernel
theorem d_Code_differencesFrom_46 : decode b_Code_differencesFrom 46 = .ok (.iload_n 3, 1) := by decide +kernel
theorem d_Code_differencesFrom_47 : decode b_Code_differencesFrom 47 = .ok (.iaload, 1) := by decide +kernel
theorem d_Code_differencesFrom_48 : decode b_Code_differencesFrom 48 = .ok (.aload_n 1, 1) := by decide +kernel
theorem d_Code_differencesFrom_49 : decode b_Code_differencesFrom 49 = .ok (.getfield 18, 3) := by decide +kernel
theorem d_Code_differencesFrom_52 : decode b_Code_differencesFrom 52 = .ok (.iload_n 3, 1) := by decide +kernel
theorem d_Code_differencesFrom_53 : decode b_Code_differencesFrom 53 = .ok (.iaload, 1) := by decide +kernel
theorem d_Code_differencesFrom_54 : decode b_Code_differencesFrom 54 = .ok (.if_icmp .ne 18, 3) := by decide +kernel
theorem d_Code_differencesFrom_57 : decode b_Code_differencesFrom 57 = .ok (.aload_n 0, 1) := by decide +kernel
theorem d_Code_differencesFrom_58 : decode b_Code_differencesFrom 58 = .ok (.getfield 21, 3) := by decide +kernel
theorem d_Code_differencesFrom_61 : decode b_Code_differencesFrom 61 = .ok (.iload_n 3, 1) := by decide +kernel
theorem d_Code_differencesFrom_62 : decode b_Code_differencesFrom 62 = .ok (.iaload, 1) := by decide +kernel
theorem d_Code_differencesFrom_63 : decode b_Code_differencesFrom 63 = .ok (.aload_n 1, 1) := by decide +kernel
theorem d_Code_differencesFrom_64 : decode b_Code_differencesFrom 64 = .ok (.getfield 21, 3) := by decide +kernel
theorem d_Code_differencesFrom_67 : decode b_Code_differencesFrom 67 = .ok (.iload_n 3, 1) := by decide +kernel
theorem d_Code_differencesFrom_68 : decode b_Code_differencesFrom 68 = .ok (.iaload, 1) := by decide +kernel
theorem d_Code_differencesFrom_69 : decode b_Code_differencesFrom 69 = .ok (.if_icmp .eq 6, 3) := by decide +kernel
theorem d_Code_differencesFrom_72 : decode b_Code_differencesFrom 72 = .ok (.iinc 2 1, 3) := by decide +kernel
theorem d_Code_differencesFrom_75 : decode b_Code_differencesFrom 75 = .ok (.iinc 3 1, 3) := by decide +kernel
theorem d_Code_differencesFrom_78 : decode b_Code_differencesFrom 78 = .ok (.goto (-74), 3) := by decide +kernel
theorem d_Code_differencesFrom_81 : decode b_Code_differencesFrom 81 = .ok (.iload_n 2, 1) := by decide +kernel
theorem d_Code_differencesFrom_82 : decode b_Code_differencesFrom 82 = .ok (.ireturn, 1) := by decide +kernel
theorem d_BlockCode_constants_0 : decode b_BlockCode_constants 0 = .ok (.aload_n 0, 1) := by decide +kernel
theorem d_BlockCode_constants_1 : decode b_BlockCode_constants 1 = .ok (.invokevirtual 119, 3) := by decide +kernel
theorem d_BlockCode_constants_4 : decode b_BlockCode_constants 4 = .ok (.aload_n 0, 1) := by decide +kernel
theorem d_BlockCode_constants_5 : decode b_BlockCode_constants 5 = .ok (.invokevirtual 87, 3) := by decide +kernel
theorem d_BlockCode_constants_8 : decode b_BlockCode_constants 8 = .ok (.iconst 0, 1) := by decide +kernel
theorem d_BlockCode_constants_9 : decode b_BlockCode_constants 9 = .ok (.istore_n 1, 1) := by decide +kernel
theorem d_BlockCode_constants_10 : decode b_BlockCode_constants 10 = .ok (.iload_n 1, 1) := by decide +kernel
theorem d_BlockCode_constants_11 : decode b_BlockCode_constants 11 = .ok (.aload_n 0, 1) := by decide +kernel
theorem d_BlockCode_constants_12 : decode b_BlockCode_constants 12 = .ok (.getfield 10, 3) := by decide +kernel
theorem d_BlockCode_constants_15 : decode b_BlockCode_constants 15 = .ok (.getfield 70, 3) := by decide +kernel
theorem d_BlockCode_constants_18 : decode b_BlockCode_constants 18 = .ok (.if_icmp .ge 25, 3) := by decide +kernel
theorem d_BlockCode_constants_21 : decode b_BlockCode_constants 21 = .ok (.aload_n 0, 1) := by decide +kernel
theorem d_BlockCode_constants_22 : decode b_BlockCode_constants 22 = .ok (.getfield 22, 3) := by decide +kernel
theorem d_BlockCode_constants_25 : decode b_BlockCode_constants 25 = .ok (.iload_n 1, 1) := by decide +kernel
theorem d_BlockCode_constants_26 : decode b_BlockCode_constants 26 = .ok (.invokevirtual 122, 3) := by decide +kernel
theorem d_BlockCode_constants_29 : decode b_BlockCode_constants 29 = .ok (.ifCond .eq 8, 3) := by decide +kernel
theorem d_BlockCode_constants_32 : decode b_BlockCode_constants 32 = .ok (.aload_n 0, 1) := by decide +kernel
theorem d_BlockCode_constants_33 : decode b_BlockCode_constants 33 = .ok (.iload_n 1, 1) := by decide +kernel
theorem d_BlockCode_constants_34 : decode b_BlockCode_constants 34 = .ok (.invokevirtual 125, 3) := by decide +kernel
theorem d_BlockCode_constants_37 : decode b_BlockCode_constants 37 = .ok (.iinc 1 1, 3) := by decide +kernel
theorem d_BlockCode_constants_40 : decode b_BlockCode_constants 40 = .ok (.goto (-30), 3) := by decide +kernel
theorem d_BlockCode_constants_43 : decode b_BlockCode_constants 43 = .ok (.aload_n 0, 1) := by decide +kernel
theorem d_BlockCode_constants_44 : decode b_BlockCode_constants 44 = .ok (.getfield 16, 3) := by decide +kernel
theorem d_BlockCode_constants_47 : decode b_BlockCode_constants 47 = .ok (.aload_n 0, 1) := by decide +kernel
theorem d_BlockCode_constants_48 : decode b_BlockCode_constants 48 = .ok (.getfield 10, 3) := by decide +kernel
theorem d_BlockCode_constants_51 : decode b_BlockCode_constants 51 = .ok (.invokevirtual 129, 3) := by decide +kernel
theorem d_BlockCode_constants_54 : decode b_BlockCode_constants 54 = .ok (.ireturn, 1) := by decide +kernel
theorem d_BlockCode_isIn_0 : decode b_BlockCode_isIn 0 = .ok (.iload_n 1, 1) := by decide +kernel
theorem d_BlockCode_isIn_1 : decode b_BlockCode_isIn 1 = .ok (.iload_n 0, 1) := by decide +kernel
theorem d_BlockCode_isIn_2 : decode b_BlockCode_isIn 2 = .ok (.ishr, 1) := by decide +kernel
theorem d_BlockCode_isIn_3 : decode b_BlockCode_isIn 3 = .ok (.iconst 1, 1) := by decide +kernel
theorem d_BlockCode_isIn_4 : decode b_BlockCode_isIn 4 = .ok (.iand, 1) := by decide +kernel
theorem d_BlockCode_isIn_5 : decode b_BlockCode_isIn 5 = .ok (.ifCond .eq 7, 3) := by decide +kernel
theorem d_BlockCode_isIn_8 : decode b_BlockCode_isIn 8 = .ok (.iconst 1, 1) := by decide +kernel
theorem d_BlockCode_isIn_9 : decode b_BlockCode_isIn 9 = .ok (.goto 4, 3) := by decide +kernel
theorem d_BlockCode_isIn_12 : decode b_BlockCode_isIn 12 = .ok (.iconst 0, 1) := by decide +kernel
theorem d_BlockCode_isIn_13 : decode b_BlockCode_isIn 13 = .ok (.ireturn, 1) := by decide +kernel
theorem d_Code_isLeader_0 : decode b_Code_isLeader 0 = .ok (.iload_n 1, 1) := by decide +kernel
theorem d_Code_isLeader_1 : decode b_Code_isLeader 1 = .ok (.aload_n 0, 1) := by decide +kernel
theorem d_Code_isLeader_2 : decode b_Code_isLeader 2 = .ok (.getfield 53, 3) := by decide +kernel
theorem d_Code_isLeader_5 : decode b_Code_isLeader 5 = .ok (.invokestatic 56, 3) := by decide +kernel
theorem d_Code_isLeader_8 : decode b_Code_isLeader 8 = .ok (.ireturn, 1) := by decide +kernel
theorem d_Symbols_forget_0 : decode b_Symbols_forget 0 = .ok (.aload_n 0, 1) := by decide +kernel
theorem d_Symbols_forget_1 : decode b_Symbols_forget 1 = .ok (.iconst 0, 1) := by decide +kernel
theorem d_Symbols_forget_2 : decode b_Symbols_forget 2 = .ok (.putfield 21, 3) := by decide +kernel
theorem d_Symbols_forget_5 : decode b_Symbols_forget 5 = .ok (.return_, 1) := by decide +kernel
theorem d_Symbols_numberOf_0 : decode b_Symbols_numberOf 0 = .ok (.iconst 0, 1) := by decide +kernel
