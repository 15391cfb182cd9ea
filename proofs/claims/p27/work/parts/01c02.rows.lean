theorem dX6_retire_0 : decode cX6_retire 0 = .ok (.aload_n 0, 1) := by decide +kernel
theorem dX6_retire_1 : decode cX6_retire 1 = .ok (.iload_n 1, 1) := by decide +kernel
theorem dX6_retire_2 : decode cX6_retire 2 = .ok (.iload_n 2, 1) := by decide +kernel
theorem dX6_retire_3 : decode cX6_retire 3 = .ok (.invokevirtual 91, 3) := by decide +kernel
theorem dX6_retire_6 : decode cX6_retire 6 = .ok (.astore 4, 2) := by decide +kernel
theorem dX6_retire_8 : decode cX6_retire 8 = .ok (.aload 4, 2) := by decide +kernel
theorem dX6_retire_10 : decode cX6_retire 10 = .ok (.ifnonnull 13, 3) := by decide +kernel
theorem dX6_retire_13 : decode cX6_retire 13 = .ok (.new 59, 3) := by decide +kernel
theorem dX6_retire_16 : decode cX6_retire 16 = .ok (.dup, 1) := by decide +kernel
theorem dX6_retire_17 : decode cX6_retire 17 = .ok (.ldc 95, 2) := by decide +kernel
theorem dX6_retire_19 : decode cX6_retire 19 = .ok (.invokespecial 63, 3) := by decide +kernel
theorem dX6_retire_22 : decode cX6_retire 22 = .ok (.athrow, 1) := by decide +kernel
theorem dX6_retire_23 : decode cX6_retire 23 = .ok (.iload_n 3, 1) := by decide +kernel
theorem dX6_retire_24 : decode cX6_retire 24 = .ok (.iconst 1, 1) := by decide +kernel
theorem dX6_retire_25 : decode cX6_retire 25 = .ok (.if_icmp .lt 9, 3) := by decide +kernel
theorem dX6_retire_28 : decode cX6_retire 28 = .ok (.iload_n 3, 1) := by decide +kernel
theorem dX6_retire_29 : decode cX6_retire 29 = .ok (.bipush 9, 2) := by decide +kernel
theorem dX6_retire_31 : decode cX6_retire 31 = .ok (.if_icmp .le 13, 3) := by decide +kernel
theorem dX6_retire_34 : decode cX6_retire 34 = .ok (.new 68, 3) := by decide +kernel
theorem dX6_retire_37 : decode cX6_retire 37 = .ok (.dup, 1) := by decide +kernel
theorem dX6_retire_38 : decode cX6_retire 38 = .ok (.ldc 209, 2) := by decide +kernel
theorem dX6_retire_40 : decode cX6_retire 40 = .ok (.invokespecial 72, 3) := by decide +kernel
theorem dX6_retire_43 : decode cX6_retire 43 = .ok (.athrow, 1) := by decide +kernel
theorem dX6_retire_44 : decode cX6_retire 44 = .ok (.aload 4, 2) := by decide +kernel
theorem dX6_retire_46 : decode cX6_retire 46 = .ok (.getfield 129, 3) := by decide +kernel
theorem dX6_retire_49 : decode cX6_retire 49 = .ok (.ifCond .eq 13, 3) := by decide +kernel
theorem dX6_retire_52 : decode cX6_retire 52 = .ok (.new 45, 3) := by decide +kernel
theorem dX6_retire_55 : decode cX6_retire 55 = .ok (.dup, 1) := by decide +kernel
theorem dX6_retire_56 : decode cX6_retire 56 = .ok (.ldc 150, 2) := by decide +kernel
theorem dX6_retire_58 : decode cX6_retire 58 = .ok (.invokespecial 49, 3) := by decide +kernel
theorem dX6_retire_61 : decode cX6_retire 61 = .ok (.athrow, 1) := by decide +kernel
theorem dX6_retire_62 : decode cX6_retire 62 = .ok (.aload 4, 2) := by decide +kernel
theorem dX6_retire_64 : decode cX6_retire 64 = .ok (.iconst 1, 1) := by decide +kernel
theorem dX6_retire_65 : decode cX6_retire 65 = .ok (.putfield 129, 3) := by decide +kernel
theorem dX6_retire_68 : decode cX6_retire 68 = .ok (.aload_n 0, 1) := by decide +kernel
theorem dX6_retire_69 : decode cX6_retire 69 = .ok (.aload 4, 2) := by decide +kernel
theorem dX6_retire_71 : decode cX6_retire 71 = .ok (.aload 4, 2) := by decide +kernel
theorem dX6_retire_73 : decode cX6_retire 73 = .ok (.getfield 211, 3) := by decide +kernel
theorem dX6_retire_76 : decode cX6_retire 76 = .ok (.iload_n 3, 1) := by decide +kernel
theorem dX6_retire_77 : decode cX6_retire 77 = .ok (.invokevirtual 214, 3) := by decide +kernel
theorem dX6_retire_80 : decode cX6_retire 80 = .ok (.ireturn, 1) := by decide +kernel
theorem dX6_answer_0 : decode cX6_answer 0 = .ok (.aload_n 0, 1) := by decide +kernel
theorem dX6_answer_1 : decode cX6_answer 1 = .ok (.iload_n 2, 1) := by decide +kernel
theorem dX6_answer_2 : decode cX6_answer 2 = .ok (.iload_n 3, 1) := by decide +kernel
theorem dX6_answer_3 : decode cX6_answer 3 = .ok (.invokevirtual 91, 3) := by decide +kernel
theorem dX6_answer_6 : decode cX6_answer 6 = .ok (.astore 4, 2) := by decide +kernel
theorem dX6_answer_8 : decode cX6_answer 8 = .ok (.aload 4, 2) := by decide +kernel
theorem dX6_answer_10 : decode cX6_answer 10 = .ok (.ifnull 10, 3) := by decide +kernel
theorem dX6_answer_13 : decode cX6_answer 13 = .ok (.iload_n 1, 1) := by decide +kernel
theorem dX6_answer_14 : decode cX6_answer 14 = .ok (.invokestatic 107, 3) := by decide +kernel
theorem dX6_answer_17 : decode cX6_answer 17 = .ok (.ifCond .ne 13, 3) := by decide +kernel
theorem dX6_answer_20 : decode cX6_answer 20 = .ok (.new 59, 3) := by decide +kernel
theorem dX6_answer_23 : decode cX6_answer 23 = .ok (.dup, 1) := by decide +kernel
theorem dX6_answer_24 : decode cX6_answer 24 = .ok (.ldc 218, 2) := by decide +kernel
theorem dX6_answer_26 : decode cX6_answer 26 = .ok (.invokespecial 63, 3) := by decide +kernel
theorem dX6_answer_29 : decode cX6_answer 29 = .ok (.athrow, 1) := by decide +kernel
theorem dX6_answer_30 : decode cX6_answer 30 = .ok (.aload 4, 2) := by decide +kernel
theorem dX6_answer_32 : decode cX6_answer 32 = .ok (.getfield 129, 3) := by decide +kernel
theorem dX6_answer_35 : decode cX6_answer 35 = .ok (.iconst 1, 1) := by decide +kernel
theorem dX6_answer_36 : decode cX6_answer 36 = .ok (.if_icmp .ne 16, 3) := by decide +kernel
theorem dX6_answer_39 : decode cX6_answer 39 = .ok (.aload 4, 2) := by decide +kernel
theorem dX6_answer_41 : decode cX6_answer 41 = .ok (.getfield 211, 3) := by decide +kernel
theorem dX6_answer_44 : decode cX6_answer 44 = .ok (.iload_n 1, 1) := by decide +kernel
theorem dX6_answer_45 : decode cX6_answer 45 = .ok (.invokevirtual 220, 3) := by decide +kernel
theorem dX6_answer_48 : decode cX6_answer 48 = .ok (.iconst (-1), 1) := by decide +kernel
theorem dX6_answer_49 : decode cX6_answer 49 = .ok (.if_icmp .ne 13, 3) := by decide +kernel
theorem dX6_answer_52 : decode cX6_answer 52 = .ok (.new 45, 3) := by decide +kernel
theorem dX6_answer_55 : decode cX6_answer 55 = .ok (.dup, 1) := by decide +kernel
theorem dX6_answer_56 : decode cX6_answer 56 = .ok (.ldc 223, 2) := by decide +kernel
theorem dX6_answer_58 : decode cX6_answer 58 = .ok (.invokespecial 49, 3) := by decide +kernel
theorem dX6_answer_61 : decode cX6_answer 61 = .ok (.athrow, 1) := by decide +kernel
theorem dX6_answer_62 : decode cX6_answer 62 = .ok (.aload 4, 2) := by decide +kernel
theorem dX6_answer_64 : decode cX6_answer 64 = .ok (.getfield 211, 3) := by decide +kernel
theorem dX6_answer_67 : decode cX6_answer 67 = .ok (.iload_n 1, 1) := by decide +kernel
theorem dX6_answer_68 : decode cX6_answer 68 = .ok (.aload_n 0, 1) := by decide +kernel
theorem dX6_answer_69 : decode cX6_answer 69 = .ok (.getfield 225, 3) := by decide +kernel
theorem dX6_answer_72 : decode cX6_answer 72 = .ok (.invokevirtual 228, 3) := by decide +kernel
theorem dX6_answer_75 : decode cX6_answer 75 = .ok (.istore 5, 2) := by decide +kernel
theorem dX6_answer_77 : decode cX6_answer 77 = .ok (.aload 4, 2) := by decide +kernel
theorem dX6_answer_79 : decode cX6_answer 79 = .ok (.getfield 211, 3) := by decide +kernel
theorem dX6_answer_82 : decode cX6_answer 82 = .ok (.dup, 1) := by decide +kernel
theorem dX6_answer_83 : decode cX6_answer 83 = .ok (.getfield 231, 3) := by decide +kernel
theorem dX6_answer_86 : decode cX6_answer 86 = .ok (.iconst 1, 1) := by decide +kernel
theorem dX6_answer_87 : decode cX6_answer 87 = .ok (.iload_n 1, 1) := by decide +kernel
theorem dX6_answer_88 : decode cX6_answer 88 = .ok (.ishl, 1) := by decide +kernel
theorem dX6_answer_89 : decode cX6_answer 89 = .ok (.ior, 1) := by decide +kernel
theorem dX6_answer_90 : decode cX6_answer 90 = .ok (.putfield 231, 3) := by decide +kernel
theorem dX6_answer_93 : decode cX6_answer 93 = .ok (.iload 5, 2) := by decide +kernel
theorem dX6_answer_95 : decode cX6_answer 95 = .ok (.ireturn, 1) := by decide +kernel
theorem dX6_asked_0 : decode cX6_asked 0 = .ok (.aload_n 0, 1) := by decide +kernel
theorem dX6_asked_1 : decode cX6_asked 1 = .ok (.iload_n 2, 1) := by decide +kernel
theorem dX6_asked_2 : decode cX6_asked 2 = .ok (.iload_n 3, 1) := by decide +kernel
theorem dX6_asked_3 : decode cX6_asked 3 = .ok (.invokevirtual 91, 3) := by decide +kernel
theorem dX6_asked_6 : decode cX6_asked 6 = .ok (.astore 4, 2) := by decide +kernel
theorem dX6_asked_8 : decode cX6_asked 8 = .ok (.aload 4, 2) := by decide +kernel
theorem dX6_asked_10 : decode cX6_asked 10 = .ok (.ifnull 10, 3) := by decide +kernel
theorem dX6_asked_13 : decode cX6_asked 13 = .ok (.iload_n 1, 1) := by decide +kernel
theorem dX6_asked_14 : decode cX6_asked 14 = .ok (.invokestatic 107, 3) := by decide +kernel
theorem dX6_asked_17 : decode cX6_asked 17 = .ok (.ifCond .ne 13, 3) := by decide +kernel
theorem dX6_asked_20 : decode cX6_asked 20 = .ok (.new 59, 3) := by decide +kernel
theorem dX6_asked_23 : decode cX6_asked 23 = .ok (.dup, 1) := by decide +kernel
theorem dX6_asked_24 : decode cX6_asked 24 = .ok (.ldc 218, 2) := by decide +kernel
theorem dX6_asked_26 : decode cX6_asked 26 = .ok (.invokespecial 63, 3) := by decide +kernel
theorem dX6_asked_29 : decode cX6_asked 29 = .ok (.athrow, 1) := by decide +kernel
theorem dX6_asked_30 : decode cX6_asked 30 = .ok (.aload_n 0, 1) := by decide +kernel
theorem dX6_asked_31 : decode cX6_asked 31 = .ok (.iload_n 1, 1) := by decide +kernel
theorem dX6_asked_32 : decode cX6_asked 32 = .ok (.aload 4, 2) := by decide +kernel
theorem dX6_asked_34 : decode cX6_asked 34 = .ok (.invokevirtual 242, 3) := by decide +kernel
theorem dX6_asked_37 : decode cX6_asked 37 = .ok (.ireturn, 1) := by decide +kernel
theorem dX6_many_0 : decode cX6_many 0 = .ok (.iload_n 1, 1) := by decide +kernel
theorem dX6_many_1 : decode cX6_many 1 = .ok (.ifCond .lt 9, 3) := by decide +kernel
theorem dX6_many_4 : decode cX6_many 4 = .ok (.iload_n 1, 1) := by decide +kernel
theorem dX6_many_5 : decode cX6_many 5 = .ok (.bipush 10, 2) := by decide +kernel
theorem dX6_many_7 : decode cX6_many 7 = .ok (.if_icmp .le 13, 3) := by decide +kernel
theorem dX6_many_10 : decode cX6_many 10 = .ok (.new 68, 3) := by decide +kernel
theorem dX6_many_13 : decode cX6_many 13 = .ok (.dup, 1) := by decide +kernel
theorem dX6_many_14 : decode cX6_many 14 = .ok (.ldc 97, 2) := by decide +kernel
theorem dX6_many_16 : decode cX6_many 16 = .ok (.invokespecial 72, 3) := by decide +kernel
theorem dX6_many_19 : decode cX6_many 19 = .ok (.athrow, 1) := by decide +kernel
theorem dX6_many_20 : decode cX6_many 20 = .ok (.aload_n 0, 1) := by decide +kernel
theorem dX6_many_21 : decode cX6_many 21 = .ok (.iload_n 1, 1) := by decide +kernel
theorem dX6_many_22 : decode cX6_many 22 = .ok (.invokevirtual 246, 3) := by decide +kernel
theorem dX6_many_25 : decode cX6_many 25 = .ok (.ireturn, 1) := by decide +kernel
theorem dX6_wouldCome_0 : decode cX6_wouldCome 0 = .ok (.aload_n 0, 1) := by decide +kernel
theorem dX6_wouldCome_1 : decode cX6_wouldCome 1 = .ok (.iload_n 1, 1) := by decide +kernel
theorem dX6_wouldCome_2 : decode cX6_wouldCome 2 = .ok (.invokevirtual 137, 3) := by decide +kernel
theorem dX6_wouldCome_5 : decode cX6_wouldCome 5 = .ok (.astore_n 3, 1) := by decide +kernel
theorem dX6_wouldCome_6 : decode cX6_wouldCome 6 = .ok (.aload_n 3, 1) := by decide +kernel
theorem dX6_wouldCome_7 : decode cX6_wouldCome 7 = .ok (.ifnonnull 13, 3) := by decide +kernel
theorem dX6_wouldCome_10 : decode cX6_wouldCome 10 = .ok (.new 59, 3) := by decide +kernel
theorem dX6_wouldCome_13 : decode cX6_wouldCome 13 = .ok (.dup, 1) := by decide +kernel
theorem dX6_wouldCome_14 : decode cX6_wouldCome 14 = .ok (.ldc 173, 2) := by decide +kernel
theorem dX6_wouldCome_16 : decode cX6_wouldCome 16 = .ok (.invokespecial 63, 3) := by decide +kernel
theorem dX6_wouldCome_19 : decode cX6_wouldCome 19 = .ok (.athrow, 1) := by decide +kernel
theorem dX6_wouldCome_20 : decode cX6_wouldCome 20 = .ok (.iload_n 2, 1) := by decide +kernel
theorem dX6_wouldCome_21 : decode cX6_wouldCome 21 = .ok (.ifCond .lt 9, 3) := by decide +kernel
theorem dX6_wouldCome_24 : decode cX6_wouldCome 24 = .ok (.iload_n 2, 1) := by decide +kernel
theorem dX6_wouldCome_25 : decode cX6_wouldCome 25 = .ok (.bipush 100, 2) := by decide +kernel
theorem dX6_wouldCome_27 : decode cX6_wouldCome 27 = .ok (.if_icmp .le 13, 3) := by decide +kernel
theorem dX6_wouldCome_30 : decode cX6_wouldCome 30 = .ok (.new 68, 3) := by decide +kernel
theorem dX6_wouldCome_33 : decode cX6_wouldCome 33 = .ok (.dup, 1) := by decide +kernel
theorem dX6_wouldCome_34 : decode cX6_wouldCome 34 = .ok (.ldc 255, 2) := by decide +kernel
theorem dX6_wouldCome_36 : decode cX6_wouldCome 36 = .ok (.invokespecial 72, 3) := by decide +kernel
theorem dX6_wouldCome_39 : decode cX6_wouldCome 39 = .ok (.athrow, 1) := by decide +kernel
theorem dX6_wouldCome_40 : decode cX6_wouldCome 40 = .ok (.aload_n 0, 1) := by decide +kernel
theorem dX6_wouldCome_41 : decode cX6_wouldCome 41 = .ok (.aload_n 3, 1) := by decide +kernel
theorem dX6_wouldCome_42 : decode cX6_wouldCome 42 = .ok (.iload_n 2, 1) := by decide +kernel
theorem dX6_wouldCome_43 : decode cX6_wouldCome 43 = .ok (.invokevirtual 257, 3) := by decide +kernel
theorem dX6_wouldCome_46 : decode cX6_wouldCome 46 = .ok (.ireturn, 1) := by decide +kernel
theorem dX6_target_0 : decode cX6_target 0 = .ok (.aload_n 0, 1) := by decide +kernel
theorem dX6_target_1 : decode cX6_target 1 = .ok (.iload_n 1, 1) := by decide +kernel
theorem dX6_target_2 : decode cX6_target 2 = .ok (.invokevirtual 137, 3) := by decide +kernel
theorem dX6_target_5 : decode cX6_target 5 = .ok (.astore_n 2, 1) := by decide +kernel
theorem dX6_target_6 : decode cX6_target 6 = .ok (.aload_n 2, 1) := by decide +kernel
theorem dX6_target_7 : decode cX6_target 7 = .ok (.ifnonnull 13, 3) := by decide +kernel
theorem dX6_target_10 : decode cX6_target 10 = .ok (.new 59, 3) := by decide +kernel
theorem dX6_target_13 : decode cX6_target 13 = .ok (.dup, 1) := by decide +kernel
theorem dX6_target_14 : decode cX6_target 14 = .ok (.ldc 173, 2) := by decide +kernel
theorem dX6_target_16 : decode cX6_target 16 = .ok (.invokespecial 63, 3) := by decide +kernel
theorem dX6_target_19 : decode cX6_target 19 = .ok (.athrow, 1) := by decide +kernel
theorem dX6_target_20 : decode cX6_target 20 = .ok (.aload_n 0, 1) := by decide +kernel
theorem dX6_target_21 : decode cX6_target 21 = .ok (.aload_n 2, 1) := by decide +kernel
theorem dX6_target_22 : decode cX6_target 22 = .ok (.invokevirtual 263, 3) := by decide +kernel
theorem dX6_target_25 : decode cX6_target 25 = .ok (.ireturn, 1) := by decide +kernel
theorem dX6_digest_0 : decode cX6_digest 0 = .ok (.ldc2_w 271, 3) := by decide +kernel
theorem dX6_digest_3 : decode cX6_digest 3 = .ok (.lstore_n 1, 1) := by decide +kernel
theorem dX6_digest_4 : decode cX6_digest 4 = .ok (.iconst 0, 1) := by decide +kernel
theorem dX6_digest_5 : decode cX6_digest 5 = .ok (.istore_n 3, 1) := by decide +kernel
theorem dX6_digest_6 : decode cX6_digest 6 = .ok (.iload_n 3, 1) := by decide +kernel
theorem dX6_digest_7 : decode cX6_digest 7 = .ok (.bipush 10, 2) := by decide +kernel
theorem dX6_digest_9 : decode cX6_digest 9 = .ok (.if_icmp .gt 22, 3) := by decide +kernel
theorem dX6_digest_12 : decode cX6_digest 12 = .ok (.lload_n 1, 1) := by decide +kernel
theorem dX6_digest_13 : decode cX6_digest 13 = .ok (.ldc2_w 273, 3) := by decide +kernel
theorem dX6_digest_16 : decode cX6_digest 16 = .ok (.lmul, 1) := by decide +kernel
theorem dX6_digest_17 : decode cX6_digest 17 = .ok (.aload_n 0, 1) := by decide +kernel
theorem dX6_digest_18 : decode cX6_digest 18 = .ok (.iload_n 3, 1) := by decide +kernel
theorem dX6_digest_19 : decode cX6_digest 19 = .ok (.invokevirtual 246, 3) := by decide +kernel
theorem dX6_digest_22 : decode cX6_digest 22 = .ok (.i2l, 1) := by decide +kernel
theorem dX6_digest_23 : decode cX6_digest 23 = .ok (.ladd, 1) := by decide +kernel
theorem dX6_digest_24 : decode cX6_digest 24 = .ok (.lstore_n 1, 1) := by decide +kernel
theorem dX6_digest_25 : decode cX6_digest 25 = .ok (.iinc 3 1, 3) := by decide +kernel
theorem dX6_digest_28 : decode cX6_digest 28 = .ok (.goto (-22), 3) := by decide +kernel
theorem dX6_digest_31 : decode cX6_digest 31 = .ok (.iconst 0, 1) := by decide +kernel
theorem dX6_digest_32 : decode cX6_digest 32 = .ok (.istore_n 3, 1) := by decide +kernel
theorem dX6_digest_33 : decode cX6_digest 33 = .ok (.iload_n 3, 1) := by decide +kernel
theorem dX6_digest_34 : decode cX6_digest 34 = .ok (.iconst 4, 1) := by decide +kernel
theorem dX6_digest_35 : decode cX6_digest 35 = .ok (.if_icmp .ge 47, 3) := by decide +kernel
theorem dX6_digest_38 : decode cX6_digest 38 = .ok (.iconst 0, 1) := by decide +kernel
theorem dX6_digest_39 : decode cX6_digest 39 = .ok (.istore 4, 2) := by decide +kernel
theorem dX6_digest_41 : decode cX6_digest 41 = .ok (.iload 4, 2) := by decide +kernel
theorem dX6_digest_43 : decode cX6_digest 43 = .ok (.bipush 6, 2) := by decide +kernel
theorem dX6_digest_45 : decode cX6_digest 45 = .ok (.if_icmp .ge 31, 3) := by decide +kernel
theorem dX6_digest_48 : decode cX6_digest 48 = .ok (.aload_n 0, 1) := by decide +kernel
theorem dX6_digest_49 : decode cX6_digest 49 = .ok (.iload_n 3, 1) := by decide +kernel
theorem dX6_digest_50 : decode cX6_digest 50 = .ok (.iload 4, 2) := by decide +kernel
theorem dX6_digest_52 : decode cX6_digest 52 = .ok (.invokevirtual 91, 3) := by decide +kernel
theorem dX6_digest_55 : decode cX6_digest 55 = .ok (.astore 5, 2) := by decide +kernel
theorem dX6_digest_57 : decode cX6_digest 57 = .ok (.aload 5, 2) := by decide +kernel
theorem dX6_digest_59 : decode cX6_digest 59 = .ok (.ifnull 11, 3) := by decide +kernel
theorem dX6_digest_62 : decode cX6_digest 62 = .ok (.aload_n 0, 1) := by decide +kernel
theorem dX6_digest_63 : decode cX6_digest 63 = .ok (.lload_n 1, 1) := by decide +kernel
theorem dX6_digest_64 : decode cX6_digest 64 = .ok (.aload 5, 2) := by decide +kernel
theorem dX6_digest_66 : decode cX6_digest 66 = .ok (.invokevirtual 275, 3) := by decide +kernel
theorem dX6_digest_69 : decode cX6_digest 69 = .ok (.lstore_n 1, 1) := by decide +kernel
theorem dX6_digest_70 : decode cX6_digest 70 = .ok (.iinc 4 1, 3) := by decide +kernel
theorem dX6_digest_73 : decode cX6_digest 73 = .ok (.goto (-32), 3) := by decide +kernel
theorem dX6_digest_76 : decode cX6_digest 76 = .ok (.iinc 3 1, 3) := by decide +kernel
theorem dX6_digest_79 : decode cX6_digest 79 = .ok (.goto (-46), 3) := by decide +kernel
theorem dX6_digest_82 : decode cX6_digest 82 = .ok (.iconst 0, 1) := by decide +kernel
theorem dX6_digest_83 : decode cX6_digest 83 = .ok (.istore_n 3, 1) := by decide +kernel
theorem dX6_digest_84 : decode cX6_digest 84 = .ok (.iload_n 3, 1) := by decide +kernel
theorem dX6_digest_85 : decode cX6_digest 85 = .ok (.aload_n 0, 1) := by decide +kernel
theorem dX6_digest_86 : decode cX6_digest 86 = .ok (.getfield 17, 3) := by decide +kernel
theorem dX6_digest_89 : decode cX6_digest 89 = .ok (.arraylength, 1) := by decide +kernel
theorem dX6_digest_90 : decode cX6_digest 90 = .ok (.if_icmp .ge 30, 3) := by decide +kernel
theorem dX6_digest_93 : decode cX6_digest 93 = .ok (.aload_n 0, 1) := by decide +kernel
theorem dX6_digest_94 : decode cX6_digest 94 = .ok (.getfield 17, 3) := by decide +kernel
theorem dX6_digest_97 : decode cX6_digest 97 = .ok (.iload_n 3, 1) := by decide +kernel
theorem dX6_digest_98 : decode cX6_digest 98 = .ok (.aaload, 1) := by decide +kernel
theorem dX6_digest_99 : decode cX6_digest 99 = .ok (.astore 4, 2) := by decide +kernel
theorem dX6_digest_101 : decode cX6_digest 101 = .ok (.aload 4, 2) := by decide +kernel
theorem dX6_digest_103 : decode cX6_digest 103 = .ok (.ifnull 11, 3) := by decide +kernel
theorem dX6_digest_106 : decode cX6_digest 106 = .ok (.aload_n 0, 1) := by decide +kernel
theorem dX6_digest_107 : decode cX6_digest 107 = .ok (.lload_n 1, 1) := by decide +kernel
theorem dX6_digest_108 : decode cX6_digest 108 = .ok (.aload 4, 2) := by decide +kernel
theorem dX6_digest_110 : decode cX6_digest 110 = .ok (.invokevirtual 279, 3) := by decide +kernel
theorem dX6_digest_113 : decode cX6_digest 113 = .ok (.lstore_n 1, 1) := by decide +kernel
theorem dX6_digest_114 : decode cX6_digest 114 = .ok (.iinc 3 1, 3) := by decide +kernel
theorem dX6_digest_117 : decode cX6_digest 117 = .ok (.goto (-33), 3) := by decide +kernel
theorem dX6_digest_120 : decode cX6_digest 120 = .ok (.lload_n 1, 1) := by decide +kernel
theorem dX6_digest_121 : decode cX6_digest 121 = .ok (.lreturn, 1) := by decide +kernel
theorem dX6_faceAt_0 : decode cX6_faceAt 0 = .ok (.iload_n 1, 1) := by decide +kernel
theorem dX6_faceAt_1 : decode cX6_faceAt 1 = .ok (.ifCond .lt 21, 3) := by decide +kernel
theorem dX6_faceAt_4 : decode cX6_faceAt 4 = .ok (.iload_n 1, 1) := by decide +kernel
theorem dX6_faceAt_5 : decode cX6_faceAt 5 = .ok (.aload_n 0, 1) := by decide +kernel
theorem dX6_faceAt_6 : decode cX6_faceAt 6 = .ok (.getfield 11, 3) := by decide +kernel
theorem dX6_faceAt_9 : decode cX6_faceAt 9 = .ok (.arraylength, 1) := by decide +kernel
theorem dX6_faceAt_10 : decode cX6_faceAt 10 = .ok (.if_icmp .ge 12, 3) := by decide +kernel
theorem dX6_faceAt_13 : decode cX6_faceAt 13 = .ok (.aload_n 0, 1) := by decide +kernel
theorem dX6_faceAt_14 : decode cX6_faceAt 14 = .ok (.getfield 11, 3) := by decide +kernel
theorem dX6_faceAt_17 : decode cX6_faceAt 17 = .ok (.iload_n 1, 1) := by decide +kernel
theorem dX6_faceAt_18 : decode cX6_faceAt 18 = .ok (.aaload, 1) := by decide +kernel
theorem dX6_faceAt_19 : decode cX6_faceAt 19 = .ok (.goto 4, 3) := by decide +kernel
theorem dX6_faceAt_22 : decode cX6_faceAt 22 = .ok (.aconst_null, 1) := by decide +kernel
theorem dX6_faceAt_23 : decode cX6_faceAt 23 = .ok (.areturn, 1) := by decide +kernel
theorem dX6_versionAt_0 : decode cX6_versionAt 0 = .ok (.aload_n 0, 1) := by decide +kernel
theorem dX6_versionAt_1 : decode cX6_versionAt 1 = .ok (.iload_n 1, 1) := by decide +kernel
theorem dX6_versionAt_2 : decode cX6_versionAt 2 = .ok (.invokevirtual 55, 3) := by decide +kernel
theorem dX6_versionAt_5 : decode cX6_versionAt 5 = .ok (.astore_n 3, 1) := by decide +kernel
theorem dX6_versionAt_6 : decode cX6_versionAt 6 = .ok (.aload_n 3, 1) := by decide +kernel
theorem dX6_versionAt_7 : decode cX6_versionAt 7 = .ok (.ifnonnull 7, 3) := by decide +kernel
theorem dX6_versionAt_10 : decode cX6_versionAt 10 = .ok (.aconst_null, 1) := by decide +kernel
theorem dX6_versionAt_11 : decode cX6_versionAt 11 = .ok (.goto 8, 3) := by decide +kernel
theorem dX6_versionAt_14 : decode cX6_versionAt 14 = .ok (.aload_n 3, 1) := by decide +kernel
theorem dX6_versionAt_15 : decode cX6_versionAt 15 = .ok (.iload_n 2, 1) := by decide +kernel
theorem dX6_versionAt_16 : decode cX6_versionAt 16 = .ok (.invokevirtual 145, 3) := by decide +kernel
theorem dX6_versionAt_19 : decode cX6_versionAt 19 = .ok (.areturn, 1) := by decide +kernel
theorem dX6_clientAt_0 : decode cX6_clientAt 0 = .ok (.iload_n 1, 1) := by decide +kernel
theorem dX6_clientAt_1 : decode cX6_clientAt 1 = .ok (.ifCond .lt 21, 3) := by decide +kernel
theorem dX6_clientAt_4 : decode cX6_clientAt 4 = .ok (.iload_n 1, 1) := by decide +kernel
theorem dX6_clientAt_5 : decode cX6_clientAt 5 = .ok (.aload_n 0, 1) := by decide +kernel
theorem dX6_clientAt_6 : decode cX6_clientAt 6 = .ok (.getfield 17, 3) := by decide +kernel
theorem dX6_clientAt_9 : decode cX6_clientAt 9 = .ok (.arraylength, 1) := by decide +kernel
theorem dX6_clientAt_10 : decode cX6_clientAt 10 = .ok (.if_icmp .ge 12, 3) := by decide +kernel
theorem dX6_clientAt_13 : decode cX6_clientAt 13 = .ok (.aload_n 0, 1) := by decide +kernel
theorem dX6_clientAt_14 : decode cX6_clientAt 14 = .ok (.getfield 17, 3) := by decide +kernel
theorem dX6_clientAt_17 : decode cX6_clientAt 17 = .ok (.iload_n 1, 1) := by decide +kernel
theorem dX6_clientAt_18 : decode cX6_clientAt 18 = .ok (.aaload, 1) := by decide +kernel
theorem dX6_clientAt_19 : decode cX6_clientAt 19 = .ok (.goto 4, 3) := by decide +kernel
theorem dX6_clientAt_22 : decode cX6_clientAt 22 = .ok (.aconst_null, 1) := by decide +kernel
theorem dX6_clientAt_23 : decode cX6_clientAt 23 = .ok (.areturn, 1) := by decide +kernel
theorem dX6_isOwner_0 : decode cX6_isOwner 0 = .ok (.iload_n 0, 1) := by decide +kernel
theorem dX6_isOwner_1 : decode cX6_isOwner 1 = .ok (.ifCond .lt 12, 3) := by decide +kernel
theorem dX6_isOwner_4 : decode cX6_isOwner 4 = .ok (.iload_n 0, 1) := by decide +kernel
theorem dX6_isOwner_5 : decode cX6_isOwner 5 = .ok (.iconst 5, 1) := by decide +kernel
theorem dX6_isOwner_6 : decode cX6_isOwner 6 = .ok (.if_icmp .ge 7, 3) := by decide +kernel
theorem dX6_isOwner_9 : decode cX6_isOwner 9 = .ok (.iconst 1, 1) := by decide +kernel
theorem dX6_isOwner_10 : decode cX6_isOwner 10 = .ok (.goto 4, 3) := by decide +kernel
theorem dX6_isOwner_13 : decode cX6_isOwner 13 = .ok (.iconst 0, 1) := by decide +kernel
theorem dX6_isOwner_14 : decode cX6_isOwner 14 = .ok (.ireturn, 1) := by decide +kernel
theorem dX6_isFieldSet_0 : decode cX6_isFieldSet 0 = .ok (.iload_n 0, 1) := by decide +kernel
theorem dX6_isFieldSet_1 : decode cX6_isFieldSet 1 = .ok (.ifCond .lt 14, 3) := by decide +kernel
theorem dX6_isFieldSet_4 : decode cX6_isFieldSet 4 = .ok (.iload_n 0, 1) := by decide +kernel
theorem dX6_isFieldSet_5 : decode cX6_isFieldSet 5 = .ok (.sipush 255, 3) := by decide +kernel
theorem dX6_isFieldSet_8 : decode cX6_isFieldSet 8 = .ok (.if_icmp .gt 7, 3) := by decide +kernel
theorem dX6_isFieldSet_11 : decode cX6_isFieldSet 11 = .ok (.iconst 1, 1) := by decide +kernel
theorem dX6_isFieldSet_12 : decode cX6_isFieldSet 12 = .ok (.goto 4, 3) := by decide +kernel
theorem dX6_isFieldSet_15 : decode cX6_isFieldSet 15 = .ok (.iconst 0, 1) := by decide +kernel
theorem dX6_isFieldSet_16 : decode cX6_isFieldSet 16 = .ok (.ireturn, 1) := by decide +kernel
theorem dX6_isShape_0 : decode cX6_isShape 0 = .ok (.iload_n 0, 1) := by decide +kernel
theorem dX6_isShape_1 : decode cX6_isShape 1 = .ok (.invokestatic 111, 3) := by decide +kernel
theorem dX6_isShape_4 : decode cX6_isShape 4 = .ok (.ifCond .eq 19, 3) := by decide +kernel
theorem dX6_isShape_7 : decode cX6_isShape 7 = .ok (.iload_n 1, 1) := by decide +kernel
theorem dX6_isShape_8 : decode cX6_isShape 8 = .ok (.ifCond .lt 15, 3) := by decide +kernel
theorem dX6_isShape_11 : decode cX6_isShape 11 = .ok (.iload_n 1, 1) := by decide +kernel
theorem dX6_isShape_12 : decode cX6_isShape 12 = .ok (.iload_n 0, 1) := by decide +kernel
theorem dX6_isShape_13 : decode cX6_isShape 13 = .ok (.iconst (-1), 1) := by decide +kernel
theorem dX6_isShape_14 : decode cX6_isShape 14 = .ok (.ixor, 1) := by decide +kernel
theorem dX6_isShape_15 : decode cX6_isShape 15 = .ok (.iand, 1) := by decide +kernel
theorem dX6_isShape_16 : decode cX6_isShape 16 = .ok (.ifCond .ne 7, 3) := by decide +kernel
theorem dX6_isShape_19 : decode cX6_isShape 19 = .ok (.iconst 1, 1) := by decide +kernel
theorem dX6_isShape_20 : decode cX6_isShape 20 = .ok (.goto 4, 3) := by decide +kernel
theorem dX6_isShape_23 : decode cX6_isShape 23 = .ok (.iconst 0, 1) := by decide +kernel
theorem dX6_isShape_24 : decode cX6_isShape 24 = .ok (.ireturn, 1) := by decide +kernel
theorem dX6_fits_0 : decode cX6_fits 0 = .ok (.iload_n 2, 1) := by decide +kernel
theorem dX6_fits_1 : decode cX6_fits 1 = .ok (.iload_n 0, 1) := by decide +kernel
theorem dX6_fits_2 : decode cX6_fits 2 = .ok (.iconst (-1), 1) := by decide +kernel
theorem dX6_fits_3 : decode cX6_fits 3 = .ok (.ixor, 1) := by decide +kernel
theorem dX6_fits_4 : decode cX6_fits 4 = .ok (.iand, 1) := by decide +kernel
theorem dX6_fits_5 : decode cX6_fits 5 = .ok (.ifCond .ne 15, 3) := by decide +kernel
theorem dX6_fits_8 : decode cX6_fits 8 = .ok (.iload_n 0, 1) := by decide +kernel
theorem dX6_fits_9 : decode cX6_fits 9 = .ok (.iload_n 1, 1) := by decide +kernel
theorem dX6_fits_10 : decode cX6_fits 10 = .ok (.iconst (-1), 1) := by decide +kernel
theorem dX6_fits_11 : decode cX6_fits 11 = .ok (.ixor, 1) := by decide +kernel
theorem dX6_fits_12 : decode cX6_fits 12 = .ok (.iand, 1) := by decide +kernel
theorem dX6_fits_13 : decode cX6_fits 13 = .ok (.ifCond .ne 7, 3) := by decide +kernel
theorem dX6_fits_16 : decode cX6_fits 16 = .ok (.iconst 1, 1) := by decide +kernel
theorem dX6_fits_17 : decode cX6_fits 17 = .ok (.goto 4, 3) := by decide +kernel
theorem dX6_fits_20 : decode cX6_fits 20 = .ok (.iconst 0, 1) := by decide +kernel
theorem dX6_fits_21 : decode cX6_fits 21 = .ok (.ireturn, 1) := by decide +kernel
theorem dX6_countSuited_0 : decode cX6_countSuited 0 = .ok (.iconst 0, 1) := by decide +kernel
theorem dX6_countSuited_1 : decode cX6_countSuited 1 = .ok (.istore_n 1, 1) := by decide +kernel
theorem dX6_countSuited_2 : decode cX6_countSuited 2 = .ok (.iconst 0, 1) := by decide +kernel
theorem dX6_countSuited_3 : decode cX6_countSuited 3 = .ok (.istore_n 2, 1) := by decide +kernel
theorem dX6_countSuited_4 : decode cX6_countSuited 4 = .ok (.iload_n 2, 1) := by decide +kernel
theorem dX6_countSuited_5 : decode cX6_countSuited 5 = .ok (.aload_n 0, 1) := by decide +kernel
theorem dX6_countSuited_6 : decode cX6_countSuited 6 = .ok (.getfield 283, 3) := by decide +kernel
theorem dX6_countSuited_9 : decode cX6_countSuited 9 = .ok (.if_icmp .ge 33, 3) := by decide +kernel
theorem dX6_countSuited_12 : decode cX6_countSuited 12 = .ok (.aload_n 0, 1) := by decide +kernel
theorem dX6_countSuited_13 : decode cX6_countSuited 13 = .ok (.getfield 286, 3) := by decide +kernel
theorem dX6_countSuited_16 : decode cX6_countSuited 16 = .ok (.iload_n 2, 1) := by decide +kernel
theorem dX6_countSuited_17 : decode cX6_countSuited 17 = .ok (.invokevirtual 145, 3) := by decide +kernel
theorem dX6_countSuited_20 : decode cX6_countSuited 20 = .ok (.astore_n 3, 1) := by decide +kernel
theorem dX6_countSuited_21 : decode cX6_countSuited 21 = .ok (.aload_n 3, 1) := by decide +kernel
theorem dX6_countSuited_22 : decode cX6_countSuited 22 = .ok (.ifnull 14, 3) := by decide +kernel
theorem dX6_countSuited_25 : decode cX6_countSuited 25 = .ok (.aload_n 0, 1) := by decide +kernel
theorem dX6_countSuited_26 : decode cX6_countSuited 26 = .ok (.aload_n 3, 1) := by decide +kernel
theorem dX6_countSuited_27 : decode cX6_countSuited 27 = .ok (.invokevirtual 103, 3) := by decide +kernel
theorem dX6_countSuited_30 : decode cX6_countSuited 30 = .ok (.ifCond .eq 6, 3) := by decide +kernel
theorem dX6_countSuited_33 : decode cX6_countSuited 33 = .ok (.iinc 1 1, 3) := by decide +kernel
theorem dX6_countSuited_36 : decode cX6_countSuited 36 = .ok (.iinc 2 1, 3) := by decide +kernel
theorem dX6_countSuited_39 : decode cX6_countSuited 39 = .ok (.goto (-35), 3) := by decide +kernel
theorem dX6_countSuited_42 : decode cX6_countSuited 42 = .ok (.iload_n 1, 1) := by decide +kernel
theorem dX6_countSuited_43 : decode cX6_countSuited 43 = .ok (.ireturn, 1) := by decide +kernel
theorem dX6_versionFact_0 : decode cX6_versionFact 0 = .ok (.iload_n 2, 1) := by decide +kernel
theorem dX6_versionFact_1 : decode cX6_versionFact 1 = .ok (.tableswitch 134 0 9 #[55, 60, 65, 70, 78, 86, 92, 119, 124, 129], 55) := by decide +kernel
theorem dX6_versionFact_56 : decode cX6_versionFact 56 = .ok (.aload_n 1, 1) := by decide +kernel
theorem dX6_versionFact_57 : decode cX6_versionFact 57 = .ok (.getfield 114, 3) := by decide +kernel
theorem dX6_versionFact_60 : decode cX6_versionFact 60 = .ok (.ireturn, 1) := by decide +kernel
theorem dX6_versionFact_61 : decode cX6_versionFact 61 = .ok (.aload_n 1, 1) := by decide +kernel
theorem dX6_versionFact_62 : decode cX6_versionFact 62 = .ok (.getfield 117, 3) := by decide +kernel
theorem dX6_versionFact_65 : decode cX6_versionFact 65 = .ok (.ireturn, 1) := by decide +kernel
theorem dX6_versionFact_66 : decode cX6_versionFact 66 = .ok (.aload_n 1, 1) := by decide +kernel
theorem dX6_versionFact_67 : decode cX6_versionFact 67 = .ok (.getfield 129, 3) := by decide +kernel
theorem dX6_versionFact_70 : decode cX6_versionFact 70 = .ok (.ireturn, 1) := by decide +kernel
theorem dX6_versionFact_71 : decode cX6_versionFact 71 = .ok (.aload_n 1, 1) := by decide +kernel
theorem dX6_versionFact_72 : decode cX6_versionFact 72 = .ok (.getfield 211, 3) := by decide +kernel
theorem dX6_versionFact_75 : decode cX6_versionFact 75 = .ok (.getfield 287, 3) := by decide +kernel
theorem dX6_versionFact_78 : decode cX6_versionFact 78 = .ok (.ireturn, 1) := by decide +kernel
theorem dX6_versionFact_79 : decode cX6_versionFact 79 = .ok (.aload_n 1, 1) := by decide +kernel
theorem dX6_versionFact_80 : decode cX6_versionFact 80 = .ok (.getfield 211, 3) := by decide +kernel
theorem dX6_versionFact_83 : decode cX6_versionFact 83 = .ok (.getfield 236, 3) := by decide +kernel
theorem dX6_versionFact_86 : decode cX6_versionFact 86 = .ok (.ireturn, 1) := by decide +kernel
theorem dX6_versionFact_87 : decode cX6_versionFact 87 = .ok (.aload_n 0, 1) := by decide +kernel
theorem dX6_versionFact_88 : decode cX6_versionFact 88 = .ok (.aload_n 1, 1) := by decide +kernel
theorem dX6_versionFact_89 : decode cX6_versionFact 89 = .ok (.invokevirtual 290, 3) := by decide +kernel
theorem dX6_versionFact_92 : decode cX6_versionFact 92 = .ok (.ireturn, 1) := by decide +kernel
theorem dX6_versionFact_93 : decode cX6_versionFact 93 = .ok (.aload_n 1, 1) := by decide +kernel
theorem dX6_versionFact_94 : decode cX6_versionFact 94 = .ok (.getfield 129, 3) := by decide +kernel
theorem dX6_versionFact_97 : decode cX6_versionFact 97 = .ok (.iconst 1, 1) := by decide +kernel
theorem dX6_versionFact_98 : decode cX6_versionFact 98 = .ok (.if_icmp .ne 20, 3) := by decide +kernel
theorem dX6_versionFact_101 : decode cX6_versionFact 101 = .ok (.aload_n 0, 1) := by decide +kernel
theorem dX6_versionFact_102 : decode cX6_versionFact 102 = .ok (.aload_n 1, 1) := by decide +kernel
theorem dX6_versionFact_103 : decode cX6_versionFact 103 = .ok (.aload_n 1, 1) := by decide +kernel
theorem dX6_versionFact_104 : decode cX6_versionFact 104 = .ok (.getfield 211, 3) := by decide +kernel
theorem dX6_versionFact_107 : decode cX6_versionFact 107 = .ok (.aload_n 0, 1) := by decide +kernel
theorem dX6_versionFact_108 : decode cX6_versionFact 108 = .ok (.getfield 225, 3) := by decide +kernel
theorem dX6_versionFact_111 : decode cX6_versionFact 111 = .ok (.iconst 0, 1) := by decide +kernel
theorem dX6_versionFact_112 : decode cX6_versionFact 112 = .ok (.invokevirtual 293, 3) := by decide +kernel
theorem dX6_versionFact_115 : decode cX6_versionFact 115 = .ok (.goto 4, 3) := by decide +kernel
theorem dX6_versionFact_118 : decode cX6_versionFact 118 = .ok (.iconst 0, 1) := by decide +kernel
theorem dX6_versionFact_119 : decode cX6_versionFact 119 = .ok (.ireturn, 1) := by decide +kernel
theorem dX6_versionFact_120 : decode cX6_versionFact 120 = .ok (.aload_n 1, 1) := by decide +kernel
theorem dX6_versionFact_121 : decode cX6_versionFact 121 = .ok (.getfield 297, 3) := by decide +kernel
theorem dX6_versionFact_124 : decode cX6_versionFact 124 = .ok (.ireturn, 1) := by decide +kernel
theorem dX6_versionFact_125 : decode cX6_versionFact 125 = .ok (.aload_n 1, 1) := by decide +kernel
theorem dX6_versionFact_126 : decode cX6_versionFact 126 = .ok (.getfield 300, 3) := by decide +kernel
theorem dX6_versionFact_129 : decode cX6_versionFact 129 = .ok (.ireturn, 1) := by decide +kernel
theorem dX6_versionFact_130 : decode cX6_versionFact 130 = .ok (.aload_n 1, 1) := by decide +kernel
theorem dX6_versionFact_131 : decode cX6_versionFact 131 = .ok (.getfield 301, 3) := by decide +kernel
theorem dX6_versionFact_134 : decode cX6_versionFact 134 = .ok (.ireturn, 1) := by decide +kernel
theorem dX6_versionFact_135 : decode cX6_versionFact 135 = .ok (.aload_n 0, 1) := by decide +kernel
theorem dX6_versionFact_136 : decode cX6_versionFact 136 = .ok (.aload_n 1, 1) := by decide +kernel
theorem dX6_versionFact_137 : decode cX6_versionFact 137 = .ok (.invokevirtual 302, 3) := by decide +kernel
theorem dX6_versionFact_140 : decode cX6_versionFact 140 = .ok (.ireturn, 1) := by decide +kernel
theorem dX6_clientFact_0 : decode cX6_clientFact 0 = .ok (.iload_n 2, 1) := by decide +kernel
theorem dX6_clientFact_1 : decode cX6_clientFact 1 = .ok (.tableswitch 123 0 7 #[47, 52, 60, 68, 73, 78, 83, 103], 47) := by decide +kernel
theorem dX6_clientFact_48 : decode cX6_clientFact 48 = .ok (.aload_n 1, 1) := by decide +kernel
theorem dX6_clientFact_49 : decode cX6_clientFact 49 = .ok (.getfield 305, 3) := by decide +kernel
theorem dX6_clientFact_52 : decode cX6_clientFact 52 = .ok (.ireturn, 1) := by decide +kernel
theorem dX6_clientFact_53 : decode cX6_clientFact 53 = .ok (.aload_n 1, 1) := by decide +kernel
theorem dX6_clientFact_54 : decode cX6_clientFact 54 = .ok (.getfield 141, 3) := by decide +kernel
theorem dX6_clientFact_57 : decode cX6_clientFact 57 = .ok (.getfield 308, 3) := by decide +kernel
theorem dX6_clientFact_60 : decode cX6_clientFact 60 = .ok (.ireturn, 1) := by decide +kernel
theorem dX6_clientFact_61 : decode cX6_clientFact 61 = .ok (.aload_n 1, 1) := by decide +kernel
theorem dX6_clientFact_62 : decode cX6_clientFact 62 = .ok (.getfield 159, 3) := by decide +kernel
theorem dX6_clientFact_65 : decode cX6_clientFact 65 = .ok (.getfield 283, 3) := by decide +kernel
theorem dX6_clientFact_68 : decode cX6_clientFact 68 = .ok (.ireturn, 1) := by decide +kernel
theorem dX6_clientFact_69 : decode cX6_clientFact 69 = .ok (.aload_n 1, 1) := by decide +kernel
theorem dX6_clientFact_70 : decode cX6_clientFact 70 = .ok (.getfield 152, 3) := by decide +kernel
theorem dX6_clientFact_73 : decode cX6_clientFact 73 = .ok (.ireturn, 1) := by decide +kernel
theorem dX6_clientFact_74 : decode cX6_clientFact 74 = .ok (.aload_n 1, 1) := by decide +kernel
theorem dX6_clientFact_75 : decode cX6_clientFact 75 = .ok (.getfield 309, 3) := by decide +kernel
theorem dX6_clientFact_78 : decode cX6_clientFact 78 = .ok (.ireturn, 1) := by decide +kernel
theorem dX6_clientFact_79 : decode cX6_clientFact 79 = .ok (.aload_n 1, 1) := by decide +kernel
theorem dX6_clientFact_80 : decode cX6_clientFact 80 = .ok (.getfield 310, 3) := by decide +kernel
theorem dX6_clientFact_83 : decode cX6_clientFact 83 = .ok (.ireturn, 1) := by decide +kernel
theorem dX6_clientFact_84 : decode cX6_clientFact 84 = .ok (.aload_n 0, 1) := by decide +kernel
theorem dX6_clientFact_85 : decode cX6_clientFact 85 = .ok (.aload_n 1, 1) := by decide +kernel
theorem dX6_clientFact_86 : decode cX6_clientFact 86 = .ok (.invokevirtual 181, 3) := by decide +kernel
theorem dX6_clientFact_89 : decode cX6_clientFact 89 = .ok (.ifCond .eq 13, 3) := by decide +kernel
theorem dX6_clientFact_92 : decode cX6_clientFact 92 = .ok (.aload_n 0, 1) := by decide +kernel
theorem dX6_clientFact_93 : decode cX6_clientFact 93 = .ok (.getfield 30, 3) := by decide +kernel
theorem dX6_clientFact_96 : decode cX6_clientFact 96 = .ok (.getfield 185, 3) := by decide +kernel
theorem dX6_clientFact_99 : decode cX6_clientFact 99 = .ok (.goto 4, 3) := by decide +kernel
theorem dX6_clientFact_102 : decode cX6_clientFact 102 = .ok (.iconst (-1), 1) := by decide +kernel
theorem dX6_clientFact_103 : decode cX6_clientFact 103 = .ok (.ireturn, 1) := by decide +kernel
theorem dX6_clientFact_104 : decode cX6_clientFact 104 = .ok (.aload_n 0, 1) := by decide +kernel
theorem dX6_clientFact_105 : decode cX6_clientFact 105 = .ok (.aload_n 1, 1) := by decide +kernel
theorem dX6_clientFact_106 : decode cX6_clientFact 106 = .ok (.invokevirtual 181, 3) := by decide +kernel
theorem dX6_clientFact_109 : decode cX6_clientFact 109 = .ok (.ifCond .eq 13, 3) := by decide +kernel
theorem dX6_clientFact_112 : decode cX6_clientFact 112 = .ok (.aload_n 0, 1) := by decide +kernel
theorem dX6_clientFact_113 : decode cX6_clientFact 113 = .ok (.getfield 30, 3) := by decide +kernel
theorem dX6_clientFact_116 : decode cX6_clientFact 116 = .ok (.getfield 311, 3) := by decide +kernel
theorem dX6_clientFact_119 : decode cX6_clientFact 119 = .ok (.goto 4, 3) := by decide +kernel
theorem dX6_clientFact_122 : decode cX6_clientFact 122 = .ok (.iconst (-1), 1) := by decide +kernel
theorem dX6_clientFact_123 : decode cX6_clientFact 123 = .ok (.ireturn, 1) := by decide +kernel
theorem dX6_clientFact_124 : decode cX6_clientFact 124 = .ok (.aload_n 0, 1) := by decide +kernel
theorem dX6_clientFact_125 : decode cX6_clientFact 125 = .ok (.aload_n 1, 1) := by decide +kernel
theorem dX6_clientFact_126 : decode cX6_clientFact 126 = .ok (.invokevirtual 181, 3) := by decide +kernel
theorem dX6_clientFact_129 : decode cX6_clientFact 129 = .ok (.ifCond .eq 13, 3) := by decide +kernel
theorem dX6_clientFact_132 : decode cX6_clientFact 132 = .ok (.aload_n 0, 1) := by decide +kernel
theorem dX6_clientFact_133 : decode cX6_clientFact 133 = .ok (.getfield 30, 3) := by decide +kernel
theorem dX6_clientFact_136 : decode cX6_clientFact 136 = .ok (.getfield 314, 3) := by decide +kernel
theorem dX6_clientFact_139 : decode cX6_clientFact 139 = .ok (.goto 4, 3) := by decide +kernel
theorem dX6_clientFact_142 : decode cX6_clientFact 142 = .ok (.iconst (-1), 1) := by decide +kernel
theorem dX6_clientFact_143 : decode cX6_clientFact 143 = .ok (.ireturn, 1) := by decide +kernel
