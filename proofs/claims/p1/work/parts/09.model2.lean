theorem dX12_versionsIn_0 : decode cX12_versionsIn 0 = .ok (.iconst 0, 1) := by decide +kernel
theorem dX12_versionsIn_1 : decode cX12_versionsIn 1 = .ok (.istore_n 2, 1) := by decide +kernel
theorem dX12_versionsIn_2 : decode cX12_versionsIn 2 = .ok (.aload_n 0, 1) := by decide +kernel
theorem dX12_versionsIn_3 : decode cX12_versionsIn 3 = .ok (.getfield 10, 3) := by decide +kernel
theorem dX12_versionsIn_6 : decode cX12_versionsIn 6 = .ok (.getfield 24, 3) := by decide +kernel
theorem dX12_versionsIn_9 : decode cX12_versionsIn 9 = .ok (.invokevirtual 84, 3) := by decide +kernel
theorem dX12_versionsIn_12 : decode cX12_versionsIn 12 = .ok (.astore_n 3, 1) := by decide +kernel
theorem dX12_versionsIn_13 : decode cX12_versionsIn 13 = .ok (.aload_n 3, 1) := by decide +kernel
theorem dX12_versionsIn_14 : decode cX12_versionsIn 14 = .ok (.invokeinterface 88 1, 5) := by decide +kernel
theorem dX12_versionsIn_19 : decode cX12_versionsIn 19 = .ok (.ifCond .eq 70, 3) := by decide +kernel
theorem dX12_versionsIn_89 : decode cX12_versionsIn 89 = .ok (.iload_n 2, 1) := by decide +kernel
theorem dX12_versionsIn_90 : decode cX12_versionsIn 90 = .ok (.ireturn, 1) := by decide +kernel
theorem dX12_callsThat_0 : decode cX12_callsThat 0 = .ok (.iconst 0, 1) := by decide +kernel
theorem dX12_callsThat_1 : decode cX12_callsThat 1 = .ok (.istore_n 3, 1) := by decide +kernel
theorem dX12_callsThat_2 : decode cX12_callsThat 2 = .ok (.aload_n 0, 1) := by decide +kernel
theorem dX12_callsThat_3 : decode cX12_callsThat 3 = .ok (.getfield 10, 3) := by decide +kernel
theorem dX12_callsThat_6 : decode cX12_callsThat 6 = .ok (.getfield 105, 3) := by decide +kernel
theorem dX12_callsThat_9 : decode cX12_callsThat 9 = .ok (.invokevirtual 84, 3) := by decide +kernel
theorem dX12_callsThat_12 : decode cX12_callsThat 12 = .ok (.astore 4, 2) := by decide +kernel
theorem dX12_callsThat_14 : decode cX12_callsThat 14 = .ok (.aload 4, 2) := by decide +kernel
theorem dX12_callsThat_16 : decode cX12_callsThat 16 = .ok (.invokeinterface 88 1, 5) := by decide +kernel
theorem dX12_callsThat_21 : decode cX12_callsThat 21 = .ok (.ifCond .eq 39, 3) := by decide +kernel
theorem dX12_callsThat_60 : decode cX12_callsThat 60 = .ok (.iload_n 3, 1) := by decide +kernel
theorem dX12_callsThat_61 : decode cX12_callsThat 61 = .ok (.ireturn, 1) := by decide +kernel
theorem dX12_count_0 : decode cX12_count 0 = .ok (.iload_n 1, 1) := by decide +kernel
theorem dX12_count_1 : decode cX12_count 1 = .ok (.tableswitch 127 0 9 #[55, 66, 72, 72, 72, 80, 91, 102, 113, 120], 55) := by decide +kernel
theorem dX12_count_56 : decode cX12_count 56 = .ok (.aload_n 0, 1) := by decide +kernel
theorem dX12_count_57 : decode cX12_count 57 = .ok (.getfield 10, 3) := by decide +kernel
theorem dX12_count_60 : decode cX12_count 60 = .ok (.getfield 24, 3) := by decide +kernel
theorem dX12_count_63 : decode cX12_count 63 = .ok (.invokevirtual 28, 3) := by decide +kernel
theorem dX12_count_66 : decode cX12_count 66 = .ok (.ireturn, 1) := by decide +kernel
theorem dX12_count_67 : decode cX12_count 67 = .ok (.aload_n 0, 1) := by decide +kernel
theorem dX12_count_68 : decode cX12_count 68 = .ok (.iconst (-1), 1) := by decide +kernel
theorem dX12_count_69 : decode cX12_count 69 = .ok (.invokevirtual 246, 3) := by decide +kernel
theorem dX12_count_72 : decode cX12_count 72 = .ok (.ireturn, 1) := by decide +kernel
theorem dX12_count_73 : decode cX12_count 73 = .ok (.aload_n 0, 1) := by decide +kernel
theorem dX12_count_74 : decode cX12_count 74 = .ok (.iload_n 1, 1) := by decide +kernel
theorem dX12_count_75 : decode cX12_count 75 = .ok (.iconst 2, 1) := by decide +kernel
theorem dX12_count_76 : decode cX12_count 76 = .ok (.isub, 1) := by decide +kernel
theorem dX12_count_77 : decode cX12_count 77 = .ok (.invokevirtual 246, 3) := by decide +kernel
theorem dX12_count_80 : decode cX12_count 80 = .ok (.ireturn, 1) := by decide +kernel
theorem dX12_count_81 : decode cX12_count 81 = .ok (.aload_n 0, 1) := by decide +kernel
theorem dX12_count_82 : decode cX12_count 82 = .ok (.getfield 10, 3) := by decide +kernel
theorem dX12_count_85 : decode cX12_count 85 = .ok (.getfield 53, 3) := by decide +kernel
theorem dX12_count_88 : decode cX12_count 88 = .ok (.invokevirtual 28, 3) := by decide +kernel
theorem dX12_count_91 : decode cX12_count 91 = .ok (.ireturn, 1) := by decide +kernel
theorem dX12_count_92 : decode cX12_count 92 = .ok (.aload_n 0, 1) := by decide +kernel
theorem dX12_count_93 : decode cX12_count 93 = .ok (.getfield 10, 3) := by decide +kernel
theorem dX12_count_96 : decode cX12_count 96 = .ok (.getfield 175, 3) := by decide +kernel
theorem dX12_count_99 : decode cX12_count 99 = .ok (.invokevirtual 28, 3) := by decide +kernel
theorem dX12_count_102 : decode cX12_count 102 = .ok (.ireturn, 1) := by decide +kernel
theorem dX12_count_103 : decode cX12_count 103 = .ok (.aload_n 0, 1) := by decide +kernel
theorem dX12_count_104 : decode cX12_count 104 = .ok (.getfield 10, 3) := by decide +kernel
theorem dX12_count_107 : decode cX12_count 107 = .ok (.getfield 105, 3) := by decide +kernel
theorem dX12_count_110 : decode cX12_count 110 = .ok (.invokevirtual 28, 3) := by decide +kernel
theorem dX12_count_113 : decode cX12_count 113 = .ok (.ireturn, 1) := by decide +kernel
theorem dX12_count_114 : decode cX12_count 114 = .ok (.aload_n 0, 1) := by decide +kernel
theorem dX12_count_115 : decode cX12_count 115 = .ok (.iconst 2, 1) := by decide +kernel
theorem dX12_count_116 : decode cX12_count 116 = .ok (.iconst 4, 1) := by decide +kernel
theorem dX12_count_117 : decode cX12_count 117 = .ok (.invokevirtual 249, 3) := by decide +kernel
theorem dX12_count_120 : decode cX12_count 120 = .ok (.ireturn, 1) := by decide +kernel
theorem dX12_count_121 : decode cX12_count 121 = .ok (.aload_n 0, 1) := by decide +kernel
theorem dX12_count_122 : decode cX12_count 122 = .ok (.iconst 1, 1) := by decide +kernel
theorem dX12_count_123 : decode cX12_count 123 = .ok (.iconst 1, 1) := by decide +kernel
theorem dX12_count_124 : decode cX12_count 124 = .ok (.invokevirtual 249, 3) := by decide +kernel
theorem dX12_count_127 : decode cX12_count 127 = .ok (.ireturn, 1) := by decide +kernel
theorem dX12_count_128 : decode cX12_count 128 = .ok (.aload_n 0, 1) := by decide +kernel
theorem dX12_count_129 : decode cX12_count 129 = .ok (.getfield 10, 3) := by decide +kernel
theorem dX12_count_132 : decode cX12_count 132 = .ok (.getfield 227, 3) := by decide +kernel
theorem dX12_count_135 : decode cX12_count 135 = .ok (.ireturn, 1) := by decide +kernel
theorem dX12_add_0 : decode cX12_add 0 = .ok (.lload_n 0, 1) := by decide +kernel
theorem dX12_add_1 : decode cX12_add 1 = .ok (.ldc2_w 282, 3) := by decide +kernel
theorem dX12_add_4 : decode cX12_add 4 = .ok (.lmul, 1) := by decide +kernel
theorem dX12_add_5 : decode cX12_add 5 = .ok (.lload_n 2, 1) := by decide +kernel
theorem dX12_add_6 : decode cX12_add 6 = .ok (.ladd, 1) := by decide +kernel
theorem dX12_add_7 : decode cX12_add 7 = .ok (.lreturn, 1) := by decide +kernel
theorem dX12_many_0 : decode cX12_many 0 = .ok (.aload_n 0, 1) := by decide +kernel
theorem dX12_many_1 : decode cX12_many 1 = .ok (.iload_n 1, 1) := by decide +kernel
theorem dX12_many_2 : decode cX12_many 2 = .ok (.iconst 0, 1) := by decide +kernel
theorem dX12_many_3 : decode cX12_many 3 = .ok (.bipush 10, 2) := by decide +kernel
theorem dX12_many_5 : decode cX12_many 5 = .ok (.invokestatic 34, 3) := by decide +kernel
theorem dX12_many_8 : decode cX12_many 8 = .ok (.ifCond .ne 7, 3) := by decide +kernel
theorem dX12_many_15 : decode cX12_many 15 = .ok (.iconst 0, 1) := by decide +kernel
theorem dX12_many_16 : decode cX12_many 16 = .ok (.iconst 1, 1) := by decide +kernel
theorem dX12_many_17 : decode cX12_many 17 = .ok (.invokevirtual 50, 3) := by decide +kernel
theorem dX12_many_20 : decode cX12_many 20 = .ok (.ifCond .eq 7, 3) := by decide +kernel
theorem dX12_many_27 : decode cX12_many 27 = .ok (.aload_n 0, 1) := by decide +kernel
theorem dX12_many_28 : decode cX12_many 28 = .ok (.iload_n 1, 1) := by decide +kernel
theorem dX12_many_29 : decode cX12_many 29 = .ok (.invokevirtual 252, 3) := by decide +kernel
theorem dX12_many_32 : decode cX12_many 32 = .ok (.ireturn, 1) := by decide +kernel
theorem dX12_many_11 : decode cX12_many 11 = .ok (.iconst 1, 1) := by decide +kernel
theorem dX12_many_12 : decode cX12_many 12 = .ok (.goto 4, 3) := by decide +kernel
theorem dX12_many_23 : decode cX12_many 23 = .ok (.iconst 0, 1) := by decide +kernel
theorem dX12_many_24 : decode cX12_many 24 = .ok (.goto 8, 3) := by decide +kernel
theorem dX12_pass_0 : decode cX12_pass 0 = .ok (.aload_n 0, 1) := by decide +kernel
theorem dX12_pass_1 : decode cX12_pass 1 = .ok (.iload_n 1, 1) := by decide +kernel
theorem dX12_pass_2 : decode cX12_pass 2 = .ok (.iconst 1, 1) := by decide +kernel
theorem dX12_pass_3 : decode cX12_pass 3 = .ok (.bipush 100, 2) := by decide +kernel
theorem dX12_pass_5 : decode cX12_pass 5 = .ok (.invokestatic 34, 3) := by decide +kernel
theorem dX12_pass_8 : decode cX12_pass 8 = .ok (.ifCond .ne 7, 3) := by decide +kernel
theorem dX12_pass_11 : decode cX12_pass 11 = .ok (.iconst 1, 1) := by decide +kernel
theorem dX12_pass_12 : decode cX12_pass 12 = .ok (.goto 4, 3) := by decide +kernel
theorem dX12_pass_16 : decode cX12_pass 16 = .ok (.iconst 1, 1) := by decide +kernel
theorem dX12_pass_17 : decode cX12_pass 17 = .ok (.invokevirtual 50, 3) := by decide +kernel
theorem dX12_pass_20 : decode cX12_pass 20 = .ok (.ifCond .eq 5, 3) := by decide +kernel
theorem dX12_pass_23 : decode cX12_pass 23 = .ok (.iconst 0, 1) := by decide +kernel
theorem dX12_pass_24 : decode cX12_pass 24 = .ok (.ireturn, 1) := by decide +kernel
theorem dX10_begin_0 : decode cX10_begin 0 = .ok (.aload_n 0, 1) := by decide +kernel
theorem dX10_begin_1 : decode cX10_begin 1 = .ok (.dup, 1) := by decide +kernel
theorem dX10_begin_2 : decode cX10_begin 2 = .ok (.getfield 50, 3) := by decide +kernel
theorem dX10_begin_5 : decode cX10_begin 5 = .ok (.iconst 1, 1) := by decide +kernel
theorem dX10_begin_6 : decode cX10_begin 6 = .ok (.iadd, 1) := by decide +kernel
theorem dX10_begin_7 : decode cX10_begin 7 = .ok (.putfield 50, 3) := by decide +kernel
theorem dX10_begin_10 : decode cX10_begin 10 = .ok (.iconst 0, 1) := by decide +kernel
theorem dX10_begin_11 : decode cX10_begin 11 = .ok (.istore_n 1, 1) := by decide +kernel
theorem dX10_begin_12 : decode cX10_begin 12 = .ok (.iconst 0, 1) := by decide +kernel
theorem dX10_begin_13 : decode cX10_begin 13 = .ok (.istore_n 2, 1) := by decide +kernel
theorem dX10_begin_14 : decode cX10_begin 14 = .ok (.iload_n 2, 1) := by decide +kernel
theorem dX10_begin_15 : decode cX10_begin 15 = .ok (.aload_n 0, 1) := by decide +kernel
theorem dX10_begin_16 : decode cX10_begin 16 = .ok (.getfield 12, 3) := by decide +kernel
theorem dX10_begin_19 : decode cX10_begin 19 = .ok (.invokevirtual 28, 3) := by decide +kernel
theorem dX10_begin_22 : decode cX10_begin 22 = .ok (.if_icmp .ge 44, 3) := by decide +kernel
theorem dX10_begin_66 : decode cX10_begin 66 = .ok (.iload_n 1, 1) := by decide +kernel
theorem dX10_begin_67 : decode cX10_begin 67 = .ok (.ireturn, 1) := by decide +kernel
theorem dX12_pass_29 : decode cX12_pass 29 = .ok (.iload_n 3, 1) := by decide +kernel
theorem dX12_pass_30 : decode cX12_pass 30 = .ok (.iload_n 1, 1) := by decide +kernel
theorem dX12_pass_31 : decode cX12_pass 31 = .ok (.if_icmp .ge 19, 3) := by decide +kernel
theorem dX12_pass_50 : decode cX12_pass 50 = .ok (.iload_n 2, 1) := by decide +kernel
theorem dX12_pass_51 : decode cX12_pass 51 = .ok (.ireturn, 1) := by decide +kernel
theorem dX12_pass_34 : decode cX12_pass 34 = .ok (.iload_n 2, 1) := by decide +kernel
theorem dX12_pass_35 : decode cX12_pass 35 = .ok (.aload_n 0, 1) := by decide +kernel
theorem dX12_pass_36 : decode cX12_pass 36 = .ok (.getfield 10, 3) := by decide +kernel
theorem dX12_pass_39 : decode cX12_pass 39 = .ok (.invokevirtual 210, 3) := by decide +kernel
theorem dX12_pass_42 : decode cX12_pass 42 = .ok (.iadd, 1) := by decide +kernel
theorem dX12_pass_43 : decode cX12_pass 43 = .ok (.istore_n 2, 1) := by decide +kernel
theorem dX12_pass_44 : decode cX12_pass 44 = .ok (.iinc 3 1, 3) := by decide +kernel
theorem dX12_pass_47 : decode cX12_pass 47 = .ok (.goto (-18), 3) := by decide +kernel
theorem dX12_pass_15 : decode cX12_pass 15 = .ok (.iconst 0, 1) := by decide +kernel
theorem dX12_pass_25 : decode cX12_pass 25 = .ok (.iconst 0, 1) := by decide +kernel
theorem dX12_pass_26 : decode cX12_pass 26 = .ok (.istore_n 2, 1) := by decide +kernel
theorem dX12_pass_27 : decode cX12_pass 27 = .ok (.iconst 0, 1) := by decide +kernel
theorem dX12_pass_28 : decode cX12_pass 28 = .ok (.istore_n 3, 1) := by decide +kernel
theorem dX12_servedShare_0 : decode cX12_servedShare 0 = .ok (.aload_n 0, 1) := by decide +kernel
theorem dX12_servedShare_1 : decode cX12_servedShare 1 = .ok (.iconst 0, 1) := by decide +kernel
theorem dX12_servedShare_2 : decode cX12_servedShare 2 = .ok (.putfield 16, 3) := by decide +kernel
theorem dX12_servedShare_5 : decode cX12_servedShare 5 = .ok (.aload_n 0, 1) := by decide +kernel
theorem dX12_servedShare_6 : decode cX12_servedShare 6 = .ok (.getfield 10, 3) := by decide +kernel
theorem dX12_servedShare_9 : decode cX12_servedShare 9 = .ok (.getfield 105, 3) := by decide +kernel
theorem dX12_servedShare_12 : decode cX12_servedShare 12 = .ok (.invokevirtual 255, 3) := by decide +kernel
theorem dX12_servedShare_15 : decode cX12_servedShare 15 = .ok (.ifCond .eq 7, 3) := by decide +kernel
theorem dX12_servedShare_18 : decode cX12_servedShare 18 = .ok (.dconst 1, 1) := by decide +kernel
theorem dX12_servedShare_19 : decode cX12_servedShare 19 = .ok (.goto 22, 3) := by decide +kernel
theorem dX12_servedShare_41 : decode cX12_servedShare 41 = .ok (.dreturn, 1) := by decide +kernel
theorem dX12_digest_11 : decode cX12_digest 11 = .ok (.iload_n 3, 1) := by decide +kernel
theorem dX12_digest_12 : decode cX12_digest 12 = .ok (.bipush 11, 2) := by decide +kernel
theorem dX12_digest_14 : decode cX12_digest 14 = .ok (.if_icmp .ge 20, 3) := by decide +kernel
theorem dX12_digest_34 : decode cX12_digest 34 = .ok (.iconst 0, 1) := by decide +kernel
theorem dX12_digest_35 : decode cX12_digest 35 = .ok (.istore_n 3, 1) := by decide +kernel
theorem dX12_digest_36 : decode cX12_digest 36 = .ok (.iload_n 3, 1) := by decide +kernel
theorem dX12_digest_37 : decode cX12_digest 37 = .ok (.aload_n 0, 1) := by decide +kernel
theorem dX12_digest_38 : decode cX12_digest 38 = .ok (.getfield 10, 3) := by decide +kernel
theorem dX12_digest_41 : decode cX12_digest 41 = .ok (.getfield 24, 3) := by decide +kernel
theorem dX12_digest_44 : decode cX12_digest 44 = .ok (.invokevirtual 28, 3) := by decide +kernel
theorem dX12_digest_47 : decode cX12_digest 47 = .ok (.if_icmp .ge 114, 3) := by decide +kernel
theorem dX12_digest_161 : decode cX12_digest 161 = .ok (.iconst 0, 1) := by decide +kernel
theorem dX12_digest_162 : decode cX12_digest 162 = .ok (.istore_n 3, 1) := by decide +kernel
theorem dX12_digest_163 : decode cX12_digest 163 = .ok (.iload_n 3, 1) := by decide +kernel
theorem dX12_digest_164 : decode cX12_digest 164 = .ok (.aload_n 0, 1) := by decide +kernel
theorem dX12_digest_165 : decode cX12_digest 165 = .ok (.getfield 10, 3) := by decide +kernel
theorem dX12_digest_168 : decode cX12_digest 168 = .ok (.getfield 53, 3) := by decide +kernel
theorem dX12_digest_171 : decode cX12_digest 171 = .ok (.invokevirtual 28, 3) := by decide +kernel
theorem dX12_digest_174 : decode cX12_digest 174 = .ok (.if_icmp .ge 188, 3) := by decide +kernel
theorem dX12_digest_362 : decode cX12_digest 362 = .ok (.lload_n 1, 1) := by decide +kernel
theorem dX12_digest_363 : decode cX12_digest 363 = .ok (.lreturn, 1) := by decide +kernel
theorem dX12_digest_17 : decode cX12_digest 17 = .ok (.lload_n 1, 1) := by decide +kernel
theorem dX12_digest_18 : decode cX12_digest 18 = .ok (.aload_n 0, 1) := by decide +kernel
theorem dX12_digest_19 : decode cX12_digest 19 = .ok (.iload_n 3, 1) := by decide +kernel
theorem dX12_digest_20 : decode cX12_digest 20 = .ok (.invokevirtual 252, 3) := by decide +kernel
theorem dX12_digest_23 : decode cX12_digest 23 = .ok (.i2l, 1) := by decide +kernel
theorem dX12_digest_24 : decode cX12_digest 24 = .ok (.invokestatic 286, 3) := by decide +kernel
theorem dX12_digest_27 : decode cX12_digest 27 = .ok (.lstore_n 1, 1) := by decide +kernel
theorem dX12_digest_28 : decode cX12_digest 28 = .ok (.iinc 3 1, 3) := by decide +kernel
theorem dX12_digest_31 : decode cX12_digest 31 = .ok (.goto (-20), 3) := by decide +kernel
theorem dX12_digest_0 : decode cX12_digest 0 = .ok (.aload_n 0, 1) := by decide +kernel
theorem dX12_digest_1 : decode cX12_digest 1 = .ok (.iconst 0, 1) := by decide +kernel
theorem dX12_digest_2 : decode cX12_digest 2 = .ok (.putfield 16, 3) := by decide +kernel
theorem dX12_digest_5 : decode cX12_digest 5 = .ok (.ldc2_w 284, 3) := by decide +kernel
theorem dX12_digest_8 : decode cX12_digest 8 = .ok (.lstore_n 1, 1) := by decide +kernel
theorem dX12_digest_9 : decode cX12_digest 9 = .ok (.iconst 0, 1) := by decide +kernel
theorem dX12_digest_10 : decode cX12_digest 10 = .ok (.istore_n 3, 1) := by decide +kernel
theorem dX12_open_0 : decode cX12_open 0 = .ok (.aload_n 0, 1) := by decide +kernel
theorem dX12_open_1 : decode cX12_open 1 = .ok (.aload_n 0, 1) := by decide +kernel
theorem dX12_open_2 : decode cX12_open 2 = .ok (.getfield 10, 3) := by decide +kernel
theorem dX12_open_5 : decode cX12_open 5 = .ok (.getfield 24, 3) := by decide +kernel
theorem dX12_open_8 : decode cX12_open 8 = .ok (.invokevirtual 28, 3) := by decide +kernel
theorem dX12_open_11 : decode cX12_open 11 = .ok (.iconst 4, 1) := by decide +kernel
theorem dX12_open_12 : decode cX12_open 12 = .ok (.if_icmp .ne 7, 3) := by decide +kernel
theorem dX12_open_19 : decode cX12_open 19 = .ok (.iconst 0, 1) := by decide +kernel
theorem dX12_open_20 : decode cX12_open 20 = .ok (.iconst 1, 1) := by decide +kernel
theorem dX12_open_21 : decode cX12_open 21 = .ok (.invokevirtual 50, 3) := by decide +kernel
theorem dX12_open_24 : decode cX12_open 24 = .ok (.ifCond .eq 5, 3) := by decide +kernel
theorem dX12_open_29 : decode cX12_open 29 = .ok (.aload_n 0, 1) := by decide +kernel
theorem dX12_open_30 : decode cX12_open 30 = .ok (.getfield 10, 3) := by decide +kernel
theorem dX12_open_33 : decode cX12_open 33 = .ok (.getfield 24, 3) := by decide +kernel
theorem dX12_open_36 : decode cX12_open 36 = .ok (.new 29, 3) := by decide +kernel
theorem dX12_open_39 : decode cX12_open 39 = .ok (.dup, 1) := by decide +kernel
theorem dX12_open_40 : decode cX12_open 40 = .ok (.invokespecial 71, 3) := by decide +kernel
theorem dX12_open_43 : decode cX12_open 43 = .ok (.invokevirtual 72, 3) := by decide +kernel
theorem dX12_open_46 : decode cX12_open 46 = .ok (.pop, 1) := by decide +kernel
theorem dX12_open_47 : decode cX12_open 47 = .ok (.aload_n 0, 1) := by decide +kernel
theorem dX12_open_48 : decode cX12_open 48 = .ok (.getfield 10, 3) := by decide +kernel
theorem dX12_open_51 : decode cX12_open 51 = .ok (.getfield 24, 3) := by decide +kernel
theorem dX12_open_54 : decode cX12_open 54 = .ok (.invokevirtual 28, 3) := by decide +kernel
theorem dX12_open_57 : decode cX12_open 57 = .ok (.iconst 1, 1) := by decide +kernel
theorem dX12_open_58 : decode cX12_open 58 = .ok (.isub, 1) := by decide +kernel
theorem dX12_open_59 : decode cX12_open 59 = .ok (.ireturn, 1) := by decide +kernel
theorem dX10_init_0 : decode cX10_init 0 = .ok (.aload_n 0, 1) := by decide +kernel
theorem dX10_init_1 : decode cX10_init 1 = .ok (.invokespecial 3, 3) := by decide +kernel
theorem dX10_init_4 : decode cX10_init 4 = .ok (.aload_n 0, 1) := by decide +kernel
theorem dX10_init_5 : decode cX10_init 5 = .ok (.new 9, 3) := by decide +kernel
theorem dX10_init_8 : decode cX10_init 8 = .ok (.dup, 1) := by decide +kernel
theorem dX10_init_9 : decode cX10_init 9 = .ok (.invokespecial 11, 3) := by decide +kernel
theorem dX10_init_12 : decode cX10_init 12 = .ok (.putfield 12, 3) := by decide +kernel
theorem dX10_init_15 : decode cX10_init 15 = .ok (.aload_n 0, 1) := by decide +kernel
theorem dX10_init_16 : decode cX10_init 16 = .ok (.new 9, 3) := by decide +kernel
theorem dX10_init_19 : decode cX10_init 19 = .ok (.dup, 1) := by decide +kernel
theorem dX10_init_20 : decode cX10_init 20 = .ok (.invokespecial 11, 3) := by decide +kernel
theorem dX10_init_23 : decode cX10_init 23 = .ok (.putfield 18, 3) := by decide +kernel
theorem dX10_init_26 : decode cX10_init 26 = .ok (.aload_n 0, 1) := by decide +kernel
theorem dX10_init_27 : decode cX10_init 27 = .ok (.new 9, 3) := by decide +kernel
theorem dX10_init_30 : decode cX10_init 30 = .ok (.dup, 1) := by decide +kernel
theorem dX10_init_31 : decode cX10_init 31 = .ok (.invokespecial 11, 3) := by decide +kernel
theorem dX10_init_34 : decode cX10_init 34 = .ok (.putfield 21, 3) := by decide +kernel
theorem dX10_init_37 : decode cX10_init 37 = .ok (.aload_n 0, 1) := by decide +kernel
theorem dX10_init_38 : decode cX10_init 38 = .ok (.new 9, 3) := by decide +kernel
theorem dX10_init_41 : decode cX10_init 41 = .ok (.dup, 1) := by decide +kernel
theorem dX10_init_42 : decode cX10_init 42 = .ok (.invokespecial 11, 3) := by decide +kernel
theorem dX10_init_45 : decode cX10_init 45 = .ok (.putfield 24, 3) := by decide +kernel
theorem dX10_init_48 : decode cX10_init 48 = .ok (.return_, 1) := by decide +kernel
theorem dX12_init_0 : decode cX12_init 0 = .ok (.aload_n 0, 1) := by decide +kernel
theorem dX12_init_1 : decode cX12_init 1 = .ok (.invokespecial 1, 3) := by decide +kernel
theorem dX12_init_4 : decode cX12_init 4 = .ok (.aload_n 0, 1) := by decide +kernel
theorem dX12_init_5 : decode cX12_init 5 = .ok (.new 7, 3) := by decide +kernel
theorem dX12_init_8 : decode cX12_init 8 = .ok (.dup, 1) := by decide +kernel
theorem dX12_init_9 : decode cX12_init 9 = .ok (.invokespecial 9, 3) := by decide +kernel
theorem dX12_init_12 : decode cX12_init 12 = .ok (.putfield 10, 3) := by decide +kernel
theorem dX12_init_15 : decode cX12_init 15 = .ok (.return_, 1) := by decide +kernel
/-! ===== the reference: the first call that a new registry answers ===== -/
section MD2
variable {l : Launch} {D : va_G} {dA : Nat → ClassId} {B : Nat} {w : xW} {mo re fa cl ad ca : Nat} {t n : Int32}
set_option maxRecDepth 100000 in
set_option maxHeartbeats 4000000 in
theorem m_versionsIn (hM : MR w (dA 99) mo re fa cl ad ca t n) (x : Int32) : x_Ci l D dA vwC1 tyL1 B yX12_versionsIn wX12_versionsIn (rmd 3 1 4) [.ref mo, .int x] w (fun v w1 => v = .int 0 ∧ w1 = w) 1 4 := by
  refine x_Ct.of (cc := cX12_versionsIn) (maxL := 7) (by decide) rfl (Nat.le_of_ble_eq_true rfl) ?_
  intro p e s m below meth c F
  refine x_iconst (v := 0) F dX12_versionsIn_0 (by decide) ?_
  refine x_istore_n F dX12_versionsIn_1 rfl (by decide) ?_
  refine x_aload_n F dX12_versionsIn_2 rfl rfl ?_
  refine x_get (ci := 7) (C := RX12) (T := TX12) (N := 2) (k := 1) F dX12_versionsIn_3 rfl inX12 (by decide) q386 rfl hM.1 rfl ?_
  refine x_get (ci := 6) (C := RX10) (T := TX10) (N := 5) (k := 0) F dX12_versionsIn_6 rfl inX10 (by decide) q371 rfl hM.2.1 rfl ?_
  refine x_cVi0 (ci := 1) (C := RJx4a65c) (T := TJx4a65c) (N := 3) F dX12_versionsIn_9 (x_gV q451 q452 q453 q9 q454) rfl (c_iter hM.2.2.1) ⟨rfl, rfl, rfl, xd_Jx4a65c_iterator_32c93, ⟨Nat.le_of_ble_eq_true rfl, Nat.le_of_ble_eq_true rfl⟩, Nat.le_of_ble_eq_true rfl, Nat.le_of_ble_eq_true rfl⟩ rfl hM.2.2.1 (Nat.le_of_ble_eq_true rfl) (fun v1 w1 hp => ?_)
  obtain ⟨it, hit, rfl, hw9⟩ := hp
  have h_it : w1 it = some (.inr (0, [.int 0, .int (-1), .int 0, .ref fa])) := by rw [hw9]; exact x_set_eq _ _ _
  have h_l : w1 fa = some (oE (dA 99)) := by rw [hw9, x_set_ne _ _ (w_neN hM.2.2.1 hit)]; exact hM.2.2.1
  refine x_astore_n F dX12_versionsIn_12 rfl (by decide) ?_
  refine x_aload_n F dX12_versionsIn_13 rfl rfl ?_
  refine x_callF (ci := 0) (C := RJx35411) (T := TJx35411) (N := 4) F dX12_versionsIn_14 (x_gF q469 q470 q471 q24 q472) (xfw (x_Fix.xt F)) (c_hasNext h_it h_l) rfl rfl rfl xd_It ⟨Nat.le_of_ble_eq_true rfl, Nat.le_of_ble_eq_true rfl⟩ ⟨Nat.le_of_ble_eq_true rfl, Nat.le_of_ble_eq_true rfl⟩ rfl h_it (Nat.le_of_ble_eq_true rfl) (fun v1 w1 hp => ?_)
  obtain ⟨rfl, hw8⟩ := hp
  replace hw8 := hw8.symm
  subst hw8
  refine x_if_eq F dX12_versionsIn_19 rfl (fun _ => ?_) (fun hc => absurd hc (by decide))
  refine x_iload_n F dX12_versionsIn_89 rfl rfl ?_
  refine x_forget (w2 := w) (x_less hit hw9) ?_
  refine x_iret F rfl rfl dX12_versionsIn_90 (Nat.le_of_ble_eq_true rfl) (Nat.le_of_ble_eq_true rfl) ?_
  exact ⟨_, rfl, rfl, rfl⟩
set_option maxRecDepth 100000 in
set_option maxHeartbeats 4000000 in
theorem m_callsThat (hM : MR w (dA 99) mo re fa cl ad ca t n) (x y : Int32) : x_Ci l D dA vwC1 tyL1 B yX12_callsThat wX12_callsThat (rmd 3 1 4) [.ref mo, .int x, .int y] w (fun v w1 => v = .int 0 ∧ w1 = w) 1 4 := by
  refine x_Ct.of (cc := cX12_callsThat) (maxL := 6) (by decide) rfl (Nat.le_of_ble_eq_true rfl) ?_
  intro p e s m below meth c F
  refine x_iconst (v := 0) F dX12_callsThat_0 (by decide) ?_
  refine x_istore_n F dX12_callsThat_1 rfl (by decide) ?_
  refine x_aload_n F dX12_callsThat_2 rfl rfl ?_
  refine x_get (ci := 7) (C := RX12) (T := TX12) (N := 2) (k := 1) F dX12_callsThat_3 rfl inX12 (by decide) q386 rfl hM.1 rfl ?_
  refine x_get (ci := 6) (C := RX10) (T := TX10) (N := 5) (k := 3) F dX12_callsThat_6 rfl inX10 (by decide) q377 rfl hM.2.1 rfl ?_
  refine x_cVi0 (ci := 1) (C := RJx4a65c) (T := TJx4a65c) (N := 3) F dX12_callsThat_9 (x_gV q451 q452 q453 q9 q454) rfl (c_iter hM.2.2.2.2.2) ⟨rfl, rfl, rfl, xd_Jx4a65c_iterator_32c93, ⟨Nat.le_of_ble_eq_true rfl, Nat.le_of_ble_eq_true rfl⟩, Nat.le_of_ble_eq_true rfl, Nat.le_of_ble_eq_true rfl⟩ rfl hM.2.2.2.2.2 (Nat.le_of_ble_eq_true rfl) (fun v1 w1 hp => ?_)
  obtain ⟨it, hit, rfl, hw9⟩ := hp
  have h_it : w1 it = some (.inr (0, [.int 0, .int (-1), .int 0, .ref ca])) := by rw [hw9]; exact x_set_eq _ _ _
  have h_l : w1 ca = some (oE (dA 99)) := by rw [hw9, x_set_ne _ _ (w_neN hM.2.2.2.2.2 hit)]; exact hM.2.2.2.2.2
  refine x_astore F dX12_callsThat_12 (by decide) ?_
  refine x_aload F dX12_callsThat_14 rfl ?_
  refine x_callF (ci := 0) (C := RJx35411) (T := TJx35411) (N := 4) F dX12_callsThat_16 (x_gF q469 q470 q471 q24 q472) (xfw (x_Fix.xt F)) (c_hasNext h_it h_l) rfl rfl rfl xd_It ⟨Nat.le_of_ble_eq_true rfl, Nat.le_of_ble_eq_true rfl⟩ ⟨Nat.le_of_ble_eq_true rfl, Nat.le_of_ble_eq_true rfl⟩ rfl h_it (Nat.le_of_ble_eq_true rfl) (fun v1 w1 hp => ?_)
  obtain ⟨rfl, hw8⟩ := hp
  replace hw8 := hw8.symm
  subst hw8
  refine x_if_eq F dX12_callsThat_21 rfl (fun _ => ?_) (fun hc => absurd hc (by decide))
  refine x_iload_n F dX12_callsThat_60 rfl rfl ?_
  refine x_forget (w2 := w) (x_less hit hw9) ?_
  refine x_iret F rfl rfl dX12_callsThat_61 (Nat.le_of_ble_eq_true rfl) (Nat.le_of_ble_eq_true rfl) ?_
  exact ⟨_, rfl, rfl, rfl⟩
set_option maxRecDepth 100000 in
set_option maxHeartbeats 4000000 in
theorem m_count (hM : MR w (dA 99) mo re fa cl ad ca t 0) {k : Nat} (ht : k ≤ 10) : x_Ci l D dA vwC1 tyL1 B yX12_count wX12_count (rmd 4 1 4) [.ref mo, .int (nI k)] w (fun v w1 => v = .int 0 ∧ w1 = w) 1 4 := by
  refine x_Ct.of (cc := cX12_count) (maxL := 2) (by decide) rfl (Nat.le_of_ble_eq_true rfl) ?_
  intro p e s m below meth c F
  rcases le10 ht with rfl | rfl | rfl | rfl | rfl | rfl | rfl | rfl | rfl | rfl | rfl
  · refine x_iload_n F dX12_count_0 rfl rfl ?_
    refine x_tableIn (off := 55) (tgt := 56) F dX12_count_1 (by decide) (by decide) rfl rfl ?_
    refine x_aload_n F dX12_count_56 rfl rfl ?_
    refine x_get (ci := 7) (C := RX12) (T := TX12) (N := 2) (k := 1) F dX12_count_57 rfl inX12 (by decide) q386 rfl hM.1 rfl ?_
    refine x_get (ci := 6) (C := RX10) (T := TX10) (N := 5) (k := 0) F dX12_count_60 rfl inX10 (by decide) q371 rfl hM.2.1 rfl ?_
    refine x_cVi0 (ci := 1) (C := RJx4a65c) (T := TJx4a65c) (N := 3) F dX12_count_63 (x_gV q397 q398 q399 q9 q400) rfl (c_size hM.2.2.1) ⟨rfl, rfl, rfl, xd_Jx4a65c_size_8abf5, ⟨Nat.le_of_ble_eq_true rfl, Nat.le_of_ble_eq_true rfl⟩, Nat.le_of_ble_eq_true rfl, Nat.le_of_ble_eq_true rfl⟩ rfl hM.2.2.1 (Nat.le_of_ble_eq_true rfl) (fun v1 w1 hp => ?_)
    obtain ⟨rfl, hw9⟩ := hp
    replace hw9 := hw9.symm
    subst hw9
    refine x_iret F rfl rfl dX12_count_66 (Nat.le_of_ble_eq_true rfl) (Nat.le_of_ble_eq_true rfl) ?_
    exact ⟨_, rfl, rfl, rfl⟩
  · refine x_iload_n F dX12_count_0 rfl rfl ?_
    refine x_tableIn (off := 66) (tgt := 67) F dX12_count_1 (by decide) (by decide) rfl rfl ?_
    refine x_aload_n F dX12_count_67 rfl rfl ?_
    refine x_iconst (v := (-1)) F dX12_count_68 (by decide) ?_
    refine x_cVi1 (ci := 7) (C := RX12) (T := TX12) (N := 2) F dX12_count_69 (x_gV q588 q589 q653 q5 q590) rfl (m_versionsIn hM _) ⟨rfl, rfl, rfl, xd_X12_versionsIn, ⟨Nat.le_of_ble_eq_true rfl, Nat.le_of_ble_eq_true rfl⟩, Nat.le_of_ble_eq_true rfl, Nat.le_of_ble_eq_true rfl⟩ rfl hM.1 (Nat.le_of_ble_eq_true rfl) (fun v1 w1 hp => ?_)
    obtain ⟨rfl, hw9⟩ := hp
    replace hw9 := hw9.symm
    subst hw9
    refine x_iret F rfl rfl dX12_count_72 (Nat.le_of_ble_eq_true rfl) (Nat.le_of_ble_eq_true rfl) ?_
    exact ⟨_, rfl, rfl, rfl⟩
  · refine x_iload_n F dX12_count_0 rfl rfl ?_
    refine x_tableIn (off := 72) (tgt := 73) F dX12_count_1 (by decide) (by decide) rfl rfl ?_
    refine x_aload_n F dX12_count_73 rfl rfl ?_
    refine x_iload_n F dX12_count_74 rfl rfl ?_
    refine x_iconst (v := 2) F dX12_count_75 (by decide) ?_
    refine x_isub F dX12_count_76 ?_
    refine x_cVi1 (ci := 7) (C := RX12) (T := TX12) (N := 2) F dX12_count_77 (x_gV q588 q589 q653 q5 q590) rfl (m_versionsIn hM _) ⟨rfl, rfl, rfl, xd_X12_versionsIn, ⟨Nat.le_of_ble_eq_true rfl, Nat.le_of_ble_eq_true rfl⟩, Nat.le_of_ble_eq_true rfl, Nat.le_of_ble_eq_true rfl⟩ rfl hM.1 (Nat.le_of_ble_eq_true rfl) (fun v1 w1 hp => ?_)
    obtain ⟨rfl, hw9⟩ := hp
    replace hw9 := hw9.symm
    subst hw9
    refine x_iret F rfl rfl dX12_count_80 (Nat.le_of_ble_eq_true rfl) (Nat.le_of_ble_eq_true rfl) ?_
    exact ⟨_, rfl, rfl, rfl⟩
  · refine x_iload_n F dX12_count_0 rfl rfl ?_
    refine x_tableIn (off := 72) (tgt := 73) F dX12_count_1 (by decide) (by decide) rfl rfl ?_
    refine x_aload_n F dX12_count_73 rfl rfl ?_
    refine x_iload_n F dX12_count_74 rfl rfl ?_
    refine x_iconst (v := 2) F dX12_count_75 (by decide) ?_
    refine x_isub F dX12_count_76 ?_
    refine x_cVi1 (ci := 7) (C := RX12) (T := TX12) (N := 2) F dX12_count_77 (x_gV q588 q589 q653 q5 q590) rfl (m_versionsIn hM _) ⟨rfl, rfl, rfl, xd_X12_versionsIn, ⟨Nat.le_of_ble_eq_true rfl, Nat.le_of_ble_eq_true rfl⟩, Nat.le_of_ble_eq_true rfl, Nat.le_of_ble_eq_true rfl⟩ rfl hM.1 (Nat.le_of_ble_eq_true rfl) (fun v1 w1 hp => ?_)
    obtain ⟨rfl, hw9⟩ := hp
    replace hw9 := hw9.symm
    subst hw9
    refine x_iret F rfl rfl dX12_count_80 (Nat.le_of_ble_eq_true rfl) (Nat.le_of_ble_eq_true rfl) ?_
    exact ⟨_, rfl, rfl, rfl⟩
  · refine x_iload_n F dX12_count_0 rfl rfl ?_
    refine x_tableIn (off := 72) (tgt := 73) F dX12_count_1 (by decide) (by decide) rfl rfl ?_
    refine x_aload_n F dX12_count_73 rfl rfl ?_
    refine x_iload_n F dX12_count_74 rfl rfl ?_
    refine x_iconst (v := 2) F dX12_count_75 (by decide) ?_
    refine x_isub F dX12_count_76 ?_
    refine x_cVi1 (ci := 7) (C := RX12) (T := TX12) (N := 2) F dX12_count_77 (x_gV q588 q589 q653 q5 q590) rfl (m_versionsIn hM _) ⟨rfl, rfl, rfl, xd_X12_versionsIn, ⟨Nat.le_of_ble_eq_true rfl, Nat.le_of_ble_eq_true rfl⟩, Nat.le_of_ble_eq_true rfl, Nat.le_of_ble_eq_true rfl⟩ rfl hM.1 (Nat.le_of_ble_eq_true rfl) (fun v1 w1 hp => ?_)
    obtain ⟨rfl, hw9⟩ := hp
    replace hw9 := hw9.symm
    subst hw9
    refine x_iret F rfl rfl dX12_count_80 (Nat.le_of_ble_eq_true rfl) (Nat.le_of_ble_eq_true rfl) ?_
    exact ⟨_, rfl, rfl, rfl⟩
  · refine x_iload_n F dX12_count_0 rfl rfl ?_
    refine x_tableIn (off := 80) (tgt := 81) F dX12_count_1 (by decide) (by decide) rfl rfl ?_
    refine x_aload_n F dX12_count_81 rfl rfl ?_
    refine x_get (ci := 7) (C := RX12) (T := TX12) (N := 2) (k := 1) F dX12_count_82 rfl inX12 (by decide) q386 rfl hM.1 rfl ?_
    refine x_get (ci := 6) (C := RX10) (T := TX10) (N := 5) (k := 1) F dX12_count_85 rfl inX10 (by decide) q373 rfl hM.2.1 rfl ?_
    refine x_cVi0 (ci := 1) (C := RJx4a65c) (T := TJx4a65c) (N := 3) F dX12_count_88 (x_gV q397 q398 q399 q9 q400) rfl (c_size hM.2.2.2.1) ⟨rfl, rfl, rfl, xd_Jx4a65c_size_8abf5, ⟨Nat.le_of_ble_eq_true rfl, Nat.le_of_ble_eq_true rfl⟩, Nat.le_of_ble_eq_true rfl, Nat.le_of_ble_eq_true rfl⟩ rfl hM.2.2.2.1 (Nat.le_of_ble_eq_true rfl) (fun v1 w1 hp => ?_)
    obtain ⟨rfl, hw9⟩ := hp
    replace hw9 := hw9.symm
    subst hw9
    refine x_iret F rfl rfl dX12_count_91 (Nat.le_of_ble_eq_true rfl) (Nat.le_of_ble_eq_true rfl) ?_
    exact ⟨_, rfl, rfl, rfl⟩
  · refine x_iload_n F dX12_count_0 rfl rfl ?_
    refine x_tableIn (off := 91) (tgt := 92) F dX12_count_1 (by decide) (by decide) rfl rfl ?_
    refine x_aload_n F dX12_count_92 rfl rfl ?_
    refine x_get (ci := 7) (C := RX12) (T := TX12) (N := 2) (k := 1) F dX12_count_93 rfl inX12 (by decide) q386 rfl hM.1 rfl ?_
    refine x_get (ci := 6) (C := RX10) (T := TX10) (N := 5) (k := 2) F dX12_count_96 rfl inX10 (by decide) q375 rfl hM.2.1 rfl ?_
    refine x_cVi0 (ci := 1) (C := RJx4a65c) (T := TJx4a65c) (N := 3) F dX12_count_99 (x_gV q397 q398 q399 q9 q400) rfl (c_size hM.2.2.2.2.1) ⟨rfl, rfl, rfl, xd_Jx4a65c_size_8abf5, ⟨Nat.le_of_ble_eq_true rfl, Nat.le_of_ble_eq_true rfl⟩, Nat.le_of_ble_eq_true rfl, Nat.le_of_ble_eq_true rfl⟩ rfl hM.2.2.2.2.1 (Nat.le_of_ble_eq_true rfl) (fun v1 w1 hp => ?_)
    obtain ⟨rfl, hw9⟩ := hp
    replace hw9 := hw9.symm
    subst hw9
    refine x_iret F rfl rfl dX12_count_102 (Nat.le_of_ble_eq_true rfl) (Nat.le_of_ble_eq_true rfl) ?_
    exact ⟨_, rfl, rfl, rfl⟩
  · refine x_iload_n F dX12_count_0 rfl rfl ?_
    refine x_tableIn (off := 102) (tgt := 103) F dX12_count_1 (by decide) (by decide) rfl rfl ?_
    refine x_aload_n F dX12_count_103 rfl rfl ?_
    refine x_get (ci := 7) (C := RX12) (T := TX12) (N := 2) (k := 1) F dX12_count_104 rfl inX12 (by decide) q386 rfl hM.1 rfl ?_
    refine x_get (ci := 6) (C := RX10) (T := TX10) (N := 5) (k := 3) F dX12_count_107 rfl inX10 (by decide) q377 rfl hM.2.1 rfl ?_
    refine x_cVi0 (ci := 1) (C := RJx4a65c) (T := TJx4a65c) (N := 3) F dX12_count_110 (x_gV q397 q398 q399 q9 q400) rfl (c_size hM.2.2.2.2.2) ⟨rfl, rfl, rfl, xd_Jx4a65c_size_8abf5, ⟨Nat.le_of_ble_eq_true rfl, Nat.le_of_ble_eq_true rfl⟩, Nat.le_of_ble_eq_true rfl, Nat.le_of_ble_eq_true rfl⟩ rfl hM.2.2.2.2.2 (Nat.le_of_ble_eq_true rfl) (fun v1 w1 hp => ?_)
    obtain ⟨rfl, hw9⟩ := hp
    replace hw9 := hw9.symm
    subst hw9
    refine x_iret F rfl rfl dX12_count_113 (Nat.le_of_ble_eq_true rfl) (Nat.le_of_ble_eq_true rfl) ?_
    exact ⟨_, rfl, rfl, rfl⟩
  · refine x_iload_n F dX12_count_0 rfl rfl ?_
    refine x_tableIn (off := 113) (tgt := 114) F dX12_count_1 (by decide) (by decide) rfl rfl ?_
    refine x_aload_n F dX12_count_114 rfl rfl ?_
    refine x_iconst (v := 2) F dX12_count_115 (by decide) ?_
    refine x_iconst (v := 4) F dX12_count_116 (by decide) ?_
    refine x_cVi2 (ci := 7) (C := RX12) (T := TX12) (N := 2) F dX12_count_117 (x_gV q591 q592 q654 q5 q593) rfl (m_callsThat hM _ _) ⟨rfl, rfl, rfl, xd_X12_callsThat, ⟨Nat.le_of_ble_eq_true rfl, Nat.le_of_ble_eq_true rfl⟩, Nat.le_of_ble_eq_true rfl, Nat.le_of_ble_eq_true rfl⟩ rfl hM.1 (Nat.le_of_ble_eq_true rfl) (fun v1 w1 hp => ?_)
    obtain ⟨rfl, hw9⟩ := hp
    replace hw9 := hw9.symm
    subst hw9
    refine x_iret F rfl rfl dX12_count_120 (Nat.le_of_ble_eq_true rfl) (Nat.le_of_ble_eq_true rfl) ?_
    exact ⟨_, rfl, rfl, rfl⟩
  · refine x_iload_n F dX12_count_0 rfl rfl ?_
    refine x_tableIn (off := 120) (tgt := 121) F dX12_count_1 (by decide) (by decide) rfl rfl ?_
    refine x_aload_n F dX12_count_121 rfl rfl ?_
    refine x_iconst (v := 1) F dX12_count_122 (by decide) ?_
    refine x_iconst (v := 1) F dX12_count_123 (by decide) ?_
    refine x_cVi2 (ci := 7) (C := RX12) (T := TX12) (N := 2) F dX12_count_124 (x_gV q591 q592 q654 q5 q593) rfl (m_callsThat hM _ _) ⟨rfl, rfl, rfl, xd_X12_callsThat, ⟨Nat.le_of_ble_eq_true rfl, Nat.le_of_ble_eq_true rfl⟩, Nat.le_of_ble_eq_true rfl, Nat.le_of_ble_eq_true rfl⟩ rfl hM.1 (Nat.le_of_ble_eq_true rfl) (fun v1 w1 hp => ?_)
    obtain ⟨rfl, hw9⟩ := hp
    replace hw9 := hw9.symm
    subst hw9
    refine x_iret F rfl rfl dX12_count_127 (Nat.le_of_ble_eq_true rfl) (Nat.le_of_ble_eq_true rfl) ?_
    exact ⟨_, rfl, rfl, rfl⟩
  · refine x_iload_n F dX12_count_0 rfl rfl ?_
    refine x_tableOut (tgt := 128) F dX12_count_1 (by decide) rfl ?_
    refine x_aload_n F dX12_count_128 rfl rfl ?_
    refine x_get (ci := 7) (C := RX12) (T := TX12) (N := 2) (k := 1) F dX12_count_129 rfl inX12 (by decide) q386 rfl hM.1 rfl ?_
    refine x_get (ci := 6) (C := RX10) (T := TX10) (N := 5) (k := 4) F dX12_count_132 rfl inX10 (by decide) q379 rfl hM.2.1 rfl ?_
    refine x_iret F rfl rfl dX12_count_135 (Nat.le_of_ble_eq_true rfl) (Nat.le_of_ble_eq_true rfl) ?_
    exact ⟨_, rfl, rfl, rfl⟩
set_option maxRecDepth 100000 in
set_option maxHeartbeats 4000000 in
theorem m_add (d v : Int64) : Ci l D dA B yX12_add wX12_add 0 [.long d, .long v] w (fun v1 w1 => v1 = .long (d * 31 + v) ∧ w1 = w) := by
  refine x_Ct.of (cc := cX12_add) (maxL := 4) (by decide) rfl (Nat.le_of_ble_eq_true rfl) ?_
  intro p e s m below meth c F
  refine x_lload_n F dX12_add_0 rfl rfl ?_
  refine x_ldc2 F dX12_add_1 q632 ?_
  refine x_lmul F dX12_add_4 ?_
  refine x_lload_n F dX12_add_5 rfl rfl ?_
  refine x_ladd F dX12_add_6 ?_
  refine x_lret F rfl dX12_add_7 (Nat.le_of_ble_eq_true rfl) (Nat.le_of_ble_eq_true rfl) ?_
  exact ⟨_, rfl, rfl, rfl⟩
set_option maxRecDepth 100000 in
set_option maxHeartbeats 4000000 in
theorem m_many (hM : MR w (dA 99) mo re fa cl ad ca t 0) {k : Nat} (hk : k ≤ 10) : x_Ci l D dA vwC1 tyL1 B yX12_many wX12_many (rmd 5 1 4) [.ref mo, .int (nI k)] w (fun v w1 => v = .int 0 ∧ w1 = x_set w mo (oM 0 re)) 1 4 := by
  refine x_Ct.of (cc := cX12_many) (maxL := 2) (by decide) rfl (Nat.le_of_ble_eq_true rfl) ?_
  intro p e s m below meth c F
  refine x_aload_n F dX12_many_0 rfl rfl ?_
  refine x_iload_n F dX12_many_1 rfl rfl ?_
  refine x_iconst (v := 0) F dX12_many_2 (by decide) ?_
  refine x_bipush (v := 10) F dX12_many_3 (by decide) ?_
  refine x_cSi3 F dX12_many_5 (x_gS q433 q434 q5 q435) (m_isIn _ 0 10) ⟨rfl, rfl, rfl, xd_X12_isIn, ⟨Nat.le_of_ble_eq_true rfl, Nat.le_of_ble_eq_true rfl⟩, Nat.le_of_ble_eq_true rfl, Nat.le_of_ble_eq_true rfl⟩ (Nat.le_of_ble_eq_true rfl) (fun v1 w1 hp => ?_)
  obtain ⟨rfl, hw8⟩ := hp
  replace hw8 := hw8.symm
  subst hw8
  rw [f_isIn_t (v := nI k) (lo := 0) (hi := 10) (nI_pos (by omega)) ((nI_leI (b := 10) (by omega) (by decide)).mpr hk)]
  refine x_if_ne F dX12_many_8 rfl (fun _ => ?_) (fun hc => absurd hc (by decide))
  refine x_iconst (v := 0) F dX12_many_15 (by decide) ?_
  refine x_iconst (v := 1) F dX12_many_16 (by decide) ?_
  refine x_cVi2 (ci := 7) (C := RX12) (T := TX12) (N := 2) F dX12_many_17 (x_gV q401 q402 q640 q5 q403) rfl (m_start0 hM 1) ⟨rfl, rfl, rfl, xd_X12_start, ⟨Nat.le_of_ble_eq_true rfl, Nat.le_of_ble_eq_true rfl⟩, Nat.le_of_ble_eq_true rfl, Nat.le_of_ble_eq_true rfl⟩ rfl hM.1 (Nat.le_of_ble_eq_true rfl) (fun v1 w1 hp => ?_)
  obtain ⟨rfl, hw9⟩ := hp
  have hN : MR w1 (dA 99) mo re fa cl ad ca 0 0 := by rw [hw9]; exact hM.setT 0
  refine x_if_eq F dX12_many_20 rfl (fun _ => ?_) (fun hc => absurd hc (by decide))
  refine x_aload_n F dX12_many_27 rfl rfl ?_
  refine x_iload_n F dX12_many_28 rfl rfl ?_
  refine x_cVi1 (ci := 7) (C := RX12) (T := TX12) (N := 2) F dX12_many_29 (x_gV q585 q586 q652 q5 q587) rfl (m_count hN hk) ⟨rfl, rfl, rfl, xd_X12_count, ⟨Nat.le_of_ble_eq_true rfl, Nat.le_of_ble_eq_true rfl⟩, Nat.le_of_ble_eq_true rfl, Nat.le_of_ble_eq_true rfl⟩ rfl hN.1 (Nat.le_of_ble_eq_true rfl) (fun v1 w1 hp => ?_)
  obtain ⟨rfl, hw8⟩ := hp
  replace hw8 := hw8.symm
  subst hw8
  refine x_iret F rfl rfl dX12_many_32 (Nat.le_of_ble_eq_true rfl) (Nat.le_of_ble_eq_true rfl) ?_
  exact ⟨_, rfl, rfl, hw9⟩
set_option maxRecDepth 100000 in
set_option maxHeartbeats 4000000 in
theorem m_manyX (hM : MR w (dA 99) mo re fa cl ad ca t n) (x : Int32) (h : x < 0 ∨ ¬ x ≤ 10) : Ci l D dA B yX12_many wX12_many 5 [.ref mo, .int x] w (fun v w1 => v = .int 0 ∧ w1 = x_set w mo (oM 1 re)) := by
  refine x_Ct.of (cc := cX12_many) (maxL := 2) (by decide) rfl (Nat.le_of_ble_eq_true rfl) ?_
  intro p e s m below meth c F
  refine x_aload_n F dX12_many_0 rfl rfl ?_
  refine x_iload_n F dX12_many_1 rfl rfl ?_
  refine x_iconst (v := 0) F dX12_many_2 (by decide) ?_
  refine x_bipush (v := 10) F dX12_many_3 (by decide) ?_
  refine x_cSi3 F dX12_many_5 (x_gS q433 q434 q5 q435) (m_isIn _ 0 10) ⟨rfl, rfl, rfl, xd_X12_isIn, ⟨Nat.le_of_ble_eq_true rfl, Nat.le_of_ble_eq_true rfl⟩, Nat.le_of_ble_eq_true rfl, Nat.le_of_ble_eq_true rfl⟩ (Nat.le_of_ble_eq_true rfl) (fun v1 w1 hp => ?_)
  obtain ⟨rfl, hw8⟩ := hp
  replace hw8 := hw8.symm
  subst hw8
  rw [f_isIn_f h]
  refine x_if_ne F dX12_many_8 rfl (fun hc => absurd hc (by decide)) (fun _ => ?_)
  refine x_iconst (v := 1) F dX12_many_11 (by decide) ?_
  refine x_goto F dX12_many_12 rfl ?_
  refine x_iconst (v := 1) F dX12_many_16 (by decide) ?_
  refine x_cVi2 (ci := 7) (C := RX12) (T := TX12) (N := 2) F dX12_many_17 (x_gV q401 q402 q640 q5 q403) rfl (m_start1 hM 1 (by decide)) ⟨rfl, rfl, rfl, xd_X12_start, ⟨Nat.le_of_ble_eq_true rfl, Nat.le_of_ble_eq_true rfl⟩, Nat.le_of_ble_eq_true rfl, Nat.le_of_ble_eq_true rfl⟩ rfl hM.1 (Nat.le_of_ble_eq_true rfl) (fun v1 w1 hp => ?_)
  obtain ⟨rfl, hw9⟩ := hp
  refine x_if_eq F dX12_many_20 rfl (fun hc => absurd hc (by decide)) (fun _ => ?_)
  refine x_iconst (v := 0) F dX12_many_23 (by decide) ?_
  refine x_goto F dX12_many_24 rfl ?_
  refine x_iret F rfl rfl dX12_many_32 (Nat.le_of_ble_eq_true rfl) (Nat.le_of_ble_eq_true rfl) ?_
  exact ⟨_, rfl, rfl, hw9⟩
set_option maxRecDepth 100000 in
set_option maxHeartbeats 4000000 in
theorem m_passX (hM : MR w (dA 99) mo re fa cl ad ca t n) (x : Int32) (h : x < 1 ∨ ¬ x ≤ 100) : Ci l D dA B yX12_pass wX12_pass 5 [.ref mo, .int x] w (fun v w1 => v = .int 0 ∧ w1 = x_set w mo (oM 1 re)) := by
  refine x_Ct.of (cc := cX12_pass) (maxL := 4) (by decide) rfl (Nat.le_of_ble_eq_true rfl) ?_
  intro p e s m below meth c F
  refine x_aload_n F dX12_pass_0 rfl rfl ?_
  refine x_iload_n F dX12_pass_1 rfl rfl ?_
  refine x_iconst (v := 1) F dX12_pass_2 (by decide) ?_
  refine x_bipush (v := 100) F dX12_pass_3 (by decide) ?_
  refine x_cSi3 F dX12_pass_5 (x_gS q433 q434 q5 q435) (m_isIn _ 1 100) ⟨rfl, rfl, rfl, xd_X12_isIn, ⟨Nat.le_of_ble_eq_true rfl, Nat.le_of_ble_eq_true rfl⟩, Nat.le_of_ble_eq_true rfl, Nat.le_of_ble_eq_true rfl⟩ (Nat.le_of_ble_eq_true rfl) (fun v1 w1 hp => ?_)
  obtain ⟨rfl, hw8⟩ := hp
  replace hw8 := hw8.symm
  subst hw8
  rw [f_isIn_f h]
  refine x_if_ne F dX12_pass_8 rfl (fun hc => absurd hc (by decide)) (fun _ => ?_)
  refine x_iconst (v := 1) F dX12_pass_11 (by decide) ?_
  refine x_goto F dX12_pass_12 rfl ?_
  refine x_iconst (v := 1) F dX12_pass_16 (by decide) ?_
  refine x_cVi2 (ci := 7) (C := RX12) (T := TX12) (N := 2) F dX12_pass_17 (x_gV q401 q402 q640 q5 q403) rfl (m_start1 hM 1 (by decide)) ⟨rfl, rfl, rfl, xd_X12_start, ⟨Nat.le_of_ble_eq_true rfl, Nat.le_of_ble_eq_true rfl⟩, Nat.le_of_ble_eq_true rfl, Nat.le_of_ble_eq_true rfl⟩ rfl hM.1 (Nat.le_of_ble_eq_true rfl) (fun v1 w1 hp => ?_)
  obtain ⟨rfl, hw9⟩ := hp
  refine x_if_eq F dX12_pass_20 rfl (fun hc => absurd hc (by decide)) (fun _ => ?_)
  refine x_iconst (v := 0) F dX12_pass_23 (by decide) ?_
  refine x_iret F rfl rfl dX12_pass_24 (Nat.le_of_ble_eq_true rfl) (Nat.le_of_ble_eq_true rfl) ?_
  exact ⟨_, rfl, rfl, hw9⟩
-- an hour
set_option maxRecDepth 100000 in
set_option maxHeartbeats 4000000 in
theorem m_begin (hM : MR w (dA 99) mo re fa cl ad ca t n) : Ci l D dA B yX10_begin wX10_begin 2 [.ref re] w (fun v w1 => v = .int 0 ∧ w1 = x_set w re (oR fa cl ad ca (n + 1))) := by
  refine x_Ct.of (cc := cX10_begin) (maxL := 4) (by decide) rfl (Nat.le_of_ble_eq_true rfl) ?_
  intro p e s m below meth c F
  refine x_aload_n F dX10_begin_0 rfl rfl ?_
  refine x_dup F dX10_begin_1 rfl ?_
  refine x_get (ci := 6) (C := RX10) (T := TX10) (N := 5) (k := 4) F dX10_begin_2 rfl inX10 (by decide) q378 rfl hM.2.1 rfl ?_
  refine x_iconst (v := 1) F dX10_begin_5 (by decide) ?_
  refine x_iadd F dX10_begin_6 ?_
  refine x_put (ci := 6) (C := RX10) (T := TX10) (N := 5) (k := 4) F dX10_begin_7 rfl inX10 tyX10 tyX10_ok nmX10 (by decide) q378 rfl rfl hM.2.1 (Nat.le_of_ble_eq_true rfl) rfl rfl ?_
  refine x_wd (fun w2 hw2 => ?_)
  have hN : MR w2 (dA 99) mo re fa cl ad ca t (n + 1) := by rw [hw2]; exact hM.setN (n + 1)
  refine x_iconst (v := 0) F dX10_begin_10 (by decide) ?_
  refine x_istore_n F dX10_begin_11 rfl (by decide) ?_
  refine x_iconst (v := 0) F dX10_begin_12 (by decide) ?_
  refine x_istore_n F dX10_begin_13 rfl (by decide) ?_
  refine x_iload_n F dX10_begin_14 rfl rfl ?_
  refine x_aload_n F dX10_begin_15 rfl rfl ?_
  refine x_get (ci := 6) (C := RX10) (T := TX10) (N := 5) (k := 0) F dX10_begin_16 rfl inX10 (by decide) q370 rfl hN.2.1 rfl ?_
  refine x_cVi0 (ci := 1) (C := RJx4a65c) (T := TJx4a65c) (N := 3) F dX10_begin_19 (x_gV q485 q398 q399 q9 q400) rfl (c_size hN.2.2.1) ⟨rfl, rfl, rfl, xd_Jx4a65c_size_8abf5, ⟨Nat.le_of_ble_eq_true rfl, Nat.le_of_ble_eq_true rfl⟩, Nat.le_of_ble_eq_true rfl, Nat.le_of_ble_eq_true rfl⟩ rfl hN.2.2.1 (Nat.le_of_ble_eq_true rfl) (fun v1 w1 hp => ?_)
  obtain ⟨rfl, hw9⟩ := hp
  replace hw9 := hw9.symm
  subst hw9
  refine x_icmp_ge F dX10_begin_22 rfl (fun _ => ?_) (fun hc => absurd hc (by decide))
  refine x_iload_n F dX10_begin_66 rfl rfl ?_
  refine x_iret F rfl rfl dX10_begin_67 (Nat.le_of_ble_eq_true rfl) (Nat.le_of_ble_eq_true rfl) ?_
  exact ⟨_, rfl, rfl, hw2⟩
set_option maxRecDepth 100000 in
set_option maxHeartbeats 4000000 in
theorem m_pass (hM : MR w (dA 99) mo re fa cl ad ca t n) {k0 : Nat} (ha : 1 ≤ k0) (hb : k0 ≤ 100) : Ci l D dA B yX12_pass wX12_pass 5 [.ref mo, .int (nI k0)] w (fun v w1 => v = .int 0 ∧ w1 mo = some (oM 0 re) ∧ ∀ b x, w b = some x → ¬ b = mo → ¬ b = re → w1 b = some x) := by
  refine x_Ct.of (cc := cX12_pass) (maxL := 4) (by decide) rfl (Nat.le_of_ble_eq_true rfl) ?_
  intro p e s m below meth c F
  have loop : ∀ n1 k, k + n1 = k0 → ∀ n wz, MR wz (dA 99) mo re fa cl ad ca 0 n → (∀ b x, w b = some x → ¬ b = mo → ¬ b = re → wz b = some x) → X p l e (rmd 5 0 0) s m #[.ref mo, .int (nI k0)] below meth c (MQ below (x_Q D dA vwC1 tyL1 B (fun r w1 => ∃ v, r = some v ∧ (v = .int 0 ∧ w1 mo = some (oM 0 re) ∧ ∀ b x, w b = some x → ¬ b = mo → ¬ b = re → w1 b = some x))) #[.ref mo, .int (nI k0)] s 0 0 (fun q => B ≤ q)) D dA vwC1 B 4 0 0 29 [(0, .ref mo), (1, .int (nI k0)), (2, .int 0), (3, .int (nI k))] [] wz := by
    intro n1
    induction n1 with
    | zero =>
      intro k hk1 n wz hN ho
      obtain rfl : k = k0 := by omega
      refine x_iload_n F dX12_pass_29 rfl rfl ?_
      refine x_iload_n F dX12_pass_30 rfl rfl ?_
      refine x_icmp_ge F dX12_pass_31 rfl (fun h31 => ?_) (fun hc => absurd hc (fun q => q (Int32.le_refl _)))
      refine x_iload_n F dX12_pass_50 rfl rfl ?_
      refine x_iret F rfl rfl dX12_pass_51 (Nat.le_of_ble_eq_true rfl) (Nat.le_of_ble_eq_true rfl) ?_
      exact ⟨_, rfl, rfl, hN.1, ho⟩
    | succ n1 ih =>
      intro k hk1 n wz hN ho
      refine x_iload_n F dX12_pass_29 rfl rfl ?_
      refine x_iload_n F dX12_pass_30 rfl rfl ?_
      refine x_icmp_ge F dX12_pass_31 rfl (fun hc => absurd hc (nI_ge (by omega) (by omega))) (fun h31 => ?_)
      refine x_iload_n F dX12_pass_34 rfl rfl ?_
      refine x_aload_n F dX12_pass_35 rfl rfl ?_
      refine x_get (ci := 7) (C := RX12) (T := TX12) (N := 2) (k := 1) F dX12_pass_36 rfl inX12 (by decide) q386 rfl hN.1 rfl ?_
      refine x_cVi0 (ci := 6) (C := RX10) (T := TX10) (N := 5) F dX12_pass_39 (x_gV q554 q555 q556 q6 q557) rfl (m_begin hN) ⟨rfl, rfl, rfl, xd_X10_begin, ⟨Nat.le_of_ble_eq_true rfl, Nat.le_of_ble_eq_true rfl⟩, Nat.le_of_ble_eq_true rfl, Nat.le_of_ble_eq_true rfl⟩ rfl hN.2.1 (Nat.le_of_ble_eq_true rfl) (fun v1 w1 hp => ?_)
      obtain ⟨rfl, hw9⟩ := hp
      refine x_iadd F dX12_pass_42 ?_
      refine x_istore_n F dX12_pass_43 rfl (by decide) ?_
      refine x_iincN F dX12_pass_44 (by decide) rfl (by decide) ?_
      refine x_goto F dX12_pass_47 rfl ?_
      exact x_lk (ih (k + 1) (by omega) _ _ (by rw [hw9]; exact hN.setN _) (fun b x hx h1 h2 => by rw [hw9, x_set_ne _ _ h2]; exact ho b x hx h1 h2)) ⟨rfl, rfl, rfl, rfl, trivial⟩
  refine x_aload_n F dX12_pass_0 rfl rfl ?_
  refine x_iload_n F dX12_pass_1 rfl rfl ?_
  refine x_iconst (v := 1) F dX12_pass_2 (by decide) ?_
  refine x_bipush (v := 100) F dX12_pass_3 (by decide) ?_
  refine x_cSi3 F dX12_pass_5 (x_gS q433 q434 q5 q435) (m_isIn _ 1 100) ⟨rfl, rfl, rfl, xd_X12_isIn, ⟨Nat.le_of_ble_eq_true rfl, Nat.le_of_ble_eq_true rfl⟩, Nat.le_of_ble_eq_true rfl, Nat.le_of_ble_eq_true rfl⟩ (Nat.le_of_ble_eq_true rfl) (fun v1 w1 hp => ?_)
  obtain ⟨rfl, hw8⟩ := hp
  replace hw8 := hw8.symm
  subst hw8
  rw [f_isIn_t (v := nI k0) (lo := 1) (hi := 100) (nI_nlt (b := 1) ha (by omega)) ((nI_leI (b := 100) (by omega) (by decide)).mpr hb)]
  refine x_if_ne F dX12_pass_8 rfl (fun _ => ?_) (fun hc => absurd hc (by decide))
  refine x_iconst (v := 0) F dX12_pass_15 (by decide) ?_
  refine x_iconst (v := 1) F dX12_pass_16 (by decide) ?_
  refine x_cVi2 (ci := 7) (C := RX12) (T := TX12) (N := 2) F dX12_pass_17 (x_gV q401 q402 q640 q5 q403) rfl (m_start0 hM 1) ⟨rfl, rfl, rfl, xd_X12_start, ⟨Nat.le_of_ble_eq_true rfl, Nat.le_of_ble_eq_true rfl⟩, Nat.le_of_ble_eq_true rfl, Nat.le_of_ble_eq_true rfl⟩ rfl hM.1 (Nat.le_of_ble_eq_true rfl) (fun v1 w1 hp => ?_)
  obtain ⟨rfl, hw9⟩ := hp
  have hN : MR w1 (dA 99) mo re fa cl ad ca 0 n := by rw [hw9]; exact hM.setT 0
  refine x_if_eq F dX12_pass_20 rfl (fun _ => ?_) (fun hc => absurd hc (by decide))
  refine x_iconst (v := 0) F dX12_pass_25 (by decide) ?_
  refine x_istore_n F dX12_pass_26 rfl (by decide) ?_
  refine x_iconst (v := 0) F dX12_pass_27 (by decide) ?_
  refine x_istore_n F dX12_pass_28 rfl (by decide) ?_
  exact x_lk (loop k0 0 (by omega) n _ hN (fun b x hx h1 _ => by rw [hw9, x_set_ne _ _ h1]; exact hx)) ⟨rfl, rfl, rfl, rfl, trivial⟩
set_option maxRecDepth 100000 in
set_option maxHeartbeats 4000000 in
theorem m_share (hM : MR w (dA 99) mo re fa cl ad ca t n) : Ci l D dA B yX12_servedShare wX12_servedShare 4 [.ref mo] w (fun v w1 => v = .double FP.dconst1 ∧ w1 = x_set w mo (oM 0 re)) := by
  refine x_Ct.of (cc := cX12_servedShare) (maxL := 1) (by decide) rfl (Nat.le_of_ble_eq_true rfl) ?_
  intro p e s m below meth c F
  refine x_aload_n F dX12_servedShare_0 rfl rfl ?_
  refine x_iconst (v := 0) F dX12_servedShare_1 (by decide) ?_
  refine x_put (ci := 7) (C := RX12) (T := TX12) (N := 2) (k := 0) F dX12_servedShare_2 rfl inX12 tyX12 tyX12_ok nmX12 (by decide) q385 rfl rfl hM.1 (Nat.le_of_ble_eq_true rfl) rfl rfl ?_
  refine x_wd (fun w2 hw2 => ?_)
  have hN : MR w2 (dA 99) mo re fa cl ad ca 0 n := by rw [hw2]; exact hM.setT 0
  refine x_aload_n F dX12_servedShare_5 rfl rfl ?_
  refine x_get (ci := 7) (C := RX12) (T := TX12) (N := 2) (k := 1) F dX12_servedShare_6 rfl inX12 (by decide) q386 rfl hN.1 rfl ?_
  refine x_get (ci := 6) (C := RX10) (T := TX10) (N := 5) (k := 3) F dX12_servedShare_9 rfl inX10 (by decide) q377 rfl hN.2.1 rfl ?_
  refine x_cVi0 (ci := 1) (C := RJx4a65c) (T := TJx4a65c) (N := 3) F dX12_servedShare_12 (x_gV q598 q599 q600 q9 q601) rfl (c_isEmpty hN.2.2.2.2.2) ⟨rfl, rfl, rfl, xd_Jx4a65c_isEmpty_aae02, ⟨Nat.le_of_ble_eq_true rfl, Nat.le_of_ble_eq_true rfl⟩, Nat.le_of_ble_eq_true rfl, Nat.le_of_ble_eq_true rfl⟩ rfl hN.2.2.2.2.2 (Nat.le_of_ble_eq_true rfl) (fun v1 w1 hp => ?_)
  obtain ⟨rfl, hw9⟩ := hp
  replace hw9 := hw9.symm
  subst hw9
  refine x_if_eq F dX12_servedShare_15 rfl (fun hc => absurd hc (by decide)) (fun _ => ?_)
  refine x_dconst1 F dX12_servedShare_18 ?_
  refine x_goto F dX12_servedShare_19 rfl ?_
  refine x_dret F rfl dX12_servedShare_41 (Nat.le_of_ble_eq_true rfl) (Nat.le_of_ble_eq_true rfl) ?_
  exact ⟨_, rfl, rfl, hw2⟩
set_option maxRecDepth 100000 in
set_option maxHeartbeats 4000000 in
theorem m_digest (hM : MR w (dA 99) mo re fa cl ad ca t 0) : x_Ci l D dA vwC1 tyL1 B yX12_digest wX12_digest (rmd 6 11 44) [.ref mo] w (fun v w1 => v = .long (f_dg 11 58106) ∧ w1 = x_set w mo (oM 0 re)) 11 44 := by
  refine x_Ct.of (cc := cX12_digest) (maxL := 7) (by decide) rfl (Nat.le_of_ble_eq_true rfl) ?_
  intro p e s m below meth c F
  obtain ⟨wg, hwg⟩ : ∃ wg, wg = x_set w mo (oM 0 re) := ⟨_, rfl⟩
  have hN : MR wg (dA 99) mo re fa cl ad ca 0 0 := by rw [hwg]; exact hM.setT 0
  have loop1 : ∀ n1 k, k + n1 = 11 → ∀ d, f_dg n1 d = f_dg 11 58106 → X p l e (rmd 6 11 44) s m #[.ref mo] below meth c (MQ below (x_Q D dA vwC1 tyL1 B (fun r w1 => ∃ v, r = some v ∧ (v = .long (f_dg 11 58106) ∧ w1 = x_set w mo (oM 0 re)))) #[.ref mo] s 11 44 (fun q => B ≤ q)) D dA vwC1 B 7 k (4 * k) 11 [(0, .ref mo), (1, .long d), (3, .int (nI k))] [] wg := by
    intro n1
    induction n1 with
    | zero =>
      intro k hk1 d hd
      obtain rfl : k = 11 := by omega
      refine x_iload_n F dX12_digest_11 rfl rfl ?_
      refine x_bipush (v := 11) F dX12_digest_12 (by decide) ?_
      refine x_icmp_ge F dX12_digest_14 rfl (fun h14 => ?_) (fun hc => absurd hc (fun q => q (by decide)))
      refine x_iconst (v := 0) F dX12_digest_34 (by decide) ?_
      refine x_istore_n F dX12_digest_35 rfl (by decide) ?_
      refine x_iload_n F dX12_digest_36 rfl rfl ?_
      refine x_aload_n F dX12_digest_37 rfl rfl ?_
      refine x_get (ci := 7) (C := RX12) (T := TX12) (N := 2) (k := 1) F dX12_digest_38 rfl inX12 (by decide) q386 rfl hN.1 rfl ?_
      refine x_get (ci := 6) (C := RX10) (T := TX10) (N := 5) (k := 0) F dX12_digest_41 rfl inX10 (by decide) q371 rfl hN.2.1 rfl ?_
      refine x_cVi0 (ci := 1) (C := RJx4a65c) (T := TJx4a65c) (N := 3) F dX12_digest_44 (x_gV q397 q398 q399 q9 q400) rfl (c_size hN.2.2.1) ⟨rfl, rfl, rfl, xd_Jx4a65c_size_8abf5, ⟨Nat.le_of_ble_eq_true rfl, Nat.le_of_ble_eq_true rfl⟩, Nat.le_of_ble_eq_true rfl, Nat.le_of_ble_eq_true rfl⟩ rfl hN.2.2.1 (Nat.le_of_ble_eq_true rfl) (fun v1 w1 hp => ?_)
      obtain ⟨rfl, hw9⟩ := hp
      replace hw9 := hw9.symm
      subst hw9
      refine x_icmp_ge F dX12_digest_47 rfl (fun _ => ?_) (fun hc => absurd hc (by decide))
      refine x_iconst (v := 0) F dX12_digest_161 (by decide) ?_
      refine x_istore_n F dX12_digest_162 rfl (by decide) ?_
      refine x_iload_n F dX12_digest_163 rfl rfl ?_
      refine x_aload_n F dX12_digest_164 rfl rfl ?_
      refine x_get (ci := 7) (C := RX12) (T := TX12) (N := 2) (k := 1) F dX12_digest_165 rfl inX12 (by decide) q386 rfl hN.1 rfl ?_
      refine x_get (ci := 6) (C := RX10) (T := TX10) (N := 5) (k := 1) F dX12_digest_168 rfl inX10 (by decide) q373 rfl hN.2.1 rfl ?_
      refine x_cVi0 (ci := 1) (C := RJx4a65c) (T := TJx4a65c) (N := 3) F dX12_digest_171 (x_gV q397 q398 q399 q9 q400) rfl (c_size hN.2.2.2.1) ⟨rfl, rfl, rfl, xd_Jx4a65c_size_8abf5, ⟨Nat.le_of_ble_eq_true rfl, Nat.le_of_ble_eq_true rfl⟩, Nat.le_of_ble_eq_true rfl, Nat.le_of_ble_eq_true rfl⟩ rfl hN.2.2.2.1 (Nat.le_of_ble_eq_true rfl) (fun v1 w1 hp => ?_)
      obtain ⟨rfl, hw9⟩ := hp
      replace hw9 := hw9.symm
      subst hw9
      refine x_icmp_ge F dX12_digest_174 rfl (fun _ => ?_) (fun hc => absurd hc (by decide))
      refine x_lload_n F dX12_digest_362 rfl rfl ?_
      refine x_lret F rfl dX12_digest_363 (Nat.le_of_ble_eq_true rfl) (Nat.le_of_ble_eq_true rfl) ?_
      exact ⟨_, rfl, congrArg Value.long hd, hwg⟩
    | succ n1 ih =>
      intro k hk1 d hd
      refine x_iload_n F dX12_digest_11 rfl rfl ?_
      refine x_bipush (v := 11) F dX12_digest_12 (by decide) ?_
      refine x_icmp_ge F dX12_digest_14 rfl (fun hc => absurd hc (nI_ge (b := 11) (by omega) (by decide))) (fun h14 => ?_)
      refine x_lload_n F dX12_digest_17 rfl rfl ?_
      refine x_aload_n F dX12_digest_18 rfl rfl ?_
      refine x_iload_n F dX12_digest_19 rfl rfl ?_
      refine x_cVi1 (ci := 7) (C := RX12) (T := TX12) (N := 2) F dX12_digest_20 (x_gV q585 q586 q652 q5 q587) rfl (m_count hN (k := k) (by omega)) ⟨rfl, rfl, rfl, xd_X12_count, ⟨Nat.le_of_ble_eq_true rfl, Nat.le_of_ble_eq_true rfl⟩, (by show k + 1 ≤ 11; omega), (by show 4 * k + 4 ≤ 44; omega)⟩ rfl hN.1 (Nat.le_of_ble_eq_true rfl) (fun v1 w1 hp => ?_)
      obtain ⟨rfl, hw9⟩ := hp
      replace hw9 := hw9.symm
      subst hw9
      refine x_i2l F dX12_digest_23 ?_
      refine x_cSi2 F dX12_digest_24 (x_gS q629 q630 q5 q631) (m_add _ _) ⟨rfl, rfl, rfl, xd_X12_add, ⟨Nat.le_of_ble_eq_true rfl, Nat.le_of_ble_eq_true rfl⟩, (by show k + 1 + 0 ≤ 11; omega), (by show 4 * k + 4 + 0 ≤ 44; omega)⟩ (Nat.le_of_ble_eq_true rfl) (fun v1 w1 hp => ?_)
      obtain ⟨rfl, hw9⟩ := hp
      replace hw9 := hw9.symm
      subst hw9
      refine x_lstore_n F dX12_digest_27 rfl (by decide) ?_
      refine x_iincN F dX12_digest_28 (by decide) rfl (by decide) ?_
      refine x_goto F dX12_digest_31 rfl ?_
      exact x_widen (by omega) (by omega) (x_lk (ih (k + 1) (by omega) _ hd) ⟨rfl, rfl, rfl, trivial⟩)
  refine x_aload_n F dX12_digest_0 rfl rfl ?_
  refine x_iconst (v := 0) F dX12_digest_1 (by decide) ?_
  refine x_put (ci := 7) (C := RX12) (T := TX12) (N := 2) (k := 0) F dX12_digest_2 rfl inX12 tyX12 tyX12_ok nmX12 (by decide) q385 rfl rfl hM.1 (Nat.le_of_ble_eq_true rfl) rfl rfl ?_
  refine x_wd (fun w2 hw2 => ?_)
  obtain rfl : w2 = wg := hw2.trans hwg.symm
  refine x_ldc2 F dX12_digest_5 q628 ?_
  refine x_lstore_n F dX12_digest_8 rfl (by decide) ?_
  refine x_iconst (v := 0) F dX12_digest_9 (by decide) ?_
  refine x_istore_n F dX12_digest_10 rfl (by decide) ?_
  exact x_lk (loop1 11 0 (by omega) 58106 rfl) ⟨rfl, rfl, rfl, trivial⟩
theorem MR.fresh {w : xW} {e mo re fa cl ad ca a : Nat} {t n : Int32} (h : MR w e mo re fa cl ad ca t n) (ha : w a = none) (y : xE) : MR (x_set w a y) e mo re fa cl ad ca t n := by
  obtain ⟨h0, h1, h2, h3, h4, h5⟩ := h
  exact ⟨by rw [x_set_ne _ _ (w_neN h0 ha)]; exact h0, by rw [x_set_ne _ _ (w_neN h1 ha)]; exact h1, by rw [x_set_ne _ _ (w_neN h2 ha)]; exact h2, by rw [x_set_ne _ _ (w_neN h3 ha)]; exact h3, by rw [x_set_ne _ _ (w_neN h4 ha)]; exact h4, by rw [x_set_ne _ _ (w_neN h5 ha)]; exact h5⟩
set_option maxRecDepth 100000 in
set_option maxHeartbeats 4000000 in
theorem m_open (hM : MR w (dA 99) mo re fa cl ad ca t n) : x_Ci l D dA vwC1 tyL1 B yX12_open wX12_open (rmd 7 2 13) [.ref mo] w (fun v w1 => v = .int 0 ∧ w1 mo = some (oM 0 re) ∧ ∀ b x, w b = some x → ¬ b = mo → ¬ b = fa → w1 b = some x) 2 13 := by
  refine x_Ct.of (cc := cX12_open) (maxL := 1) (by decide) rfl (Nat.le_of_ble_eq_true rfl) ?_
  intro p e s m below meth c F
  refine x_aload_n F dX12_open_0 rfl rfl ?_
  refine x_aload_n F dX12_open_1 rfl rfl ?_
  refine x_get (ci := 7) (C := RX12) (T := TX12) (N := 2) (k := 1) F dX12_open_2 rfl inX12 (by decide) q386 rfl hM.1 rfl ?_
  refine x_get (ci := 6) (C := RX10) (T := TX10) (N := 5) (k := 0) F dX12_open_5 rfl inX10 (by decide) q371 rfl hM.2.1 rfl ?_
  refine x_cVi0 (ci := 1) (C := RJx4a65c) (T := TJx4a65c) (N := 3) F dX12_open_8 (x_gV q397 q398 q399 q9 q400) rfl (c_size hM.2.2.1) ⟨rfl, rfl, rfl, xd_Jx4a65c_size_8abf5, ⟨Nat.le_of_ble_eq_true rfl, Nat.le_of_ble_eq_true rfl⟩, Nat.le_of_ble_eq_true rfl, Nat.le_of_ble_eq_true rfl⟩ rfl hM.2.2.1 (Nat.le_of_ble_eq_true rfl) (fun v1 w1 hp => ?_)
  obtain ⟨rfl, hw9⟩ := hp
  replace hw9 := hw9.symm
  subst hw9
  refine x_iconst (v := 4) F dX12_open_11 (by decide) ?_
  refine x_icmp_ne F dX12_open_12 rfl (fun _ => ?_) (fun hc => absurd hc (by decide))
  refine x_iconst (v := 0) F dX12_open_19 (by decide) ?_
  refine x_iconst (v := 1) F dX12_open_20 (by decide) ?_
  refine x_cVi2 (ci := 7) (C := RX12) (T := TX12) (N := 2) F dX12_open_21 (x_gV q401 q402 q640 q5 q403) rfl (m_start0 hM 1) ⟨rfl, rfl, rfl, xd_X12_start, ⟨Nat.le_of_ble_eq_true rfl, Nat.le_of_ble_eq_true rfl⟩, Nat.le_of_ble_eq_true rfl, Nat.le_of_ble_eq_true rfl⟩ rfl hM.1 (Nat.le_of_ble_eq_true rfl) (fun v1 w1 hp => ?_)
  obtain ⟨rfl, hw9⟩ := hp
  obtain ⟨w1', hw1'⟩ : ∃ w1', w1' = w1 := ⟨_, rfl⟩
  rw [← hw1']
  rw [hw9] at hw1'
  replace hw9 := hw1'
  have hN : MR w1' (dA 99) mo re fa cl ad ca 0 n := by rw [hw9]; exact hM.setT 0
  refine x_if_eq F dX12_open_24 rfl (fun _ => ?_) (fun hc => absurd hc (by decide))
  refine x_aload_n F dX12_open_29 rfl rfl ?_
  refine x_get (ci := 7) (C := RX12) (T := TX12) (N := 2) (k := 1) F dX12_open_30 rfl inX12 (by decide) q386 rfl hN.1 rfl ?_
  refine x_get (ci := 6) (C := RX10) (T := TX10) (N := 5) (k := 0) F dX12_open_33 rfl inX10 (by decide) q371 rfl hN.2.1 rfl ?_
  refine x_new (ci := 1) (C := RJx4a65c) (T := TJx4a65c) (N := 3) (fs := [.int 0, .null, .int 0]) F dX12_open_36 rfl inJx4a65c tyJx4a65c tyJx4a65c_ok q407 q348 q9 (fun j hj => by rcases (show j = 0 ∨ j = 1 ∨ j = 2 by omega) with rfl | rfl | rfl <;> rfl) (Nat.le_of_ble_eq_true rfl) (Nat.le_of_ble_eq_true rfl) (fun nl hnl => ?_)
  refine x_wd (fun w2 hw2 => ?_)
  have h_n : w2 nl = some (.inr (1, [.int 0, .null, .int 0])) := by rw [hw2]; exact x_set_eq _ _ _
  refine x_dup F dX12_open_39 rfl ?_
  refine x_cI0 F dX12_open_40 (x_gI q351) q9 q408 q350 rfl (c_li_init h_n) ⟨rfl, rfl, rfl, xd_Jx4a65c_init_da8c8, ⟨Nat.le_of_ble_eq_true rfl, Nat.le_of_ble_eq_true rfl⟩, Nat.le_of_ble_eq_true rfl, Nat.le_of_ble_eq_true rfl⟩ (Nat.le_of_ble_eq_true rfl) (fun w1 hp => ?_)
  obtain ⟨w3, hw3⟩ : ∃ w3, w3 = w1 := ⟨_, rfl⟩
  rw [← hw3]
  rw [hp] at hw3
  have e3 : w3 = x_set w1' nl (oE (dA 99)) := by rw [hw3, hw2, x_set_set]
  have hN3 : MR w3 (dA 99) mo re fa cl ad ca 0 n := by rw [e3]; exact hN.fresh hnl _
  have h_n3 : w3 nl = some (oE (dA 99)) := by rw [e3]; exact x_set_eq _ _ _
  have ne_nl : ¬ nl = fa := fun q => w_neN hN.2.2.1 hnl q.symm
  have ne_mo : ¬ mo = fa := w_ne hN.1 hN.2.2.1 ne71
  have ne_re : ¬ re = fa := w_ne hN.2.1 hN.2.2.1 ne61
  refine x_cVi1 (ci := 1) (C := RJx4a65c) (T := TJx4a65c) (N := 3) F dX12_open_43 (x_gV q409 q410 q411 q9 q412) rfl (c_add hN3.2.2.1 h_n3 ne_nl) ⟨rfl, rfl, rfl, xd_Jx4a65c_add_9ea2d, ⟨Nat.le_of_ble_eq_true rfl, Nat.le_of_ble_eq_true rfl⟩, Nat.le_of_ble_eq_true rfl, Nat.le_of_ble_eq_true rfl⟩ rfl hN3.2.2.1 (Nat.le_of_ble_eq_true rfl) (fun v1 w1 hp => ?_)
  obtain ⟨rfl, ⟨kk, h1⟩, h2⟩ := hp
  refine x_pop F dX12_open_46 rfl ?_
  refine x_aload_n F dX12_open_47 rfl rfl ?_
  refine x_get (ci := 7) (C := RX12) (T := TX12) (N := 2) (k := 1) F dX12_open_48 rfl inX12 (by decide) q386 rfl (h2 _ _ hN3.1 ne_mo) rfl ?_
  refine x_get (ci := 6) (C := RX10) (T := TX10) (N := 5) (k := 0) F dX12_open_51 rfl inX10 (by decide) q371 rfl (h2 _ _ hN3.2.1 ne_re) rfl ?_
  refine x_cVi0 (ci := 1) (C := RJx4a65c) (T := TJx4a65c) (N := 3) F dX12_open_54 (x_gV q397 q398 q399 q9 q400) rfl (c_size h1) ⟨rfl, rfl, rfl, xd_Jx4a65c_size_8abf5, ⟨Nat.le_of_ble_eq_true rfl, Nat.le_of_ble_eq_true rfl⟩, Nat.le_of_ble_eq_true rfl, Nat.le_of_ble_eq_true rfl⟩ rfl h1 (Nat.le_of_ble_eq_true rfl) (fun v1 w1 hp => ?_)
  obtain ⟨rfl, hw9⟩ := hp
  replace hw9 := hw9.symm
  subst hw9
  refine x_iconst (v := 1) F dX12_open_57 (by decide) ?_
  refine x_isub F dX12_open_58 ?_
  refine x_iret F rfl rfl dX12_open_59 (Nat.le_of_ble_eq_true rfl) (Nat.le_of_ble_eq_true rfl) ?_
  refine ⟨_, rfl, rfl, h2 _ _ hN3.1 ne_mo, fun b x hx g1 g2 => h2 b x ?_ g2⟩
  have hb : w1' b = some x := by rw [hw9, x_set_ne _ _ g1]; exact hx
  rw [e3, x_set_ne _ _ (w_neN hb hnl)]
  exact hb
set_option maxRecDepth 100000 in
set_option maxHeartbeats 4000000 in
theorem m_reg_init {r : Nat} (h_r : w r = some (.inr (6, [.null, .null, .null, .null, .int 0]))) : x_Cv l D dA vwC1 tyL1 B yX10_init wX10_init (rmd 5 4 12) [.ref r] w (fun w1 => ∃ fa cl ad ca, w1 r = some (oR fa cl ad ca 0) ∧ w1 fa = some (oE (dA 99)) ∧ w1 cl = some (oE (dA 99)) ∧ w1 ad = some (oE (dA 99)) ∧ w1 ca = some (oE (dA 99)) ∧ ∀ b x, w b = some x → ¬ b = r → w1 b = some x) 4 12 := by
  refine x_Ct.of (cc := cX10_init) (maxL := 1) (by decide) rfl (Nat.le_of_ble_eq_true rfl) ?_
  intro p e s m below meth c F
  have hf : ∀ b, ¬ b = r → w b = w b := fun b _ => rfl
  refine x_aload_n F dX10_init_0 rfl rfl ?_
  refine x_objInit F dX10_init_1 q346 q37 q38 (Nat.le_of_ble_eq_true rfl) (Nat.le_of_ble_eq_true rfl) ?_
  refine x_aload_n F dX10_init_4 rfl rfl ?_
  refine x_new (ci := 1) (C := RJx4a65c) (T := TJx4a65c) (N := 3) (fs := [.int 0, .null, .int 0]) F dX10_init_5 rfl inJx4a65c tyJx4a65c tyJx4a65c_ok q347 q348 q9 (fun j hj => by rcases (show j = 0 ∨ j = 1 ∨ j = 2 by omega) with rfl | rfl | rfl <;> rfl) (Nat.le_of_ble_eq_true rfl) (Nat.le_of_ble_eq_true rfl) (fun g1a hg1a => ?_)
  refine x_wd (fun w1 hw1 => ?_)
  have ne_r_l1 : ¬ r = g1a := fun e => by rw [e, hg1a] at h_r; cases h_r
  have fr_l1 : w g1a = none := by rw [← hf g1a (fun e => ne_r_l1 e.symm)]; exact hg1a
  have h_r : w1 r = some (.inr (6, [.null, .null, .null, .null, .int 0])) := by rw [hw1, x_set_ne _ _ ne_r_l1]; exact h_r
  have h_l1 : w1 g1a = some (.inr (1, [.int 0, .null, .int 0])) := by rw [hw1]; exact x_set_eq _ _ _
  have hf : ∀ b, ¬ b = r → ¬ b = g1a → w1 b = w b := fun b g0 g1 => by rw [hw1]; exact (x_set_ne _ _ g1).trans (hf b g0)
  refine x_dup F dX10_init_8 rfl ?_
  refine x_cI0 F dX10_init_9 (x_gI q351) q9 q349 q350 rfl (c_li_init h_l1) ⟨rfl, rfl, rfl, xd_Jx4a65c_init_da8c8, ⟨Nat.le_of_ble_eq_true rfl, Nat.le_of_ble_eq_true rfl⟩, Nat.le_of_ble_eq_true rfl, Nat.le_of_ble_eq_true rfl⟩ (Nat.le_of_ble_eq_true rfl) (fun w1q hp => ?_)
  obtain ⟨w2, hw2⟩ : ∃ w2, w2 = w1q := ⟨_, rfl⟩
  rw [← hw2]
  rw [hp] at hw2
  have h_r : w2 r = some (.inr (6, [.null, .null, .null, .null, .int 0])) := by rw [hw2, x_set_ne _ _ ne_r_l1]; exact h_r
  have h_l1 : w2 g1a = some (oE (dA 99)) := by rw [hw2]; exact x_set_eq _ _ _
  have hf : ∀ b, ¬ b = r → ¬ b = g1a → w2 b = w b := fun b g0 g1 => by rw [hw2]; exact (x_set_ne _ _ g1).trans (hf b g0 g1)
  refine x_putF (ci := 6) (C := RX10) (T := TX10) (N := 5) (k := 0) F dX10_init_12 rfl inX10 tyX10 tyX10_ok nmX10 (by decide) q370 rfl rfl rfl rfl h_r (Nat.le_of_ble_eq_true rfl) rfl rfl ?_
  refine x_wd (fun w3 hw3 => ?_)
  have h_r : w3 r = some (.inr (6, [.ref g1a, .null, .null, .null, .int 0])) := by rw [hw3]; exact x_set_eq _ _ _
  have h_l1 : w3 g1a = some (oE (dA 99)) := by rw [hw3, x_set_ne _ _ (fun e => ne_r_l1 e.symm)]; exact h_l1
  have hf : ∀ b, ¬ b = r → ¬ b = g1a → w3 b = w b := fun b g0 g1 => by rw [hw3]; exact (x_set_ne _ _ g0).trans (hf b g0 g1)
  refine x_aload_n F dX10_init_15 rfl rfl ?_
  refine x_new (ci := 1) (C := RJx4a65c) (T := TJx4a65c) (N := 3) (fs := [.int 0, .null, .int 0]) F dX10_init_16 rfl inJx4a65c tyJx4a65c tyJx4a65c_ok q347 q348 q9 (fun j hj => by rcases (show j = 0 ∨ j = 1 ∨ j = 2 by omega) with rfl | rfl | rfl <;> rfl) (Nat.le_of_ble_eq_true rfl) (Nat.le_of_ble_eq_true rfl) (fun g2a hg2a => ?_)
  refine x_wd (fun w4 hw4 => ?_)
  have ne_r_l2 : ¬ r = g2a := fun e => by rw [e, hg2a] at h_r; cases h_r
  have ne_l1_l2 : ¬ g1a = g2a := fun e => by rw [e, hg2a] at h_l1; cases h_l1
  have fr_l2 : w g2a = none := by rw [← hf g2a (fun e => ne_r_l2 e.symm) (fun e => ne_l1_l2 e.symm)]; exact hg2a
  have h_r : w4 r = some (.inr (6, [.ref g1a, .null, .null, .null, .int 0])) := by rw [hw4, x_set_ne _ _ ne_r_l2]; exact h_r
  have h_l1 : w4 g1a = some (oE (dA 99)) := by rw [hw4, x_set_ne _ _ ne_l1_l2]; exact h_l1
  have h_l2 : w4 g2a = some (.inr (1, [.int 0, .null, .int 0])) := by rw [hw4]; exact x_set_eq _ _ _
  have hf : ∀ b, ¬ b = r → ¬ b = g1a → ¬ b = g2a → w4 b = w b := fun b g0 g1 g2 => by rw [hw4]; exact (x_set_ne _ _ g2).trans (hf b g0 g1)
  refine x_dup F dX10_init_19 rfl ?_
  refine x_cI0 F dX10_init_20 (x_gI q351) q9 q349 q350 rfl (c_li_init h_l2) ⟨rfl, rfl, rfl, xd_Jx4a65c_init_da8c8, ⟨Nat.le_of_ble_eq_true rfl, Nat.le_of_ble_eq_true rfl⟩, Nat.le_of_ble_eq_true rfl, Nat.le_of_ble_eq_true rfl⟩ (Nat.le_of_ble_eq_true rfl) (fun w1q hp => ?_)
  obtain ⟨w5, hw5⟩ : ∃ w5, w5 = w1q := ⟨_, rfl⟩
  rw [← hw5]
  rw [hp] at hw5
  have h_r : w5 r = some (.inr (6, [.ref g1a, .null, .null, .null, .int 0])) := by rw [hw5, x_set_ne _ _ ne_r_l2]; exact h_r
  have h_l1 : w5 g1a = some (oE (dA 99)) := by rw [hw5, x_set_ne _ _ ne_l1_l2]; exact h_l1
  have h_l2 : w5 g2a = some (oE (dA 99)) := by rw [hw5]; exact x_set_eq _ _ _
  have hf : ∀ b, ¬ b = r → ¬ b = g1a → ¬ b = g2a → w5 b = w b := fun b g0 g1 g2 => by rw [hw5]; exact (x_set_ne _ _ g2).trans (hf b g0 g1 g2)
  refine x_putF (ci := 6) (C := RX10) (T := TX10) (N := 5) (k := 1) F dX10_init_23 rfl inX10 tyX10 tyX10_ok nmX10 (by decide) q372 rfl rfl rfl rfl h_r (Nat.le_of_ble_eq_true rfl) rfl rfl ?_
  refine x_wd (fun w6 hw6 => ?_)
  have h_r : w6 r = some (.inr (6, [.ref g1a, .ref g2a, .null, .null, .int 0])) := by rw [hw6]; exact x_set_eq _ _ _
  have h_l1 : w6 g1a = some (oE (dA 99)) := by rw [hw6, x_set_ne _ _ (fun e => ne_r_l1 e.symm)]; exact h_l1
  have h_l2 : w6 g2a = some (oE (dA 99)) := by rw [hw6, x_set_ne _ _ (fun e => ne_r_l2 e.symm)]; exact h_l2
  have hf : ∀ b, ¬ b = r → ¬ b = g1a → ¬ b = g2a → w6 b = w b := fun b g0 g1 g2 => by rw [hw6]; exact (x_set_ne _ _ g0).trans (hf b g0 g1 g2)
  refine x_aload_n F dX10_init_26 rfl rfl ?_
  refine x_new (ci := 1) (C := RJx4a65c) (T := TJx4a65c) (N := 3) (fs := [.int 0, .null, .int 0]) F dX10_init_27 rfl inJx4a65c tyJx4a65c tyJx4a65c_ok q347 q348 q9 (fun j hj => by rcases (show j = 0 ∨ j = 1 ∨ j = 2 by omega) with rfl | rfl | rfl <;> rfl) (Nat.le_of_ble_eq_true rfl) (Nat.le_of_ble_eq_true rfl) (fun g3a hg3a => ?_)
  refine x_wd (fun w7 hw7 => ?_)
  have ne_r_l3 : ¬ r = g3a := fun e => by rw [e, hg3a] at h_r; cases h_r
  have ne_l1_l3 : ¬ g1a = g3a := fun e => by rw [e, hg3a] at h_l1; cases h_l1
  have ne_l2_l3 : ¬ g2a = g3a := fun e => by rw [e, hg3a] at h_l2; cases h_l2
  have fr_l3 : w g3a = none := by rw [← hf g3a (fun e => ne_r_l3 e.symm) (fun e => ne_l1_l3 e.symm) (fun e => ne_l2_l3 e.symm)]; exact hg3a
  have h_r : w7 r = some (.inr (6, [.ref g1a, .ref g2a, .null, .null, .int 0])) := by rw [hw7, x_set_ne _ _ ne_r_l3]; exact h_r
  have h_l1 : w7 g1a = some (oE (dA 99)) := by rw [hw7, x_set_ne _ _ ne_l1_l3]; exact h_l1
  have h_l2 : w7 g2a = some (oE (dA 99)) := by rw [hw7, x_set_ne _ _ ne_l2_l3]; exact h_l2
  have h_l3 : w7 g3a = some (.inr (1, [.int 0, .null, .int 0])) := by rw [hw7]; exact x_set_eq _ _ _
  have hf : ∀ b, ¬ b = r → ¬ b = g1a → ¬ b = g2a → ¬ b = g3a → w7 b = w b := fun b g0 g1 g2 g3 => by rw [hw7]; exact (x_set_ne _ _ g3).trans (hf b g0 g1 g2)
  refine x_dup F dX10_init_30 rfl ?_
  refine x_cI0 F dX10_init_31 (x_gI q351) q9 q349 q350 rfl (c_li_init h_l3) ⟨rfl, rfl, rfl, xd_Jx4a65c_init_da8c8, ⟨Nat.le_of_ble_eq_true rfl, Nat.le_of_ble_eq_true rfl⟩, Nat.le_of_ble_eq_true rfl, Nat.le_of_ble_eq_true rfl⟩ (Nat.le_of_ble_eq_true rfl) (fun w1q hp => ?_)
  obtain ⟨w8, hw8⟩ : ∃ w8, w8 = w1q := ⟨_, rfl⟩
  rw [← hw8]
  rw [hp] at hw8
  have h_r : w8 r = some (.inr (6, [.ref g1a, .ref g2a, .null, .null, .int 0])) := by rw [hw8, x_set_ne _ _ ne_r_l3]; exact h_r
  have h_l1 : w8 g1a = some (oE (dA 99)) := by rw [hw8, x_set_ne _ _ ne_l1_l3]; exact h_l1
  have h_l2 : w8 g2a = some (oE (dA 99)) := by rw [hw8, x_set_ne _ _ ne_l2_l3]; exact h_l2
  have h_l3 : w8 g3a = some (oE (dA 99)) := by rw [hw8]; exact x_set_eq _ _ _
  have hf : ∀ b, ¬ b = r → ¬ b = g1a → ¬ b = g2a → ¬ b = g3a → w8 b = w b := fun b g0 g1 g2 g3 => by rw [hw8]; exact (x_set_ne _ _ g3).trans (hf b g0 g1 g2 g3)
  refine x_putF (ci := 6) (C := RX10) (T := TX10) (N := 5) (k := 2) F dX10_init_34 rfl inX10 tyX10 tyX10_ok nmX10 (by decide) q374 rfl rfl rfl rfl h_r (Nat.le_of_ble_eq_true rfl) rfl rfl ?_
  refine x_wd (fun w9 hw9 => ?_)
  have h_r : w9 r = some (.inr (6, [.ref g1a, .ref g2a, .ref g3a, .null, .int 0])) := by rw [hw9]; exact x_set_eq _ _ _
  have h_l1 : w9 g1a = some (oE (dA 99)) := by rw [hw9, x_set_ne _ _ (fun e => ne_r_l1 e.symm)]; exact h_l1
  have h_l2 : w9 g2a = some (oE (dA 99)) := by rw [hw9, x_set_ne _ _ (fun e => ne_r_l2 e.symm)]; exact h_l2
  have h_l3 : w9 g3a = some (oE (dA 99)) := by rw [hw9, x_set_ne _ _ (fun e => ne_r_l3 e.symm)]; exact h_l3
  have hf : ∀ b, ¬ b = r → ¬ b = g1a → ¬ b = g2a → ¬ b = g3a → w9 b = w b := fun b g0 g1 g2 g3 => by rw [hw9]; exact (x_set_ne _ _ g0).trans (hf b g0 g1 g2 g3)
  refine x_aload_n F dX10_init_37 rfl rfl ?_
  refine x_new (ci := 1) (C := RJx4a65c) (T := TJx4a65c) (N := 3) (fs := [.int 0, .null, .int 0]) F dX10_init_38 rfl inJx4a65c tyJx4a65c tyJx4a65c_ok q347 q348 q9 (fun j hj => by rcases (show j = 0 ∨ j = 1 ∨ j = 2 by omega) with rfl | rfl | rfl <;> rfl) (Nat.le_of_ble_eq_true rfl) (Nat.le_of_ble_eq_true rfl) (fun g4a hg4a => ?_)
  refine x_wd (fun w10 hw10 => ?_)
  have ne_r_l4 : ¬ r = g4a := fun e => by rw [e, hg4a] at h_r; cases h_r
  have ne_l1_l4 : ¬ g1a = g4a := fun e => by rw [e, hg4a] at h_l1; cases h_l1
  have ne_l2_l4 : ¬ g2a = g4a := fun e => by rw [e, hg4a] at h_l2; cases h_l2
  have ne_l3_l4 : ¬ g3a = g4a := fun e => by rw [e, hg4a] at h_l3; cases h_l3
  have fr_l4 : w g4a = none := by rw [← hf g4a (fun e => ne_r_l4 e.symm) (fun e => ne_l1_l4 e.symm) (fun e => ne_l2_l4 e.symm) (fun e => ne_l3_l4 e.symm)]; exact hg4a
  have h_r : w10 r = some (.inr (6, [.ref g1a, .ref g2a, .ref g3a, .null, .int 0])) := by rw [hw10, x_set_ne _ _ ne_r_l4]; exact h_r
  have h_l1 : w10 g1a = some (oE (dA 99)) := by rw [hw10, x_set_ne _ _ ne_l1_l4]; exact h_l1
  have h_l2 : w10 g2a = some (oE (dA 99)) := by rw [hw10, x_set_ne _ _ ne_l2_l4]; exact h_l2
  have h_l3 : w10 g3a = some (oE (dA 99)) := by rw [hw10, x_set_ne _ _ ne_l3_l4]; exact h_l3
  have h_l4 : w10 g4a = some (.inr (1, [.int 0, .null, .int 0])) := by rw [hw10]; exact x_set_eq _ _ _
  have hf : ∀ b, ¬ b = r → ¬ b = g1a → ¬ b = g2a → ¬ b = g3a → ¬ b = g4a → w10 b = w b := fun b g0 g1 g2 g3 g4 => by rw [hw10]; exact (x_set_ne _ _ g4).trans (hf b g0 g1 g2 g3)
  refine x_dup F dX10_init_41 rfl ?_
  refine x_cI0 F dX10_init_42 (x_gI q351) q9 q349 q350 rfl (c_li_init h_l4) ⟨rfl, rfl, rfl, xd_Jx4a65c_init_da8c8, ⟨Nat.le_of_ble_eq_true rfl, Nat.le_of_ble_eq_true rfl⟩, Nat.le_of_ble_eq_true rfl, Nat.le_of_ble_eq_true rfl⟩ (Nat.le_of_ble_eq_true rfl) (fun w1q hp => ?_)
  obtain ⟨w11, hw11⟩ : ∃ w11, w11 = w1q := ⟨_, rfl⟩
  rw [← hw11]
  rw [hp] at hw11
  have h_r : w11 r = some (.inr (6, [.ref g1a, .ref g2a, .ref g3a, .null, .int 0])) := by rw [hw11, x_set_ne _ _ ne_r_l4]; exact h_r
  have h_l1 : w11 g1a = some (oE (dA 99)) := by rw [hw11, x_set_ne _ _ ne_l1_l4]; exact h_l1
  have h_l2 : w11 g2a = some (oE (dA 99)) := by rw [hw11, x_set_ne _ _ ne_l2_l4]; exact h_l2
  have h_l3 : w11 g3a = some (oE (dA 99)) := by rw [hw11, x_set_ne _ _ ne_l3_l4]; exact h_l3
  have h_l4 : w11 g4a = some (oE (dA 99)) := by rw [hw11]; exact x_set_eq _ _ _
  have hf : ∀ b, ¬ b = r → ¬ b = g1a → ¬ b = g2a → ¬ b = g3a → ¬ b = g4a → w11 b = w b := fun b g0 g1 g2 g3 g4 => by rw [hw11]; exact (x_set_ne _ _ g4).trans (hf b g0 g1 g2 g3 g4)
  refine x_putF (ci := 6) (C := RX10) (T := TX10) (N := 5) (k := 3) F dX10_init_45 rfl inX10 tyX10 tyX10_ok nmX10 (by decide) q376 rfl rfl rfl rfl h_r (Nat.le_of_ble_eq_true rfl) rfl rfl ?_
  refine x_wd (fun w12 hw12 => ?_)
  have h_r : w12 r = some (.inr (6, [.ref g1a, .ref g2a, .ref g3a, .ref g4a, .int 0])) := by rw [hw12]; exact x_set_eq _ _ _
  have h_l1 : w12 g1a = some (oE (dA 99)) := by rw [hw12, x_set_ne _ _ (fun e => ne_r_l1 e.symm)]; exact h_l1
  have h_l2 : w12 g2a = some (oE (dA 99)) := by rw [hw12, x_set_ne _ _ (fun e => ne_r_l2 e.symm)]; exact h_l2
  have h_l3 : w12 g3a = some (oE (dA 99)) := by rw [hw12, x_set_ne _ _ (fun e => ne_r_l3 e.symm)]; exact h_l3
  have h_l4 : w12 g4a = some (oE (dA 99)) := by rw [hw12, x_set_ne _ _ (fun e => ne_r_l4 e.symm)]; exact h_l4
  have hf : ∀ b, ¬ b = r → ¬ b = g1a → ¬ b = g2a → ¬ b = g3a → ¬ b = g4a → w12 b = w b := fun b g0 g1 g2 g3 g4 => by rw [hw12]; exact (x_set_ne _ _ g0).trans (hf b g0 g1 g2 g3 g4)
  refine x_vret F rfl dX10_init_48 (Nat.le_of_ble_eq_true rfl) (Nat.le_of_ble_eq_true rfl) ?_
  refine ⟨rfl, g1a, g2a, g3a, g4a, h_r, h_l1, h_l2, h_l3, h_l4, fun b x hx hne => ?_⟩
  rw [hf b hne (fun e => by rw [e, fr_l1] at hx; cases hx) (fun e => by rw [e, fr_l2] at hx; cases hx) (fun e => by rw [e, fr_l3] at hx; cases hx) (fun e => by rw [e, fr_l4] at hx; cases hx)]
  exact hx
set_option maxRecDepth 100000 in
set_option maxHeartbeats 4000000 in
theorem m_init {mo : Nat} (h : w mo = some (.inr (7, [.int 0, .null]))) : x_Cv l D dA vwC1 tyL1 B yX12_init wX12_init (rmd 6 5 17) [.ref mo] w (fun w1 => ∃ re fa cl ad ca, MR w1 (dA 99) mo re fa cl ad ca 0 0 ∧ ∀ b x, w b = some x → ¬ b = mo → w1 b = some x) 5 17 := by
  refine x_Ct.of (cc := cX12_init) (maxL := 1) (by decide) rfl (Nat.le_of_ble_eq_true rfl) ?_
  intro p e s m below meth c F
  refine x_aload_n F dX12_init_0 rfl rfl ?_
  refine x_objInit F dX12_init_1 q341 q37 q38 (Nat.le_of_ble_eq_true rfl) (Nat.le_of_ble_eq_true rfl) ?_
  refine x_aload_n F dX12_init_4 rfl rfl ?_
  refine x_new (ci := 6) (C := RX10) (T := TX10) (N := 5) (fs := [.null, .null, .null, .null, .int 0]) F dX12_init_5 rfl inX10 tyX10 tyX10_ok q342 q343 q6 (fun j hj => by rcases (show j = 0 ∨ j = 1 ∨ j = 2 ∨ j = 3 ∨ j = 4 by omega) with rfl | rfl | rfl | rfl | rfl <;> rfl) (Nat.le_of_ble_eq_true rfl) (Nat.le_of_ble_eq_true rfl) (fun re hre => ?_)
  refine x_wd (fun w1 hw1 => ?_)
  have h_re : w1 re = some (.inr (6, [.null, .null, .null, .null, .int 0])) := by rw [hw1]; exact x_set_eq _ _ _
  have ne_mr : ¬ mo = re := w_neN h hre
  have h_mo : w1 mo = some (.inr (7, [.int 0, .null])) := by rw [hw1, x_set_ne _ _ ne_mr]; exact h
  refine x_dup F dX12_init_8 rfl ?_
  refine x_cIN0 F dX12_init_9 (x_gI q345) q6 (x11 (x_Fix.xt F)) q344 rfl (m_reg_init h_re) ⟨rfl, rfl, rfl, xd_X10_init, ⟨Nat.le_of_ble_eq_true rfl, Nat.le_of_ble_eq_true rfl⟩, Nat.le_of_ble_eq_true rfl, Nat.le_of_ble_eq_true rfl⟩ (Nat.le_of_ble_eq_true rfl) (fun w1 hp => ?_)
  obtain ⟨fa, cl, ad, ca, g0, g1, g2, g3, g4, g5⟩ := hp
  have h_mo2 := g5 _ _ h_mo ne_mr
  refine x_putF (ci := 7) (C := RX12) (T := TX12) (N := 2) (k := 1) F dX12_init_12 rfl inX12 tyX12 tyX12_ok nmX12 (by decide) q386 rfl rfl rfl rfl h_mo2 (Nat.le_of_ble_eq_true rfl) rfl rfl ?_
  refine x_wd (fun w4 hw4 => ?_)
  refine x_vret F rfl dX12_init_15 (Nat.le_of_ble_eq_true rfl) (Nat.le_of_ble_eq_true rfl) ?_
  refine ⟨rfl, re, fa, cl, ad, ca, ⟨by rw [hw4]; exact x_set_eq _ _ _, ?_, ?_, ?_, ?_, ?_⟩, fun b x hx hb => ?_⟩
  · rw [hw4, x_set_ne _ _ (fun q => ne_mr q.symm)]; exact g0
  · rw [hw4, x_set_ne _ _ (w_ne g1 h_mo2 (fun z => by cases z))]; exact g1
  · rw [hw4, x_set_ne _ _ (w_ne g2 h_mo2 (fun z => by cases z))]; exact g2
  · rw [hw4, x_set_ne _ _ (w_ne g3 h_mo2 (fun z => by cases z))]; exact g3
  · rw [hw4, x_set_ne _ _ (w_ne g4 h_mo2 (fun z => by cases z))]; exact g4
  · rw [hw4, x_set_ne _ _ hb]
    refine g5 b x ?_ (w_neN hx hre)
    rw [hw1, x_set_ne _ _ (w_neN hx hre)]
    exact hx
end MD2
