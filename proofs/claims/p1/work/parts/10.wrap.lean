theorem dL_publish_0 : decode cL_publish 0 = .ok (.aload 4, 2) := by decide +kernel
theorem dL_publish_2 : decode cL_publish 2 = .ok (.iconst 0, 1) := by decide +kernel
theorem dL_publish_3 : decode cL_publish 3 = .ok (.aload_n 0, 1) := by decide +kernel
theorem dL_publish_4 : decode cL_publish 4 = .ok (.iload_n 1, 1) := by decide +kernel
theorem dL_publish_5 : decode cL_publish 5 = .ok (.iload_n 2, 1) := by decide +kernel
theorem dL_publish_6 : decode cL_publish 6 = .ok (.iload_n 3, 1) := by decide +kernel
theorem dL_publish_7 : decode cL_publish 7 = .ok (.invokevirtual 15, 3) := by decide +kernel
theorem dL_publish_15 : decode cL_publish 15 = .ok (.astore 5, 2) := by decide +kernel
theorem dL_publish_17 : decode cL_publish 17 = .ok (.iconst 1, 1) := by decide +kernel
theorem dL_publish_18 : decode cL_publish 18 = .ok (.ireturn, 1) := by decide +kernel
theorem dL_ofVersion_0 : decode cL_ofVersion 0 = .ok (.aload 4, 2) := by decide +kernel
theorem dL_ofVersion_2 : decode cL_ofVersion 2 = .ok (.iconst 0, 1) := by decide +kernel
theorem dL_ofVersion_3 : decode cL_ofVersion 3 = .ok (.aload_n 0, 1) := by decide +kernel
theorem dL_ofVersion_4 : decode cL_ofVersion 4 = .ok (.iload_n 1, 1) := by decide +kernel
theorem dL_ofVersion_5 : decode cL_ofVersion 5 = .ok (.iload_n 2, 1) := by decide +kernel
theorem dL_ofVersion_6 : decode cL_ofVersion 6 = .ok (.iload_n 3, 1) := by decide +kernel
theorem dL_ofVersion_7 : decode cL_ofVersion 7 = .ok (.invokevirtual 23, 3) := by decide +kernel
theorem dL_ofVersion_15 : decode cL_ofVersion 15 = .ok (.astore 5, 2) := by decide +kernel
theorem dL_ofVersion_17 : decode cL_ofVersion 17 = .ok (.iconst 1, 1) := by decide +kernel
theorem dL_ofVersion_18 : decode cL_ofVersion 18 = .ok (.ireturn, 1) := by decide +kernel
theorem dL_isCompatible_0 : decode cL_isCompatible 0 = .ok (.aload 4, 2) := by decide +kernel
theorem dL_isCompatible_2 : decode cL_isCompatible 2 = .ok (.iconst 0, 1) := by decide +kernel
theorem dL_isCompatible_3 : decode cL_isCompatible 3 = .ok (.aload_n 0, 1) := by decide +kernel
theorem dL_isCompatible_4 : decode cL_isCompatible 4 = .ok (.iload_n 1, 1) := by decide +kernel
theorem dL_isCompatible_5 : decode cL_isCompatible 5 = .ok (.iload_n 2, 1) := by decide +kernel
theorem dL_isCompatible_6 : decode cL_isCompatible 6 = .ok (.iload_n 3, 1) := by decide +kernel
theorem dL_isCompatible_7 : decode cL_isCompatible 7 = .ok (.invokevirtual 26, 3) := by decide +kernel
theorem dL_isCompatible_22 : decode cL_isCompatible 22 = .ok (.astore 5, 2) := by decide +kernel
theorem dL_isCompatible_24 : decode cL_isCompatible 24 = .ok (.iconst 1, 1) := by decide +kernel
theorem dL_isCompatible_25 : decode cL_isCompatible 25 = .ok (.ireturn, 1) := by decide +kernel
theorem dL_client_0 : decode cL_client 0 = .ok (.aload 5, 2) := by decide +kernel
theorem dL_client_2 : decode cL_client 2 = .ok (.iconst 0, 1) := by decide +kernel
theorem dL_client_3 : decode cL_client 3 = .ok (.aload_n 0, 1) := by decide +kernel
theorem dL_client_4 : decode cL_client 4 = .ok (.iload_n 1, 1) := by decide +kernel
theorem dL_client_5 : decode cL_client 5 = .ok (.iload_n 2, 1) := by decide +kernel
theorem dL_client_6 : decode cL_client 6 = .ok (.iload_n 3, 1) := by decide +kernel
theorem dL_client_7 : decode cL_client 7 = .ok (.iload 4, 2) := by decide +kernel
theorem dL_client_9 : decode cL_client 9 = .ok (.invokevirtual 30, 3) := by decide +kernel
theorem dL_client_17 : decode cL_client 17 = .ok (.astore 6, 2) := by decide +kernel
theorem dL_client_19 : decode cL_client 19 = .ok (.iconst 1, 1) := by decide +kernel
theorem dL_client_20 : decode cL_client 20 = .ok (.ireturn, 1) := by decide +kernel
theorem dL_again_0 : decode cL_again 0 = .ok (.aload_n 3, 1) := by decide +kernel
theorem dL_again_1 : decode cL_again 1 = .ok (.iconst 0, 1) := by decide +kernel
theorem dL_again_2 : decode cL_again 2 = .ok (.aload_n 0, 1) := by decide +kernel
theorem dL_again_3 : decode cL_again 3 = .ok (.iload_n 1, 1) := by decide +kernel
theorem dL_again_4 : decode cL_again 4 = .ok (.iload_n 2, 1) := by decide +kernel
theorem dL_again_5 : decode cL_again 5 = .ok (.invokevirtual 34, 3) := by decide +kernel
theorem dL_again_13 : decode cL_again 13 = .ok (.astore 4, 2) := by decide +kernel
theorem dL_again_15 : decode cL_again 15 = .ok (.iconst 1, 1) := by decide +kernel
theorem dL_again_16 : decode cL_again 16 = .ok (.ireturn, 1) := by decide +kernel
theorem dL_adapter_0 : decode cL_adapter 0 = .ok (.aload 6, 2) := by decide +kernel
theorem dL_adapter_2 : decode cL_adapter 2 = .ok (.iconst 0, 1) := by decide +kernel
theorem dL_adapter_3 : decode cL_adapter 3 = .ok (.aload_n 0, 1) := by decide +kernel
theorem dL_adapter_4 : decode cL_adapter 4 = .ok (.iload_n 1, 1) := by decide +kernel
theorem dL_adapter_5 : decode cL_adapter 5 = .ok (.iload_n 2, 1) := by decide +kernel
theorem dL_adapter_6 : decode cL_adapter 6 = .ok (.iload_n 3, 1) := by decide +kernel
theorem dL_adapter_7 : decode cL_adapter 7 = .ok (.iload 4, 2) := by decide +kernel
theorem dL_adapter_9 : decode cL_adapter 9 = .ok (.iload 5, 2) := by decide +kernel
theorem dL_adapter_11 : decode cL_adapter 11 = .ok (.invokevirtual 38, 3) := by decide +kernel
theorem dL_adapter_19 : decode cL_adapter 19 = .ok (.astore 7, 2) := by decide +kernel
theorem dL_adapter_21 : decode cL_adapter 21 = .ok (.iconst 1, 1) := by decide +kernel
theorem dL_adapter_22 : decode cL_adapter 22 = .ok (.ireturn, 1) := by decide +kernel
theorem dL_ofClient_0 : decode cL_ofClient 0 = .ok (.aload_n 3, 1) := by decide +kernel
theorem dL_ofClient_1 : decode cL_ofClient 1 = .ok (.iconst 0, 1) := by decide +kernel
theorem dL_ofClient_2 : decode cL_ofClient 2 = .ok (.aload_n 0, 1) := by decide +kernel
theorem dL_ofClient_3 : decode cL_ofClient 3 = .ok (.iload_n 1, 1) := by decide +kernel
theorem dL_ofClient_4 : decode cL_ofClient 4 = .ok (.iload_n 2, 1) := by decide +kernel
theorem dL_ofClient_5 : decode cL_ofClient 5 = .ok (.invokevirtual 42, 3) := by decide +kernel
theorem dL_ofClient_13 : decode cL_ofClient 13 = .ok (.astore 4, 2) := by decide +kernel
theorem dL_ofClient_15 : decode cL_ofClient 15 = .ok (.iconst 1, 1) := by decide +kernel
theorem dL_ofClient_16 : decode cL_ofClient 16 = .ok (.ireturn, 1) := by decide +kernel
theorem dL_routed_0 : decode cL_routed 0 = .ok (.aload_n 3, 1) := by decide +kernel
theorem dL_routed_1 : decode cL_routed 1 = .ok (.iconst 0, 1) := by decide +kernel
theorem dL_routed_2 : decode cL_routed 2 = .ok (.aload_n 0, 1) := by decide +kernel
theorem dL_routed_3 : decode cL_routed 3 = .ok (.iload_n 1, 1) := by decide +kernel
theorem dL_routed_4 : decode cL_routed 4 = .ok (.iload_n 2, 1) := by decide +kernel
theorem dL_routed_5 : decode cL_routed 5 = .ok (.invokevirtual 45, 3) := by decide +kernel
theorem dL_routed_13 : decode cL_routed 13 = .ok (.astore 4, 2) := by decide +kernel
theorem dL_routed_15 : decode cL_routed 15 = .ok (.iconst 1, 1) := by decide +kernel
theorem dL_routed_16 : decode cL_routed 16 = .ok (.ireturn, 1) := by decide +kernel
theorem dL_call_0 : decode cL_call 0 = .ok (.aload_n 3, 1) := by decide +kernel
theorem dL_call_1 : decode cL_call 1 = .ok (.iconst 0, 1) := by decide +kernel
theorem dL_call_2 : decode cL_call 2 = .ok (.aload_n 0, 1) := by decide +kernel
theorem dL_call_3 : decode cL_call 3 = .ok (.iload_n 1, 1) := by decide +kernel
theorem dL_call_4 : decode cL_call 4 = .ok (.iload_n 2, 1) := by decide +kernel
theorem dL_call_5 : decode cL_call 5 = .ok (.invokevirtual 48, 3) := by decide +kernel
theorem dL_call_13 : decode cL_call 13 = .ok (.astore 4, 2) := by decide +kernel
theorem dL_call_15 : decode cL_call 15 = .ok (.iconst 1, 1) := by decide +kernel
theorem dL_call_16 : decode cL_call 16 = .ok (.ireturn, 1) := by decide +kernel
theorem dL_lastCall_0 : decode cL_lastCall 0 = .ok (.aload_n 3, 1) := by decide +kernel
theorem dL_lastCall_1 : decode cL_lastCall 1 = .ok (.iconst 0, 1) := by decide +kernel
theorem dL_lastCall_2 : decode cL_lastCall 2 = .ok (.aload_n 0, 1) := by decide +kernel
theorem dL_lastCall_3 : decode cL_lastCall 3 = .ok (.iload_n 1, 1) := by decide +kernel
theorem dL_lastCall_4 : decode cL_lastCall 4 = .ok (.iload_n 2, 1) := by decide +kernel
theorem dL_lastCall_5 : decode cL_lastCall 5 = .ok (.invokevirtual 55, 3) := by decide +kernel
theorem dL_lastCall_13 : decode cL_lastCall 13 = .ok (.astore 4, 2) := by decide +kernel
theorem dL_lastCall_15 : decode cL_lastCall 15 = .ok (.iconst 1, 1) := by decide +kernel
theorem dL_lastCall_16 : decode cL_lastCall 16 = .ok (.ireturn, 1) := by decide +kernel
theorem dL_retire_0 : decode cL_retire 0 = .ok (.aload 4, 2) := by decide +kernel
theorem dL_retire_2 : decode cL_retire 2 = .ok (.iconst 0, 1) := by decide +kernel
theorem dL_retire_3 : decode cL_retire 3 = .ok (.aload_n 0, 1) := by decide +kernel
theorem dL_retire_4 : decode cL_retire 4 = .ok (.iload_n 1, 1) := by decide +kernel
theorem dL_retire_5 : decode cL_retire 5 = .ok (.iload_n 2, 1) := by decide +kernel
theorem dL_retire_6 : decode cL_retire 6 = .ok (.iload_n 3, 1) := by decide +kernel
theorem dL_retire_7 : decode cL_retire 7 = .ok (.invokevirtual 58, 3) := by decide +kernel
theorem dL_retire_15 : decode cL_retire 15 = .ok (.astore 5, 2) := by decide +kernel
theorem dL_retire_17 : decode cL_retire 17 = .ok (.iconst 1, 1) := by decide +kernel
theorem dL_retire_18 : decode cL_retire 18 = .ok (.ireturn, 1) := by decide +kernel
theorem dL_answer_0 : decode cL_answer 0 = .ok (.aload 4, 2) := by decide +kernel
theorem dL_answer_2 : decode cL_answer 2 = .ok (.iconst 0, 1) := by decide +kernel
theorem dL_answer_3 : decode cL_answer 3 = .ok (.aload_n 0, 1) := by decide +kernel
theorem dL_answer_4 : decode cL_answer 4 = .ok (.iload_n 1, 1) := by decide +kernel
theorem dL_answer_5 : decode cL_answer 5 = .ok (.iload_n 2, 1) := by decide +kernel
theorem dL_answer_6 : decode cL_answer 6 = .ok (.iload_n 3, 1) := by decide +kernel
theorem dL_answer_7 : decode cL_answer 7 = .ok (.invokevirtual 61, 3) := by decide +kernel
theorem dL_answer_22 : decode cL_answer 22 = .ok (.astore 5, 2) := by decide +kernel
theorem dL_answer_24 : decode cL_answer 24 = .ok (.iconst 1, 1) := by decide +kernel
theorem dL_answer_25 : decode cL_answer 25 = .ok (.ireturn, 1) := by decide +kernel
theorem dL_recall_0 : decode cL_recall 0 = .ok (.aload_n 3, 1) := by decide +kernel
theorem dL_recall_1 : decode cL_recall 1 = .ok (.iconst 0, 1) := by decide +kernel
theorem dL_recall_2 : decode cL_recall 2 = .ok (.aload_n 0, 1) := by decide +kernel
theorem dL_recall_3 : decode cL_recall 3 = .ok (.iload_n 1, 1) := by decide +kernel
theorem dL_recall_4 : decode cL_recall 4 = .ok (.iload_n 2, 1) := by decide +kernel
theorem dL_recall_5 : decode cL_recall 5 = .ok (.invokevirtual 64, 3) := by decide +kernel
theorem dL_recall_13 : decode cL_recall 13 = .ok (.astore 4, 2) := by decide +kernel
theorem dL_recall_15 : decode cL_recall 15 = .ok (.iconst 1, 1) := by decide +kernel
theorem dL_recall_16 : decode cL_recall 16 = .ok (.ireturn, 1) := by decide +kernel
theorem dL_asked_0 : decode cL_asked 0 = .ok (.aload 4, 2) := by decide +kernel
theorem dL_asked_2 : decode cL_asked 2 = .ok (.iconst 0, 1) := by decide +kernel
theorem dL_asked_3 : decode cL_asked 3 = .ok (.aload_n 0, 1) := by decide +kernel
theorem dL_asked_4 : decode cL_asked 4 = .ok (.iload_n 1, 1) := by decide +kernel
theorem dL_asked_5 : decode cL_asked 5 = .ok (.iload_n 2, 1) := by decide +kernel
theorem dL_asked_6 : decode cL_asked 6 = .ok (.iload_n 3, 1) := by decide +kernel
theorem dL_asked_7 : decode cL_asked 7 = .ok (.invokevirtual 67, 3) := by decide +kernel
theorem dL_asked_15 : decode cL_asked 15 = .ok (.astore 5, 2) := by decide +kernel
theorem dL_asked_17 : decode cL_asked 17 = .ok (.iconst 1, 1) := by decide +kernel
theorem dL_asked_18 : decode cL_asked 18 = .ok (.ireturn, 1) := by decide +kernel
theorem dL_wouldCome_0 : decode cL_wouldCome 0 = .ok (.aload_n 3, 1) := by decide +kernel
theorem dL_wouldCome_1 : decode cL_wouldCome 1 = .ok (.iconst 0, 1) := by decide +kernel
theorem dL_wouldCome_2 : decode cL_wouldCome 2 = .ok (.aload_n 0, 1) := by decide +kernel
theorem dL_wouldCome_3 : decode cL_wouldCome 3 = .ok (.iload_n 1, 1) := by decide +kernel
theorem dL_wouldCome_4 : decode cL_wouldCome 4 = .ok (.iload_n 2, 1) := by decide +kernel
theorem dL_wouldCome_5 : decode cL_wouldCome 5 = .ok (.invokevirtual 73, 3) := by decide +kernel
theorem dL_wouldCome_13 : decode cL_wouldCome 13 = .ok (.astore 4, 2) := by decide +kernel
theorem dL_wouldCome_15 : decode cL_wouldCome 15 = .ok (.iconst 1, 1) := by decide +kernel
theorem dL_wouldCome_16 : decode cL_wouldCome 16 = .ok (.ireturn, 1) := by decide +kernel
theorem dL_goneIn_0 : decode cL_goneIn 0 = .ok (.aload_n 3, 1) := by decide +kernel
theorem dL_goneIn_1 : decode cL_goneIn 1 = .ok (.iconst 0, 1) := by decide +kernel
theorem dL_goneIn_2 : decode cL_goneIn 2 = .ok (.aload_n 0, 1) := by decide +kernel
theorem dL_goneIn_3 : decode cL_goneIn 3 = .ok (.iload_n 1, 1) := by decide +kernel
theorem dL_goneIn_4 : decode cL_goneIn 4 = .ok (.iload_n 2, 1) := by decide +kernel
theorem dL_goneIn_5 : decode cL_goneIn 5 = .ok (.invokevirtual 76, 3) := by decide +kernel
theorem dL_goneIn_13 : decode cL_goneIn 13 = .ok (.astore 4, 2) := by decide +kernel
theorem dL_goneIn_15 : decode cL_goneIn 15 = .ok (.iconst 1, 1) := by decide +kernel
theorem dL_goneIn_16 : decode cL_goneIn 16 = .ok (.ireturn, 1) := by decide +kernel
theorem dL_wouldBreak_0 : decode cL_wouldBreak 0 = .ok (.aload 4, 2) := by decide +kernel
theorem dL_wouldBreak_2 : decode cL_wouldBreak 2 = .ok (.iconst 0, 1) := by decide +kernel
theorem dL_wouldBreak_3 : decode cL_wouldBreak 3 = .ok (.aload_n 0, 1) := by decide +kernel
theorem dL_wouldBreak_4 : decode cL_wouldBreak 4 = .ok (.iload_n 1, 1) := by decide +kernel
theorem dL_wouldBreak_5 : decode cL_wouldBreak 5 = .ok (.iload_n 2, 1) := by decide +kernel
theorem dL_wouldBreak_6 : decode cL_wouldBreak 6 = .ok (.iload_n 3, 1) := by decide +kernel
theorem dL_wouldBreak_7 : decode cL_wouldBreak 7 = .ok (.invokevirtual 79, 3) := by decide +kernel
theorem dL_wouldBreak_15 : decode cL_wouldBreak 15 = .ok (.astore 5, 2) := by decide +kernel
theorem dL_wouldBreak_17 : decode cL_wouldBreak 17 = .ok (.iconst 1, 1) := by decide +kernel
theorem dL_wouldBreak_18 : decode cL_wouldBreak 18 = .ok (.ireturn, 1) := by decide +kernel
theorem dL_target_0 : decode cL_target 0 = .ok (.aload_n 2, 1) := by decide +kernel
theorem dL_target_1 : decode cL_target 1 = .ok (.iconst 0, 1) := by decide +kernel
theorem dL_target_2 : decode cL_target 2 = .ok (.aload_n 0, 1) := by decide +kernel
theorem dL_target_3 : decode cL_target 3 = .ok (.iload_n 1, 1) := by decide +kernel
theorem dL_target_4 : decode cL_target 4 = .ok (.invokevirtual 82, 3) := by decide +kernel
theorem dL_target_12 : decode cL_target 12 = .ok (.astore_n 3, 1) := by decide +kernel
theorem dL_target_13 : decode cL_target 13 = .ok (.iconst 1, 1) := by decide +kernel
theorem dL_target_14 : decode cL_target 14 = .ok (.ireturn, 1) := by decide +kernel
theorem dL_goneBy_0 : decode cL_goneBy 0 = .ok (.aload 4, 2) := by decide +kernel
theorem dL_goneBy_2 : decode cL_goneBy 2 = .ok (.iconst 0, 1) := by decide +kernel
theorem dL_goneBy_3 : decode cL_goneBy 3 = .ok (.aload_n 0, 1) := by decide +kernel
theorem dL_goneBy_4 : decode cL_goneBy 4 = .ok (.iload_n 1, 1) := by decide +kernel
theorem dL_goneBy_5 : decode cL_goneBy 5 = .ok (.iload_n 2, 1) := by decide +kernel
theorem dL_goneBy_6 : decode cL_goneBy 6 = .ok (.iload_n 3, 1) := by decide +kernel
theorem dL_goneBy_7 : decode cL_goneBy 7 = .ok (.invokevirtual 85, 3) := by decide +kernel
theorem dL_goneBy_15 : decode cL_goneBy 15 = .ok (.astore 5, 2) := by decide +kernel
theorem dL_goneBy_17 : decode cL_goneBy 17 = .ok (.iconst 1, 1) := by decide +kernel
theorem dL_goneBy_18 : decode cL_goneBy 18 = .ok (.ireturn, 1) := by decide +kernel
theorem dL_many_0 : decode cL_many 0 = .ok (.aload_n 2, 1) := by decide +kernel
theorem dL_many_1 : decode cL_many 1 = .ok (.iconst 0, 1) := by decide +kernel
theorem dL_many_2 : decode cL_many 2 = .ok (.aload_n 0, 1) := by decide +kernel
theorem dL_many_3 : decode cL_many 3 = .ok (.iload_n 1, 1) := by decide +kernel
theorem dL_many_4 : decode cL_many 4 = .ok (.invokevirtual 70, 3) := by decide +kernel
theorem dL_many_12 : decode cL_many 12 = .ok (.astore_n 3, 1) := by decide +kernel
theorem dL_many_13 : decode cL_many 13 = .ok (.iconst 1, 1) := by decide +kernel
theorem dL_many_14 : decode cL_many 14 = .ok (.ireturn, 1) := by decide +kernel
theorem dL_pass_0 : decode cL_pass 0 = .ok (.aload_n 2, 1) := by decide +kernel
theorem dL_pass_1 : decode cL_pass 1 = .ok (.iconst 0, 1) := by decide +kernel
theorem dL_pass_2 : decode cL_pass 2 = .ok (.aload_n 0, 1) := by decide +kernel
theorem dL_pass_3 : decode cL_pass 3 = .ok (.iload_n 1, 1) := by decide +kernel
theorem dL_pass_4 : decode cL_pass 4 = .ok (.invokevirtual 51, 3) := by decide +kernel
theorem dL_pass_12 : decode cL_pass 12 = .ok (.astore_n 3, 1) := by decide +kernel
theorem dL_pass_13 : decode cL_pass 13 = .ok (.iconst 1, 1) := by decide +kernel
theorem dL_pass_14 : decode cL_pass 14 = .ok (.ireturn, 1) := by decide +kernel
theorem dL_open_0 : decode cL_open 0 = .ok (.aload_n 1, 1) := by decide +kernel
theorem dL_open_1 : decode cL_open 1 = .ok (.iconst 0, 1) := by decide +kernel
theorem dL_open_2 : decode cL_open 2 = .ok (.aload_n 0, 1) := by decide +kernel
theorem dL_open_3 : decode cL_open 3 = .ok (.invokevirtual 7, 3) := by decide +kernel
theorem dL_open_6 : decode cL_open 6 = .ok (.i2l, 1) := by decide +kernel
theorem dL_open_7 : decode cL_open 7 = .ok (.lastore, 1) := by decide +kernel
theorem dL_open_8 : decode cL_open 8 = .ok (.goto 6, 3) := by decide +kernel
theorem dL_open_14 : decode cL_open 14 = .ok (.iconst 0, 1) := by decide +kernel
theorem dL_open_15 : decode cL_open 15 = .ok (.ireturn, 1) := by decide +kernel
theorem dL_many_7 : decode cL_many 7 = .ok (.i2l, 1) := by decide +kernel
theorem dL_many_8 : decode cL_many 8 = .ok (.lastore, 1) := by decide +kernel
theorem dL_many_9 : decode cL_many 9 = .ok (.goto 6, 3) := by decide +kernel
theorem dL_many_15 : decode cL_many 15 = .ok (.iconst 0, 1) := by decide +kernel
theorem dL_many_16 : decode cL_many 16 = .ok (.ireturn, 1) := by decide +kernel
theorem dL_pass_7 : decode cL_pass 7 = .ok (.i2l, 1) := by decide +kernel
theorem dL_pass_8 : decode cL_pass 8 = .ok (.lastore, 1) := by decide +kernel
theorem dL_pass_9 : decode cL_pass 9 = .ok (.goto 6, 3) := by decide +kernel
theorem dL_pass_15 : decode cL_pass 15 = .ok (.iconst 0, 1) := by decide +kernel
theorem dL_pass_16 : decode cL_pass 16 = .ok (.ireturn, 1) := by decide +kernel
/-! ===== the law's own methods: a call, and which exception ===== -/
section WRP
variable {l : Launch} {D : va_G} {dA : Nat → ClassId} {B : Nat} {w : xW} {M Fa Ca Aa Ro Tr o : Nat} {n : Int32}
theorem upd0 (f : Nat → Int64) : vp_updL f (0 : Int32).toNatClampNeg ((0 : Int32).toInt64) 0 = 0 := by
  unfold vp_updL
  rw [if_pos (by decide)]
  decide
theorem m_thr {mo re : Nat} {t : Int32} (h : w mo = some (oM t re)) : Ci l D dA B yX12_thrown wX12_thrown 0 [.ref mo] w (fun v w1 => v = .int t ∧ w1 = w) := by
  refine x_Ct.of (cc := cX12_thrown) (maxL := 1) (by decide) rfl (Nat.le_of_ble_eq_true rfl) ?_
  intro p e s m below meth c F
  refine x_aload_n F dX12_thrown_0 rfl rfl ?_
  refine x_get (ci := 7) (C := RX12) (T := TX12) (N := 2) (k := 0) F dX12_thrown_1 rfl inX12 (by decide) q385 rfl h rfl ?_
  refine x_iret F rfl rfl dX12_thrown_4 (Nat.le_of_ble_eq_true rfl) (Nat.le_of_ble_eq_true rfl) ?_
  exact ⟨_, rfl, rfl, rfl⟩
set_option maxRecDepth 100000 in
set_option maxHeartbeats 4000000 in
theorem w_publish (hl : l.stackTraces = false) (hF : FR w M Fa Ca Aa Ro Tr n) (x1 x2 x3 : Int32) (o : Nat) : x_Ci l D dA vwC1 tyL1 B yL_publish wL_publish (rmd 10 1 6) [.ref M, .int x1, .int x2, .int x3, .ref o] w (fun v w1 => v = .int 1 ∧ w1 = w) 1 6 := by
  refine x_Ct.ofH (cc := cL_publish) (maxL := 6) (hh := [(0, 12, 15, 19), (0, 12, 19, 21), (0, 12, 23, 13)]) (by decide) rfl (Nat.le_of_ble_eq_true rfl) ?_
  intro p e s m below meth c F htb
  have hM0 := hF.1
  refine x_aload F dL_publish_0 rfl ?_
  refine x_iconst (v := 0) F dL_publish_2 (by decide) ?_
  refine x_aload_n F dL_publish_3 rfl rfl ?_
  refine x_iload_n F dL_publish_4 rfl rfl ?_
  refine x_iload_n F dL_publish_5 rfl rfl ?_
  refine x_iload_n F dL_publish_6 rfl rfl ?_
  refine x_callTV (x := ⟨0, 12, 15, 19⟩) (hh := [(0, 12, 15, 19), (0, 12, 19, 21), (0, 12, 23, 13)]) (av := [.int x1, .int x2, .int x3]) (rest := [.int 0, .ref o]) (ci := 5) (C := RX6) (T := TX6) (N := 12) (nmE := "java/lang/IndexOutOfBoundsException") F dL_publish_7 (x_gV q159 q160 q161 q1 q162) rfl (t_publish hl hF x1 x2 x3) ⟨rfl, rfl, rfl, xd_X6_publish, ⟨Nat.le_of_ble_eq_true rfl, Nat.le_of_ble_eq_true rfl⟩, Nat.le_of_ble_eq_true rfl, Nat.le_of_ble_eq_true rfl⟩ rfl hM0 rfl rfl (Nat.le_of_ble_eq_true rfl) htb rfl (by decide) (by decide) q157 (x9 (x_Fix.xt F)) rfl (fun q => ?_)
  refine x_astore F dL_publish_15 (by decide) ?_
  refine x_iconst (v := 1) F dL_publish_17 (by decide) ?_
  refine x_iret F rfl rfl dL_publish_18 (Nat.le_of_ble_eq_true rfl) (Nat.le_of_ble_eq_true rfl) ?_
  exact ⟨_, rfl, rfl, rfl⟩
set_option maxRecDepth 100000 in
set_option maxHeartbeats 4000000 in
theorem w_ofVersion (hl : l.stackTraces = false) (hF : FR w M Fa Ca Aa Ro Tr n) (x1 x2 x3 : Int32) (o : Nat) : x_Ci l D dA vwC1 tyL1 B yL_ofVersion wL_ofVersion (rmd 10 1 6) [.ref M, .int x1, .int x2, .int x3, .ref o] w (fun v w1 => v = .int 1 ∧ w1 = w) 1 6 := by
  refine x_Ct.ofH (cc := cL_ofVersion) (maxL := 6) (hh := [(0, 12, 15, 19), (0, 12, 19, 21)]) (by decide) rfl (Nat.le_of_ble_eq_true rfl) ?_
  intro p e s m below meth c F htb
  have hM0 := hF.1
  refine x_aload F dL_ofVersion_0 rfl ?_
  refine x_iconst (v := 0) F dL_ofVersion_2 (by decide) ?_
  refine x_aload_n F dL_ofVersion_3 rfl rfl ?_
  refine x_iload_n F dL_ofVersion_4 rfl rfl ?_
  refine x_iload_n F dL_ofVersion_5 rfl rfl ?_
  refine x_iload_n F dL_ofVersion_6 rfl rfl ?_
  refine x_callTV (x := ⟨0, 12, 15, 19⟩) (hh := [(0, 12, 15, 19), (0, 12, 19, 21)]) (av := [.int x1, .int x2, .int x3]) (rest := [.int 0, .ref o]) (ci := 5) (C := RX6) (T := TX6) (N := 12) (nmE := "java/lang/IndexOutOfBoundsException") F dL_ofVersion_7 (x_gV q181 q182 q183 q1 q184) rfl (t_ofVersion hl hF x1 x2 x3) ⟨rfl, rfl, rfl, xd_X6_ofVersion, ⟨Nat.le_of_ble_eq_true rfl, Nat.le_of_ble_eq_true rfl⟩, Nat.le_of_ble_eq_true rfl, Nat.le_of_ble_eq_true rfl⟩ rfl hM0 rfl rfl (Nat.le_of_ble_eq_true rfl) htb rfl (by decide) (by decide) q157 (x9 (x_Fix.xt F)) rfl (fun q => ?_)
  refine x_astore F dL_ofVersion_15 (by decide) ?_
  refine x_iconst (v := 1) F dL_ofVersion_17 (by decide) ?_
  refine x_iret F rfl rfl dL_ofVersion_18 (Nat.le_of_ble_eq_true rfl) (Nat.le_of_ble_eq_true rfl) ?_
  exact ⟨_, rfl, rfl, rfl⟩
set_option maxRecDepth 100000 in
set_option maxHeartbeats 4000000 in
theorem w_isCompatible (hl : l.stackTraces = false) (hF : FR w M Fa Ca Aa Ro Tr n) (x1 x2 x3 : Int32) (o : Nat) : x_Ci l D dA vwC1 tyL1 B yL_isCompatible wL_isCompatible (rmd 10 1 6) [.ref M, .int x1, .int x2, .int x3, .ref o] w (fun v w1 => v = .int 1 ∧ w1 = w) 1 6 := by
  refine x_Ct.ofH (cc := cL_isCompatible) (maxL := 6) (hh := [(0, 19, 22, 19)]) (by decide) rfl (Nat.le_of_ble_eq_true rfl) ?_
  intro p e s m below meth c F htb
  have hM0 := hF.1
  refine x_aload F dL_isCompatible_0 rfl ?_
  refine x_iconst (v := 0) F dL_isCompatible_2 (by decide) ?_
  refine x_aload_n F dL_isCompatible_3 rfl rfl ?_
  refine x_iload_n F dL_isCompatible_4 rfl rfl ?_
  refine x_iload_n F dL_isCompatible_5 rfl rfl ?_
  refine x_iload_n F dL_isCompatible_6 rfl rfl ?_
  refine x_callTV (x := ⟨0, 19, 22, 19⟩) (hh := [(0, 19, 22, 19)]) (av := [.int x1, .int x2, .int x3]) (rest := [.int 0, .ref o]) (ci := 5) (C := RX6) (T := TX6) (N := 12) (nmE := "java/lang/IndexOutOfBoundsException") F dL_isCompatible_7 (x_gV q188 q189 q190 q1 q191) rfl (t_isCompatible hl hF x1 x2 x3) ⟨rfl, rfl, rfl, xd_X6_isCompatible, ⟨Nat.le_of_ble_eq_true rfl, Nat.le_of_ble_eq_true rfl⟩, Nat.le_of_ble_eq_true rfl, Nat.le_of_ble_eq_true rfl⟩ rfl hM0 rfl rfl (Nat.le_of_ble_eq_true rfl) htb rfl (by decide) (by decide) q157 (x9 (x_Fix.xt F)) rfl (fun q => ?_)
  refine x_astore F dL_isCompatible_22 (by decide) ?_
  refine x_iconst (v := 1) F dL_isCompatible_24 (by decide) ?_
  refine x_iret F rfl rfl dL_isCompatible_25 (Nat.le_of_ble_eq_true rfl) (Nat.le_of_ble_eq_true rfl) ?_
  exact ⟨_, rfl, rfl, rfl⟩
set_option maxRecDepth 100000 in
set_option maxHeartbeats 4000000 in
theorem w_client (hl : l.stackTraces = false) (hF : FR w M Fa Ca Aa Ro Tr n) (x1 x2 x3 x4 : Int32) (o : Nat) : x_Ci l D dA vwC1 tyL1 B yL_client wL_client (rmd 10 1 6) [.ref M, .int x1, .int x2, .int x3, .int x4, .ref o] w (fun v w1 => v = .int 1 ∧ w1 = w) 1 6 := by
  refine x_Ct.ofH (cc := cL_client) (maxL := 7) (hh := [(0, 14, 17, 19), (0, 14, 21, 21), (0, 14, 25, 13)]) (by decide) rfl (Nat.le_of_ble_eq_true rfl) ?_
  intro p e s m below meth c F htb
  have hM0 := hF.1
  refine x_aload F dL_client_0 rfl ?_
  refine x_iconst (v := 0) F dL_client_2 (by decide) ?_
  refine x_aload_n F dL_client_3 rfl rfl ?_
  refine x_iload_n F dL_client_4 rfl rfl ?_
  refine x_iload_n F dL_client_5 rfl rfl ?_
  refine x_iload_n F dL_client_6 rfl rfl ?_
  refine x_iload F dL_client_7 rfl ?_
  refine x_callTV (x := ⟨0, 14, 17, 19⟩) (hh := [(0, 14, 17, 19), (0, 14, 21, 21), (0, 14, 25, 13)]) (av := [.int x1, .int x2, .int x3, .int x4]) (rest := [.int 0, .ref o]) (ci := 5) (C := RX6) (T := TX6) (N := 12) (nmE := "java/lang/IndexOutOfBoundsException") F dL_client_9 (x_gV q195 q196 q197 q1 q198) rfl (t_client hl hF x1 x2 x3 x4) ⟨rfl, rfl, rfl, xd_X6_client, ⟨Nat.le_of_ble_eq_true rfl, Nat.le_of_ble_eq_true rfl⟩, Nat.le_of_ble_eq_true rfl, Nat.le_of_ble_eq_true rfl⟩ rfl hM0 rfl rfl (Nat.le_of_ble_eq_true rfl) htb rfl (by decide) (by decide) q157 (x9 (x_Fix.xt F)) rfl (fun q => ?_)
  refine x_astore F dL_client_17 (by decide) ?_
  refine x_iconst (v := 1) F dL_client_19 (by decide) ?_
  refine x_iret F rfl rfl dL_client_20 (Nat.le_of_ble_eq_true rfl) (Nat.le_of_ble_eq_true rfl) ?_
  exact ⟨_, rfl, rfl, rfl⟩
set_option maxRecDepth 100000 in
set_option maxHeartbeats 4000000 in
theorem w_again (hl : l.stackTraces = false) (hF : FR w M Fa Ca Aa Ro Tr n) (x1 x2 : Int32) (o : Nat) : x_Ci l D dA vwC1 tyL1 B yL_again wL_again (rmd 10 1 6) [.ref M, .int x1, .int x2, .ref o] w (fun v w1 => v = .int 1 ∧ w1 = w) 1 6 := by
  refine x_Ct.ofH (cc := cL_again) (maxL := 5) (hh := [(0, 10, 13, 19), (0, 10, 17, 13)]) (by decide) rfl (Nat.le_of_ble_eq_true rfl) ?_
  intro p e s m below meth c F htb
  have hM0 := hF.1
  refine x_aload_n F dL_again_0 rfl rfl ?_
  refine x_iconst (v := 0) F dL_again_1 (by decide) ?_
  refine x_aload_n F dL_again_2 rfl rfl ?_
  refine x_iload_n F dL_again_3 rfl rfl ?_
  refine x_iload_n F dL_again_4 rfl rfl ?_
  refine x_callTV (x := ⟨0, 10, 13, 19⟩) (hh := [(0, 10, 13, 19), (0, 10, 17, 13)]) (av := [.int x1, .int x2]) (rest := [.int 0, .ref o]) (ci := 5) (C := RX6) (T := TX6) (N := 12) (nmE := "java/lang/IndexOutOfBoundsException") F dL_again_5 (x_gV q210 q211 q212 q1 q213) rfl (t_again hl hF x1 x2) ⟨rfl, rfl, rfl, xd_X6_again, ⟨Nat.le_of_ble_eq_true rfl, Nat.le_of_ble_eq_true rfl⟩, Nat.le_of_ble_eq_true rfl, Nat.le_of_ble_eq_true rfl⟩ rfl hM0 rfl rfl (Nat.le_of_ble_eq_true rfl) htb rfl (by decide) (by decide) q157 (x9 (x_Fix.xt F)) rfl (fun q => ?_)
  refine x_astore F dL_again_13 (by decide) ?_
  refine x_iconst (v := 1) F dL_again_15 (by decide) ?_
  refine x_iret F rfl rfl dL_again_16 (Nat.le_of_ble_eq_true rfl) (Nat.le_of_ble_eq_true rfl) ?_
  exact ⟨_, rfl, rfl, rfl⟩
set_option maxRecDepth 100000 in
set_option maxHeartbeats 4000000 in
theorem w_adapter (hl : l.stackTraces = false) (hF : FR w M Fa Ca Aa Ro Tr n) (x1 x2 x3 x4 x5 : Int32) (o : Nat) : x_Ci l D dA vwC1 tyL1 B yL_adapter wL_adapter (rmd 10 1 6) [.ref M, .int x1, .int x2, .int x3, .int x4, .int x5, .ref o] w (fun v w1 => v = .int 1 ∧ w1 = w) 1 6 := by
  refine x_Ct.ofH (cc := cL_adapter) (maxL := 8) (hh := [(0, 16, 19, 19), (0, 16, 23, 21), (0, 16, 27, 13)]) (by decide) rfl (Nat.le_of_ble_eq_true rfl) ?_
  intro p e s m below meth c F htb
  have hM0 := hF.1
  refine x_aload F dL_adapter_0 rfl ?_
  refine x_iconst (v := 0) F dL_adapter_2 (by decide) ?_
  refine x_aload_n F dL_adapter_3 rfl rfl ?_
  refine x_iload_n F dL_adapter_4 rfl rfl ?_
  refine x_iload_n F dL_adapter_5 rfl rfl ?_
  refine x_iload_n F dL_adapter_6 rfl rfl ?_
  refine x_iload F dL_adapter_7 rfl ?_
  refine x_iload F dL_adapter_9 rfl ?_
  refine x_callTV (x := ⟨0, 16, 19, 19⟩) (hh := [(0, 16, 19, 19), (0, 16, 23, 21), (0, 16, 27, 13)]) (av := [.int x1, .int x2, .int x3, .int x4, .int x5]) (rest := [.int 0, .ref o]) (ci := 5) (C := RX6) (T := TX6) (N := 12) (nmE := "java/lang/IndexOutOfBoundsException") F dL_adapter_11 (x_gV q220 q221 q222 q1 q223) rfl (t_adapter hl hF x1 x2 x3 x4 x5) ⟨rfl, rfl, rfl, xd_X6_adapter, ⟨Nat.le_of_ble_eq_true rfl, Nat.le_of_ble_eq_true rfl⟩, Nat.le_of_ble_eq_true rfl, Nat.le_of_ble_eq_true rfl⟩ rfl hM0 rfl rfl (Nat.le_of_ble_eq_true rfl) htb rfl (by decide) (by decide) q157 (x9 (x_Fix.xt F)) rfl (fun q => ?_)
  refine x_astore F dL_adapter_19 (by decide) ?_
  refine x_iconst (v := 1) F dL_adapter_21 (by decide) ?_
  refine x_iret F rfl rfl dL_adapter_22 (Nat.le_of_ble_eq_true rfl) (Nat.le_of_ble_eq_true rfl) ?_
  exact ⟨_, rfl, rfl, rfl⟩
set_option maxRecDepth 100000 in
set_option maxHeartbeats 4000000 in
theorem w_ofClient (hl : l.stackTraces = false) (hF : FR w M Fa Ca Aa Ro Tr n) (x1 x2 : Int32) (o : Nat) : x_Ci l D dA vwC1 tyL1 B yL_ofClient wL_ofClient (rmd 10 1 6) [.ref M, .int x1, .int x2, .ref o] w (fun v w1 => v = .int 1 ∧ w1 = w) 1 6 := by
  refine x_Ct.ofH (cc := cL_ofClient) (maxL := 5) (hh := [(0, 10, 13, 19), (0, 10, 17, 21)]) (by decide) rfl (Nat.le_of_ble_eq_true rfl) ?_
  intro p e s m below meth c F htb
  have hM0 := hF.1
  refine x_aload_n F dL_ofClient_0 rfl rfl ?_
  refine x_iconst (v := 0) F dL_ofClient_1 (by decide) ?_
  refine x_aload_n F dL_ofClient_2 rfl rfl ?_
  refine x_iload_n F dL_ofClient_3 rfl rfl ?_
  refine x_iload_n F dL_ofClient_4 rfl rfl ?_
  refine x_callTV (x := ⟨0, 10, 13, 19⟩) (hh := [(0, 10, 13, 19), (0, 10, 17, 21)]) (av := [.int x1, .int x2]) (rest := [.int 0, .ref o]) (ci := 5) (C := RX6) (T := TX6) (N := 12) (nmE := "java/lang/IndexOutOfBoundsException") F dL_ofClient_5 (x_gV q230 q231 q232 q1 q233) rfl (t_ofClient hl hF x1 x2) ⟨rfl, rfl, rfl, xd_X6_ofClient, ⟨Nat.le_of_ble_eq_true rfl, Nat.le_of_ble_eq_true rfl⟩, Nat.le_of_ble_eq_true rfl, Nat.le_of_ble_eq_true rfl⟩ rfl hM0 rfl rfl (Nat.le_of_ble_eq_true rfl) htb rfl (by decide) (by decide) q157 (x9 (x_Fix.xt F)) rfl (fun q => ?_)
  refine x_astore F dL_ofClient_13 (by decide) ?_
  refine x_iconst (v := 1) F dL_ofClient_15 (by decide) ?_
  refine x_iret F rfl rfl dL_ofClient_16 (Nat.le_of_ble_eq_true rfl) (Nat.le_of_ble_eq_true rfl) ?_
  exact ⟨_, rfl, rfl, rfl⟩
set_option maxRecDepth 100000 in
set_option maxHeartbeats 4000000 in
theorem w_routed (hl : l.stackTraces = false) (hF : FR w M Fa Ca Aa Ro Tr n) (x1 x2 : Int32) (o : Nat) : x_Ci l D dA vwC1 tyL1 B yL_routed wL_routed (rmd 10 1 6) [.ref M, .int x1, .int x2, .ref o] w (fun v w1 => v = .int 1 ∧ w1 = w) 1 6 := by
  refine x_Ct.ofH (cc := cL_routed) (maxL := 5) (hh := [(0, 10, 13, 19)]) (by decide) rfl (Nat.le_of_ble_eq_true rfl) ?_
  intro p e s m below meth c F htb
  have hM0 := hF.1
  refine x_aload_n F dL_routed_0 rfl rfl ?_
  refine x_iconst (v := 0) F dL_routed_1 (by decide) ?_
  refine x_aload_n F dL_routed_2 rfl rfl ?_
  refine x_iload_n F dL_routed_3 rfl rfl ?_
  refine x_iload_n F dL_routed_4 rfl rfl ?_
  refine x_callTV (x := ⟨0, 10, 13, 19⟩) (hh := [(0, 10, 13, 19)]) (av := [.int x1, .int x2]) (rest := [.int 0, .ref o]) (ci := 5) (C := RX6) (T := TX6) (N := 12) (nmE := "java/lang/IndexOutOfBoundsException") F dL_routed_5 (x_gV q237 q238 q239 q1 q240) rfl (t_routed hl hF x1 x2) ⟨rfl, rfl, rfl, xd_X6_routed, ⟨Nat.le_of_ble_eq_true rfl, Nat.le_of_ble_eq_true rfl⟩, Nat.le_of_ble_eq_true rfl, Nat.le_of_ble_eq_true rfl⟩ rfl hM0 rfl rfl (Nat.le_of_ble_eq_true rfl) htb rfl (by decide) (by decide) q157 (x9 (x_Fix.xt F)) rfl (fun q => ?_)
  refine x_astore F dL_routed_13 (by decide) ?_
  refine x_iconst (v := 1) F dL_routed_15 (by decide) ?_
  refine x_iret F rfl rfl dL_routed_16 (Nat.le_of_ble_eq_true rfl) (Nat.le_of_ble_eq_true rfl) ?_
  exact ⟨_, rfl, rfl, rfl⟩
set_option maxRecDepth 100000 in
set_option maxHeartbeats 4000000 in
theorem w_call (hl : l.stackTraces = false) (hF : FR w M Fa Ca Aa Ro Tr n) (x1 x2 : Int32) (o : Nat) : x_Ci l D dA vwC1 tyL1 B yL_call wL_call (rmd 10 1 6) [.ref M, .int x1, .int x2, .ref o] w (fun v w1 => v = .int 1 ∧ w1 = w) 1 6 := by
  refine x_Ct.ofH (cc := cL_call) (maxL := 5) (hh := [(0, 10, 13, 19), (0, 10, 17, 21)]) (by decide) rfl (Nat.le_of_ble_eq_true rfl) ?_
  intro p e s m below meth c F htb
  have hM0 := hF.1
  refine x_aload_n F dL_call_0 rfl rfl ?_
  refine x_iconst (v := 0) F dL_call_1 (by decide) ?_
  refine x_aload_n F dL_call_2 rfl rfl ?_
  refine x_iload_n F dL_call_3 rfl rfl ?_
  refine x_iload_n F dL_call_4 rfl rfl ?_
  refine x_callTV (x := ⟨0, 10, 13, 19⟩) (hh := [(0, 10, 13, 19), (0, 10, 17, 21)]) (av := [.int x1, .int x2]) (rest := [.int 0, .ref o]) (ci := 5) (C := RX6) (T := TX6) (N := 12) (nmE := "java/lang/IndexOutOfBoundsException") F dL_call_5 (x_gV q244 q245 q246 q1 q247) rfl (t_call hl hF x1 x2) ⟨rfl, rfl, rfl, xd_X6_call, ⟨Nat.le_of_ble_eq_true rfl, Nat.le_of_ble_eq_true rfl⟩, Nat.le_of_ble_eq_true rfl, Nat.le_of_ble_eq_true rfl⟩ rfl hM0 rfl rfl (Nat.le_of_ble_eq_true rfl) htb rfl (by decide) (by decide) q157 (x9 (x_Fix.xt F)) rfl (fun q => ?_)
  refine x_astore F dL_call_13 (by decide) ?_
  refine x_iconst (v := 1) F dL_call_15 (by decide) ?_
  refine x_iret F rfl rfl dL_call_16 (Nat.le_of_ble_eq_true rfl) (Nat.le_of_ble_eq_true rfl) ?_
  exact ⟨_, rfl, rfl, rfl⟩
set_option maxRecDepth 100000 in
set_option maxHeartbeats 4000000 in
theorem w_lastCall (hl : l.stackTraces = false) (hF : FR w M Fa Ca Aa Ro Tr n) (x1 x2 : Int32) (o : Nat) : x_Ci l D dA vwC1 tyL1 B yL_lastCall wL_lastCall (rmd 10 1 6) [.ref M, .int x1, .int x2, .ref o] w (fun v w1 => v = .int 1 ∧ w1 = w) 1 6 := by
  refine x_Ct.ofH (cc := cL_lastCall) (maxL := 5) (hh := [(0, 10, 13, 19)]) (by decide) rfl (Nat.le_of_ble_eq_true rfl) ?_
  intro p e s m below meth c F htb
  have hM0 := hF.1
  refine x_aload_n F dL_lastCall_0 rfl rfl ?_
  refine x_iconst (v := 0) F dL_lastCall_1 (by decide) ?_
  refine x_aload_n F dL_lastCall_2 rfl rfl ?_
  refine x_iload_n F dL_lastCall_3 rfl rfl ?_
  refine x_iload_n F dL_lastCall_4 rfl rfl ?_
  refine x_callTV (x := ⟨0, 10, 13, 19⟩) (hh := [(0, 10, 13, 19)]) (av := [.int x1, .int x2]) (rest := [.int 0, .ref o]) (ci := 5) (C := RX6) (T := TX6) (N := 12) (nmE := "java/lang/IndexOutOfBoundsException") F dL_lastCall_5 (x_gV q262 q263 q264 q1 q265) rfl (t_lastCall hl hF x1 x2) ⟨rfl, rfl, rfl, xd_X6_lastCall, ⟨Nat.le_of_ble_eq_true rfl, Nat.le_of_ble_eq_true rfl⟩, Nat.le_of_ble_eq_true rfl, Nat.le_of_ble_eq_true rfl⟩ rfl hM0 rfl rfl (Nat.le_of_ble_eq_true rfl) htb rfl (by decide) (by decide) q157 (x9 (x_Fix.xt F)) rfl (fun q => ?_)
  refine x_astore F dL_lastCall_13 (by decide) ?_
  refine x_iconst (v := 1) F dL_lastCall_15 (by decide) ?_
  refine x_iret F rfl rfl dL_lastCall_16 (Nat.le_of_ble_eq_true rfl) (Nat.le_of_ble_eq_true rfl) ?_
  exact ⟨_, rfl, rfl, rfl⟩
set_option maxRecDepth 100000 in
set_option maxHeartbeats 4000000 in
theorem w_retire (hl : l.stackTraces = false) (hF : FR w M Fa Ca Aa Ro Tr n) (x1 x2 x3 : Int32) (o : Nat) : x_Ci l D dA vwC1 tyL1 B yL_retire wL_retire (rmd 10 1 6) [.ref M, .int x1, .int x2, .int x3, .ref o] w (fun v w1 => v = .int 1 ∧ w1 = w) 1 6 := by
  refine x_Ct.ofH (cc := cL_retire) (maxL := 6) (hh := [(0, 12, 15, 19), (0, 12, 19, 21), (0, 12, 23, 13)]) (by decide) rfl (Nat.le_of_ble_eq_true rfl) ?_
  intro p e s m below meth c F htb
  have hM0 := hF.1
  refine x_aload F dL_retire_0 rfl ?_
  refine x_iconst (v := 0) F dL_retire_2 (by decide) ?_
  refine x_aload_n F dL_retire_3 rfl rfl ?_
  refine x_iload_n F dL_retire_4 rfl rfl ?_
  refine x_iload_n F dL_retire_5 rfl rfl ?_
  refine x_iload_n F dL_retire_6 rfl rfl ?_
  refine x_callTV (x := ⟨0, 12, 15, 19⟩) (hh := [(0, 12, 15, 19), (0, 12, 19, 21), (0, 12, 23, 13)]) (av := [.int x1, .int x2, .int x3]) (rest := [.int 0, .ref o]) (ci := 5) (C := RX6) (T := TX6) (N := 12) (nmE := "java/lang/IndexOutOfBoundsException") F dL_retire_7 (x_gV q269 q270 q271 q1 q272) rfl (t_retire hl hF x1 x2 x3) ⟨rfl, rfl, rfl, xd_X6_retire, ⟨Nat.le_of_ble_eq_true rfl, Nat.le_of_ble_eq_true rfl⟩, Nat.le_of_ble_eq_true rfl, Nat.le_of_ble_eq_true rfl⟩ rfl hM0 rfl rfl (Nat.le_of_ble_eq_true rfl) htb rfl (by decide) (by decide) q157 (x9 (x_Fix.xt F)) rfl (fun q => ?_)
  refine x_astore F dL_retire_15 (by decide) ?_
  refine x_iconst (v := 1) F dL_retire_17 (by decide) ?_
  refine x_iret F rfl rfl dL_retire_18 (Nat.le_of_ble_eq_true rfl) (Nat.le_of_ble_eq_true rfl) ?_
  exact ⟨_, rfl, rfl, rfl⟩
set_option maxRecDepth 100000 in
set_option maxHeartbeats 4000000 in
theorem w_answer (hl : l.stackTraces = false) (hF : FR w M Fa Ca Aa Ro Tr n) (x1 x2 x3 : Int32) (o : Nat) : x_Ci l D dA vwC1 tyL1 B yL_answer wL_answer (rmd 10 1 6) [.ref M, .int x1, .int x2, .int x3, .ref o] w (fun v w1 => v = .int 1 ∧ w1 = w) 1 6 := by
  refine x_Ct.ofH (cc := cL_answer) (maxL := 6) (hh := [(0, 19, 22, 19), (0, 19, 26, 13)]) (by decide) rfl (Nat.le_of_ble_eq_true rfl) ?_
  intro p e s m below meth c F htb
  have hM0 := hF.1
  refine x_aload F dL_answer_0 rfl ?_
  refine x_iconst (v := 0) F dL_answer_2 (by decide) ?_
  refine x_aload_n F dL_answer_3 rfl rfl ?_
  refine x_iload_n F dL_answer_4 rfl rfl ?_
  refine x_iload_n F dL_answer_5 rfl rfl ?_
  refine x_iload_n F dL_answer_6 rfl rfl ?_
  refine x_callTV (x := ⟨0, 19, 22, 19⟩) (hh := [(0, 19, 22, 19), (0, 19, 26, 13)]) (av := [.int x1, .int x2, .int x3]) (rest := [.int 0, .ref o]) (ci := 5) (C := RX6) (T := TX6) (N := 12) (nmE := "java/lang/IndexOutOfBoundsException") F dL_answer_7 (x_gV q276 q277 q278 q1 q279) rfl (t_answer hl hF x1 x2 x3) ⟨rfl, rfl, rfl, xd_X6_answer, ⟨Nat.le_of_ble_eq_true rfl, Nat.le_of_ble_eq_true rfl⟩, Nat.le_of_ble_eq_true rfl, Nat.le_of_ble_eq_true rfl⟩ rfl hM0 rfl rfl (Nat.le_of_ble_eq_true rfl) htb rfl (by decide) (by decide) q157 (x9 (x_Fix.xt F)) rfl (fun q => ?_)
  refine x_astore F dL_answer_22 (by decide) ?_
  refine x_iconst (v := 1) F dL_answer_24 (by decide) ?_
  refine x_iret F rfl rfl dL_answer_25 (Nat.le_of_ble_eq_true rfl) (Nat.le_of_ble_eq_true rfl) ?_
  exact ⟨_, rfl, rfl, rfl⟩
set_option maxRecDepth 100000 in
set_option maxHeartbeats 4000000 in
theorem w_recall (hl : l.stackTraces = false) (hF : FR w M Fa Ca Aa Ro Tr n) (x1 x2 : Int32) (o : Nat) : x_Ci l D dA vwC1 tyL1 B yL_recall wL_recall (rmd 10 1 6) [.ref M, .int x1, .int x2, .ref o] w (fun v w1 => v = .int 1 ∧ w1 = w) 1 6 := by
  refine x_Ct.ofH (cc := cL_recall) (maxL := 5) (hh := [(0, 10, 13, 19), (0, 10, 17, 13)]) (by decide) rfl (Nat.le_of_ble_eq_true rfl) ?_
  intro p e s m below meth c F htb
  have hM0 := hF.1
  refine x_aload_n F dL_recall_0 rfl rfl ?_
  refine x_iconst (v := 0) F dL_recall_1 (by decide) ?_
  refine x_aload_n F dL_recall_2 rfl rfl ?_
  refine x_iload_n F dL_recall_3 rfl rfl ?_
  refine x_iload_n F dL_recall_4 rfl rfl ?_
  refine x_callTV (x := ⟨0, 10, 13, 19⟩) (hh := [(0, 10, 13, 19), (0, 10, 17, 13)]) (av := [.int x1, .int x2]) (rest := [.int 0, .ref o]) (ci := 5) (C := RX6) (T := TX6) (N := 12) (nmE := "java/lang/IndexOutOfBoundsException") F dL_recall_5 (x_gV q283 q284 q285 q1 q286) rfl (t_recall hl hF x1 x2) ⟨rfl, rfl, rfl, xd_X6_recall, ⟨Nat.le_of_ble_eq_true rfl, Nat.le_of_ble_eq_true rfl⟩, Nat.le_of_ble_eq_true rfl, Nat.le_of_ble_eq_true rfl⟩ rfl hM0 rfl rfl (Nat.le_of_ble_eq_true rfl) htb rfl (by decide) (by decide) q157 (x9 (x_Fix.xt F)) rfl (fun q => ?_)
  refine x_astore F dL_recall_13 (by decide) ?_
  refine x_iconst (v := 1) F dL_recall_15 (by decide) ?_
  refine x_iret F rfl rfl dL_recall_16 (Nat.le_of_ble_eq_true rfl) (Nat.le_of_ble_eq_true rfl) ?_
  exact ⟨_, rfl, rfl, rfl⟩
set_option maxRecDepth 100000 in
set_option maxHeartbeats 4000000 in
theorem w_asked (hl : l.stackTraces = false) (hF : FR w M Fa Ca Aa Ro Tr n) (x1 x2 x3 : Int32) (o : Nat) : x_Ci l D dA vwC1 tyL1 B yL_asked wL_asked (rmd 10 1 6) [.ref M, .int x1, .int x2, .int x3, .ref o] w (fun v w1 => v = .int 1 ∧ w1 = w) 1 6 := by
  refine x_Ct.ofH (cc := cL_asked) (maxL := 6) (hh := [(0, 12, 15, 19)]) (by decide) rfl (Nat.le_of_ble_eq_true rfl) ?_
  intro p e s m below meth c F htb
  have hM0 := hF.1
  refine x_aload F dL_asked_0 rfl ?_
  refine x_iconst (v := 0) F dL_asked_2 (by decide) ?_
  refine x_aload_n F dL_asked_3 rfl rfl ?_
  refine x_iload_n F dL_asked_4 rfl rfl ?_
  refine x_iload_n F dL_asked_5 rfl rfl ?_
  refine x_iload_n F dL_asked_6 rfl rfl ?_
  refine x_callTV (x := ⟨0, 12, 15, 19⟩) (hh := [(0, 12, 15, 19)]) (av := [.int x1, .int x2, .int x3]) (rest := [.int 0, .ref o]) (ci := 5) (C := RX6) (T := TX6) (N := 12) (nmE := "java/lang/IndexOutOfBoundsException") F dL_asked_7 (x_gV q290 q291 q292 q1 q293) rfl (t_asked hl hF x1 x2 x3) ⟨rfl, rfl, rfl, xd_X6_asked, ⟨Nat.le_of_ble_eq_true rfl, Nat.le_of_ble_eq_true rfl⟩, Nat.le_of_ble_eq_true rfl, Nat.le_of_ble_eq_true rfl⟩ rfl hM0 rfl rfl (Nat.le_of_ble_eq_true rfl) htb rfl (by decide) (by decide) q157 (x9 (x_Fix.xt F)) rfl (fun q => ?_)
  refine x_astore F dL_asked_15 (by decide) ?_
  refine x_iconst (v := 1) F dL_asked_17 (by decide) ?_
  refine x_iret F rfl rfl dL_asked_18 (Nat.le_of_ble_eq_true rfl) (Nat.le_of_ble_eq_true rfl) ?_
  exact ⟨_, rfl, rfl, rfl⟩
set_option maxRecDepth 100000 in
set_option maxHeartbeats 4000000 in
theorem w_wouldCome (hl : l.stackTraces = false) (hF : FR w M Fa Ca Aa Ro Tr n) (x1 x2 : Int32) (o : Nat) : x_Ci l D dA vwC1 tyL1 B yL_wouldCome wL_wouldCome (rmd 10 1 6) [.ref M, .int x1, .int x2, .ref o] w (fun v w1 => v = .int 1 ∧ w1 = w) 1 6 := by
  refine x_Ct.ofH (cc := cL_wouldCome) (maxL := 5) (hh := [(0, 10, 13, 19), (0, 10, 17, 21)]) (by decide) rfl (Nat.le_of_ble_eq_true rfl) ?_
  intro p e s m below meth c F htb
  have hM0 := hF.1
  refine x_aload_n F dL_wouldCome_0 rfl rfl ?_
  refine x_iconst (v := 0) F dL_wouldCome_1 (by decide) ?_
  refine x_aload_n F dL_wouldCome_2 rfl rfl ?_
  refine x_iload_n F dL_wouldCome_3 rfl rfl ?_
  refine x_iload_n F dL_wouldCome_4 rfl rfl ?_
  refine x_callTV (x := ⟨0, 10, 13, 19⟩) (hh := [(0, 10, 13, 19), (0, 10, 17, 21)]) (av := [.int x1, .int x2]) (rest := [.int 0, .ref o]) (ci := 5) (C := RX6) (T := TX6) (N := 12) (nmE := "java/lang/IndexOutOfBoundsException") F dL_wouldCome_5 (x_gV q304 q305 q306 q1 q307) rfl (t_wouldCome hl hF x1 x2) ⟨rfl, rfl, rfl, xd_X6_wouldCome, ⟨Nat.le_of_ble_eq_true rfl, Nat.le_of_ble_eq_true rfl⟩, Nat.le_of_ble_eq_true rfl, Nat.le_of_ble_eq_true rfl⟩ rfl hM0 rfl rfl (Nat.le_of_ble_eq_true rfl) htb rfl (by decide) (by decide) q157 (x9 (x_Fix.xt F)) rfl (fun q => ?_)
  refine x_astore F dL_wouldCome_13 (by decide) ?_
  refine x_iconst (v := 1) F dL_wouldCome_15 (by decide) ?_
  refine x_iret F rfl rfl dL_wouldCome_16 (Nat.le_of_ble_eq_true rfl) (Nat.le_of_ble_eq_true rfl) ?_
  exact ⟨_, rfl, rfl, rfl⟩
set_option maxRecDepth 100000 in
set_option maxHeartbeats 4000000 in
theorem w_goneIn (hl : l.stackTraces = false) (hF : FR w M Fa Ca Aa Ro Tr n) (x1 x2 : Int32) (o : Nat) : x_Ci l D dA vwC1 tyL1 B yL_goneIn wL_goneIn (rmd 10 1 6) [.ref M, .int x1, .int x2, .ref o] w (fun v w1 => v = .int 1 ∧ w1 = w) 1 6 := by
  refine x_Ct.ofH (cc := cL_goneIn) (maxL := 5) (hh := [(0, 10, 13, 19)]) (by decide) rfl (Nat.le_of_ble_eq_true rfl) ?_
  intro p e s m below meth c F htb
  have hM0 := hF.1
  refine x_aload_n F dL_goneIn_0 rfl rfl ?_
  refine x_iconst (v := 0) F dL_goneIn_1 (by decide) ?_
  refine x_aload_n F dL_goneIn_2 rfl rfl ?_
  refine x_iload_n F dL_goneIn_3 rfl rfl ?_
  refine x_iload_n F dL_goneIn_4 rfl rfl ?_
  refine x_callTV (x := ⟨0, 10, 13, 19⟩) (hh := [(0, 10, 13, 19)]) (av := [.int x1, .int x2]) (rest := [.int 0, .ref o]) (ci := 5) (C := RX6) (T := TX6) (N := 12) (nmE := "java/lang/IndexOutOfBoundsException") F dL_goneIn_5 (x_gV q311 q312 q313 q1 q314) rfl (t_goneIn hl hF x1 x2) ⟨rfl, rfl, rfl, xd_X6_goneIn, ⟨Nat.le_of_ble_eq_true rfl, Nat.le_of_ble_eq_true rfl⟩, Nat.le_of_ble_eq_true rfl, Nat.le_of_ble_eq_true rfl⟩ rfl hM0 rfl rfl (Nat.le_of_ble_eq_true rfl) htb rfl (by decide) (by decide) q157 (x9 (x_Fix.xt F)) rfl (fun q => ?_)
  refine x_astore F dL_goneIn_13 (by decide) ?_
  refine x_iconst (v := 1) F dL_goneIn_15 (by decide) ?_
  refine x_iret F rfl rfl dL_goneIn_16 (Nat.le_of_ble_eq_true rfl) (Nat.le_of_ble_eq_true rfl) ?_
  exact ⟨_, rfl, rfl, rfl⟩
set_option maxRecDepth 100000 in
set_option maxHeartbeats 4000000 in
theorem w_wouldBreak (hl : l.stackTraces = false) (hF : FR w M Fa Ca Aa Ro Tr n) (x1 x2 x3 : Int32) (o : Nat) : x_Ci l D dA vwC1 tyL1 B yL_wouldBreak wL_wouldBreak (rmd 10 1 6) [.ref M, .int x1, .int x2, .int x3, .ref o] w (fun v w1 => v = .int 1 ∧ w1 = w) 1 6 := by
  refine x_Ct.ofH (cc := cL_wouldBreak) (maxL := 6) (hh := [(0, 12, 15, 19), (0, 12, 19, 21)]) (by decide) rfl (Nat.le_of_ble_eq_true rfl) ?_
  intro p e s m below meth c F htb
  have hM0 := hF.1
  refine x_aload F dL_wouldBreak_0 rfl ?_
  refine x_iconst (v := 0) F dL_wouldBreak_2 (by decide) ?_
  refine x_aload_n F dL_wouldBreak_3 rfl rfl ?_
  refine x_iload_n F dL_wouldBreak_4 rfl rfl ?_
  refine x_iload_n F dL_wouldBreak_5 rfl rfl ?_
  refine x_iload_n F dL_wouldBreak_6 rfl rfl ?_
  refine x_callTV (x := ⟨0, 12, 15, 19⟩) (hh := [(0, 12, 15, 19), (0, 12, 19, 21)]) (av := [.int x1, .int x2, .int x3]) (rest := [.int 0, .ref o]) (ci := 5) (C := RX6) (T := TX6) (N := 12) (nmE := "java/lang/IndexOutOfBoundsException") F dL_wouldBreak_7 (x_gV q318 q319 q320 q1 q321) rfl (t_wouldBreak hl hF x1 x2 x3) ⟨rfl, rfl, rfl, xd_X6_wouldBreak, ⟨Nat.le_of_ble_eq_true rfl, Nat.le_of_ble_eq_true rfl⟩, Nat.le_of_ble_eq_true rfl, Nat.le_of_ble_eq_true rfl⟩ rfl hM0 rfl rfl (Nat.le_of_ble_eq_true rfl) htb rfl (by decide) (by decide) q157 (x9 (x_Fix.xt F)) rfl (fun q => ?_)
  refine x_astore F dL_wouldBreak_15 (by decide) ?_
  refine x_iconst (v := 1) F dL_wouldBreak_17 (by decide) ?_
  refine x_iret F rfl rfl dL_wouldBreak_18 (Nat.le_of_ble_eq_true rfl) (Nat.le_of_ble_eq_true rfl) ?_
  exact ⟨_, rfl, rfl, rfl⟩
set_option maxRecDepth 100000 in
set_option maxHeartbeats 4000000 in
theorem w_target (hl : l.stackTraces = false) (hF : FR w M Fa Ca Aa Ro Tr n) (x1 : Int32) (o : Nat) : x_Ci l D dA vwC1 tyL1 B yL_target wL_target (rmd 10 1 6) [.ref M, .int x1, .ref o] w (fun v w1 => v = .int 1 ∧ w1 = w) 1 6 := by
  refine x_Ct.ofH (cc := cL_target) (maxL := 4) (hh := [(0, 9, 12, 19)]) (by decide) rfl (Nat.le_of_ble_eq_true rfl) ?_
  intro p e s m below meth c F htb
  have hM0 := hF.1
  refine x_aload_n F dL_target_0 rfl rfl ?_
  refine x_iconst (v := 0) F dL_target_1 (by decide) ?_
  refine x_aload_n F dL_target_2 rfl rfl ?_
  refine x_iload_n F dL_target_3 rfl rfl ?_
  refine x_callTV (x := ⟨0, 9, 12, 19⟩) (hh := [(0, 9, 12, 19)]) (av := [.int x1]) (rest := [.int 0, .ref o]) (ci := 5) (C := RX6) (T := TX6) (N := 12) (nmE := "java/lang/IndexOutOfBoundsException") F dL_target_4 (x_gV q325 q326 q327 q1 q328) rfl (t_target hl hF x1) ⟨rfl, rfl, rfl, xd_X6_target, ⟨Nat.le_of_ble_eq_true rfl, Nat.le_of_ble_eq_true rfl⟩, Nat.le_of_ble_eq_true rfl, Nat.le_of_ble_eq_true rfl⟩ rfl hM0 rfl rfl (Nat.le_of_ble_eq_true rfl) htb rfl (by decide) (by decide) q157 (x9 (x_Fix.xt F)) rfl (fun q => ?_)
  refine x_astore_n F dL_target_12 rfl (by decide) ?_
  refine x_iconst (v := 1) F dL_target_13 (by decide) ?_
  refine x_iret F rfl rfl dL_target_14 (Nat.le_of_ble_eq_true rfl) (Nat.le_of_ble_eq_true rfl) ?_
  exact ⟨_, rfl, rfl, rfl⟩
set_option maxRecDepth 100000 in
set_option maxHeartbeats 4000000 in
theorem w_goneBy (hl : l.stackTraces = false) (hF : FR w M Fa Ca Aa Ro Tr n) (x1 x2 x3 : Int32) (o : Nat) : x_Ci l D dA vwC1 tyL1 B yL_goneBy wL_goneBy (rmd 10 1 6) [.ref M, .int x1, .int x2, .int x3, .ref o] w (fun v w1 => v = .int 1 ∧ w1 = w) 1 6 := by
  refine x_Ct.ofH (cc := cL_goneBy) (maxL := 6) (hh := [(0, 12, 15, 19), (0, 12, 19, 21), (0, 12, 23, 13)]) (by decide) rfl (Nat.le_of_ble_eq_true rfl) ?_
  intro p e s m below meth c F htb
  have hM0 := hF.1
  refine x_aload F dL_goneBy_0 rfl ?_
  refine x_iconst (v := 0) F dL_goneBy_2 (by decide) ?_
  refine x_aload_n F dL_goneBy_3 rfl rfl ?_
  refine x_iload_n F dL_goneBy_4 rfl rfl ?_
  refine x_iload_n F dL_goneBy_5 rfl rfl ?_
  refine x_iload_n F dL_goneBy_6 rfl rfl ?_
  refine x_callTV (x := ⟨0, 12, 15, 19⟩) (hh := [(0, 12, 15, 19), (0, 12, 19, 21), (0, 12, 23, 13)]) (av := [.int x1, .int x2, .int x3]) (rest := [.int 0, .ref o]) (ci := 5) (C := RX6) (T := TX6) (N := 12) (nmE := "java/lang/IndexOutOfBoundsException") F dL_goneBy_7 (x_gV q332 q333 q334 q1 q335) rfl (t_goneBy hl hF x1 x2 x3) ⟨rfl, rfl, rfl, xd_X6_goneBy, ⟨Nat.le_of_ble_eq_true rfl, Nat.le_of_ble_eq_true rfl⟩, Nat.le_of_ble_eq_true rfl, Nat.le_of_ble_eq_true rfl⟩ rfl hM0 rfl rfl (Nat.le_of_ble_eq_true rfl) htb rfl (by decide) (by decide) q157 (x9 (x_Fix.xt F)) rfl (fun q => ?_)
  refine x_astore F dL_goneBy_15 (by decide) ?_
  refine x_iconst (v := 1) F dL_goneBy_17 (by decide) ?_
  refine x_iret F rfl rfl dL_goneBy_18 (Nat.le_of_ble_eq_true rfl) (Nat.le_of_ble_eq_true rfl) ?_
  exact ⟨_, rfl, rfl, rfl⟩
set_option maxRecDepth 100000 in
set_option maxHeartbeats 4000000 in
theorem w_manyX (hl : l.stackTraces = false) {F9 : List Value} (hM0 : w M = some (.inr (5, F9))) (x : Int32) (h : x < 0 ∨ ¬ x ≤ 10) (o : Nat) : x_Ci l D dA vwC1 tyL1 B yL_many wL_many (rmd 10 1 6) [.ref M, .int x, .ref o] w (fun v w1 => v = .int 1 ∧ w1 = w) 1 6 := by
  refine x_Ct.ofH (cc := cL_many) (maxL := 4) (hh := [(0, 9, 12, 21)]) (by decide) rfl (Nat.le_of_ble_eq_true rfl) ?_
  intro p e s m below meth c F htb
  refine x_aload_n F dL_many_0 rfl rfl ?_
  refine x_iconst (v := 0) F dL_many_1 (by decide) ?_
  refine x_aload_n F dL_many_2 rfl rfl ?_
  refine x_iload_n F dL_many_3 rfl rfl ?_
  refine x_callTV (x := ⟨0, 9, 12, 21⟩) (hh := [(0, 9, 12, 21)]) (av := [.int x]) (rest := [.int 0, .ref o]) (ci := 5) (C := RX6) (T := TX6) (N := 12) (nmE := "java/lang/IllegalArgumentException") F dL_many_4 (x_gV q297 q298 q299 q1 q300) rfl (t_many hl x h M) ⟨rfl, rfl, rfl, xd_X6_many, ⟨Nat.le_of_ble_eq_true rfl, Nat.le_of_ble_eq_true rfl⟩, Nat.le_of_ble_eq_true rfl, Nat.le_of_ble_eq_true rfl⟩ rfl hM0 rfl rfl (Nat.le_of_ble_eq_true rfl) htb rfl (by decide) (by decide) q158 (x10 (x_Fix.xt F)) rfl (fun q => ?_)
  refine x_astore_n F dL_many_12 rfl (by decide) ?_
  refine x_iconst (v := 1) F dL_many_13 (by decide) ?_
  refine x_iret F rfl rfl dL_many_14 (Nat.le_of_ble_eq_true rfl) (Nat.le_of_ble_eq_true rfl) ?_
  exact ⟨_, rfl, rfl, rfl⟩
set_option maxRecDepth 100000 in
set_option maxHeartbeats 4000000 in
theorem w_passX (hl : l.stackTraces = false) {F9 : List Value} (hM0 : w M = some (.inr (5, F9))) (x : Int32) (h : x < 1 ∨ ¬ x ≤ 100) (o : Nat) : x_Ci l D dA vwC1 tyL1 B yL_pass wL_pass (rmd 10 1 6) [.ref M, .int x, .ref o] w (fun v w1 => v = .int 1 ∧ w1 = w) 1 6 := by
  refine x_Ct.ofH (cc := cL_pass) (maxL := 4) (hh := [(0, 9, 12, 21)]) (by decide) rfl (Nat.le_of_ble_eq_true rfl) ?_
  intro p e s m below meth c F htb
  refine x_aload_n F dL_pass_0 rfl rfl ?_
  refine x_iconst (v := 0) F dL_pass_1 (by decide) ?_
  refine x_aload_n F dL_pass_2 rfl rfl ?_
  refine x_iload_n F dL_pass_3 rfl rfl ?_
  refine x_callTV (x := ⟨0, 9, 12, 21⟩) (hh := [(0, 9, 12, 21)]) (av := [.int x]) (rest := [.int 0, .ref o]) (ci := 5) (C := RX6) (T := TX6) (N := 12) (nmE := "java/lang/IllegalArgumentException") F dL_pass_4 (x_gV q251 q252 q253 q1 q254) rfl (t_pass hl x h M) ⟨rfl, rfl, rfl, xd_X6_pass, ⟨Nat.le_of_ble_eq_true rfl, Nat.le_of_ble_eq_true rfl⟩, Nat.le_of_ble_eq_true rfl, Nat.le_of_ble_eq_true rfl⟩ rfl hM0 rfl rfl (Nat.le_of_ble_eq_true rfl) htb rfl (by decide) (by decide) q158 (x10 (x_Fix.xt F)) rfl (fun q => ?_)
  refine x_astore_n F dL_pass_12 rfl (by decide) ?_
  refine x_iconst (v := 1) F dL_pass_13 (by decide) ?_
  refine x_iret F rfl rfl dL_pass_14 (Nat.le_of_ble_eq_true rfl) (Nat.le_of_ble_eq_true rfl) ?_
  exact ⟨_, rfl, rfl, rfl⟩
set_option maxRecDepth 100000 in
set_option maxHeartbeats 4000000 in
theorem w_open (hF : FR w M Fa Ca Aa Ro Tr n) {f : Nat → Int64} (ho : w o = some (aL 1 f)) : x_Ci l D dA vwC1 tyL1 B yL_open wL_open (rmd 10 2 9) [.ref M, .ref o] w (fun v w1 => v = .int 0 ∧ (∃ g, w1 o = some (aL 1 g) ∧ g 0 = 0) ∧ ∀ a x, w a = some x → ¬ a = M → ¬ a = Fa → ¬ a = o → w1 a = some x) 2 9 := by
  refine x_Ct.ofH (cc := cL_open) (maxL := 3) (hh := [(0, 8, 11, 13)]) (by decide) rfl (Nat.le_of_ble_eq_true rfl) ?_
  intro p e s m below meth c F htb
  have ne_om : ¬ o = M := w_ne ho hF.1 (fun z => by cases z)
  have ne_of : ¬ o = Fa := w_ne ho hF.2.1 (fun z => by cases z)
  refine x_aload_n F dL_open_0 rfl rfl ?_
  refine x_iconst (v := 0) F dL_open_1 (by decide) ?_
  refine x_aload_n F dL_open_2 rfl rfl ?_
  refine x_cVi0 (ci := 5) (C := RX6) (T := TX6) (N := 12) F dL_open_3 (x_gV q132 q133 q134 q1 q135) rfl (c_open hF) ⟨rfl, rfl, rfl, xd_X6_open, ⟨Nat.le_of_ble_eq_true rfl, Nat.le_of_ble_eq_true rfl⟩, Nat.le_of_ble_eq_true rfl, Nat.le_of_ble_eq_true rfl⟩ rfl hF.1 (Nat.le_of_ble_eq_true rfl) (fun v1 w1 hp => ?_)
  obtain ⟨rfl, hk⟩ := hp
  have ho2 := hk o _ ho ne_om ne_of
  refine x_i2l F dL_open_6 ?_
  refine x_last F dL_open_7 rfl ho2 (by unfold vp_in; decide) ?_
  refine x_wd (fun w5 hw5 => ?_)
  refine x_goto F dL_open_8 rfl ?_
  refine x_iconst (v := 0) F dL_open_14 (by decide) ?_
  refine x_iret F rfl rfl dL_open_15 (Nat.le_of_ble_eq_true rfl) (Nat.le_of_ble_eq_true rfl) ?_
  refine ⟨_, rfl, rfl, ⟨_, by rw [hw5]; exact x_set_eq _ _ _, upd0 _⟩, fun a x hx g1 g2 g3 => ?_⟩
  rw [hw5, x_set_ne _ _ g3]
  exact hk a x hx g1 g2
set_option maxRecDepth 100000 in
set_option maxHeartbeats 4000000 in
theorem w_many (hF : FR w M Fa Ca Aa Ro Tr 0) {f : Nat → Int64} (ho : w o = some (aL 1 f)) {t : Nat} (ht : t ≤ 10) : x_Ci l D dA vwC1 tyL1 B yL_many wL_many (rmd 10 0 0) [.ref M, .int (nI t), .ref o] w (fun v w1 => v = .int 0 ∧ (∃ g, w1 o = some (aL 1 g) ∧ g 0 = 0) ∧ ∀ a x, w a = some x → ¬ a = M → ¬ a = Fa → ¬ a = o → w1 a = some x) 0 0 := by
  refine x_Ct.ofH (cc := cL_many) (maxL := 4) (hh := [(0, 9, 12, 21)]) (by decide) rfl (Nat.le_of_ble_eq_true rfl) ?_
  intro p e s m below meth c F htb
  have ne_om : ¬ o = M := w_ne ho hF.1 (fun z => by cases z)
  have ne_of : ¬ o = Fa := w_ne ho hF.2.1 (fun z => by cases z)
  refine x_aload_n F dL_many_0 rfl rfl ?_
  refine x_iconst (v := 0) F dL_many_1 (by decide) ?_
  refine x_aload_n F dL_many_2 rfl rfl ?_
  refine x_iload_n F dL_many_3 rfl rfl ?_
  refine x_cVi1 (ci := 5) (C := RX6) (T := TX6) (N := 12) F dL_many_4 (x_gV q297 q298 q299 q1 q300) rfl (c_many hF ht) ⟨rfl, rfl, rfl, xd_X6_many, ⟨Nat.le_of_ble_eq_true rfl, Nat.le_of_ble_eq_true rfl⟩, Nat.le_of_ble_eq_true rfl, Nat.le_of_ble_eq_true rfl⟩ rfl hF.1 (Nat.le_of_ble_eq_true rfl) (fun v1 w1 hp => ?_)
  obtain ⟨rfl, hw9⟩ := hp
  replace hw9 := hw9.symm
  subst hw9
  have ho2 := ho
  refine x_i2l F dL_many_7 ?_
  refine x_last F dL_many_8 rfl ho2 (by unfold vp_in; decide) ?_
  refine x_wd (fun w5 hw5 => ?_)
  refine x_goto F dL_many_9 rfl ?_
  refine x_iconst (v := 0) F dL_many_15 (by decide) ?_
  refine x_iret F rfl rfl dL_many_16 (Nat.le_of_ble_eq_true rfl) (Nat.le_of_ble_eq_true rfl) ?_
  refine ⟨_, rfl, rfl, ⟨_, by rw [hw5]; exact x_set_eq _ _ _, upd0 _⟩, fun a x hx g1 g2 g3 => ?_⟩
  rw [hw5, x_set_ne _ _ g3]
  exact hx
set_option maxRecDepth 100000 in
set_option maxHeartbeats 4000000 in
theorem w_pass (hF : FR w M Fa Ca Aa Ro Tr n) {f : Nat → Int64} (ho : w o = some (aL 1 f)) {t : Nat} (ha : 1 ≤ t) (hb : t ≤ 100) : x_Ci l D dA vwC1 tyL1 B yL_pass wL_pass (rmd 10 0 0) [.ref M, .int (nI t), .ref o] w (fun v w1 => v = .int 0 ∧ (∃ g, w1 o = some (aL 1 g) ∧ g 0 = 0) ∧ ∀ a x, w a = some x → ¬ a = M → ¬ a = Fa → ¬ a = o → w1 a = some x) 0 0 := by
  refine x_Ct.ofH (cc := cL_pass) (maxL := 4) (hh := [(0, 9, 12, 21)]) (by decide) rfl (Nat.le_of_ble_eq_true rfl) ?_
  intro p e s m below meth c F htb
  have ne_om : ¬ o = M := w_ne ho hF.1 (fun z => by cases z)
  have ne_of : ¬ o = Fa := w_ne ho hF.2.1 (fun z => by cases z)
  refine x_aload_n F dL_pass_0 rfl rfl ?_
  refine x_iconst (v := 0) F dL_pass_1 (by decide) ?_
  refine x_aload_n F dL_pass_2 rfl rfl ?_
  refine x_iload_n F dL_pass_3 rfl rfl ?_
  refine x_cVi1 (ci := 5) (C := RX6) (T := TX6) (N := 12) F dL_pass_4 (x_gV q251 q252 q253 q1 q254) rfl (c_pass hF ha hb) ⟨rfl, rfl, rfl, xd_X6_pass, ⟨Nat.le_of_ble_eq_true rfl, Nat.le_of_ble_eq_true rfl⟩, Nat.le_of_ble_eq_true rfl, Nat.le_of_ble_eq_true rfl⟩ rfl hF.1 (Nat.le_of_ble_eq_true rfl) (fun v1 w1 hp => ?_)
  obtain ⟨rfl, hk⟩ := hp
  have ho2 : w1 o = some (aL 1 f) := (hk o ne_om).trans ho
  refine x_i2l F dL_pass_7 ?_
  refine x_last F dL_pass_8 rfl ho2 (by unfold vp_in; decide) ?_
  refine x_wd (fun w5 hw5 => ?_)
  refine x_goto F dL_pass_9 rfl ?_
  refine x_iconst (v := 0) F dL_pass_15 (by decide) ?_
  refine x_iret F rfl rfl dL_pass_16 (Nat.le_of_ble_eq_true rfl) (Nat.le_of_ble_eq_true rfl) ?_
  refine ⟨_, rfl, rfl, ⟨_, by rw [hw5]; exact x_set_eq _ _ _, upd0 _⟩, fun a x hx g1 g2 g3 => ?_⟩
  rw [hw5, x_set_ne _ _ g3]
  exact (hk a g1).trans hx
end WRP
