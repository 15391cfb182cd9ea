theorem dX6_publish_0 : decode cX6_publish 0 = .ok (.aload_n 0, 1) := by decide +kernel
theorem dX6_publish_1 : decode cX6_publish 1 = .ok (.iload_n 1, 1) := by decide +kernel
theorem dX6_publish_2 : decode cX6_publish 2 = .ok (.invokevirtual 55, 3) := by decide +kernel
theorem dX6_publish_5 : decode cX6_publish 5 = .ok (.astore 4, 2) := by decide +kernel
theorem dX6_publish_7 : decode cX6_publish 7 = .ok (.aload 4, 2) := by decide +kernel
theorem dX6_publish_9 : decode cX6_publish 9 = .ok (.ifnonnull 13, 3) := by decide +kernel
theorem dX6_publish_12 : decode cX6_publish 12 = .ok (.new 59, 3) := by decide +kernel
theorem dX6_publish_15 : decode cX6_publish 15 = .ok (.dup, 1) := by decide +kernel
theorem dX6_publish_16 : decode cX6_publish 16 = .ok (.ldc 61, 2) := by decide +kernel
theorem dX6_publish_18 : decode cX6_publish 18 = .ok (.invokespecial 63, 3) := by decide +kernel
theorem dX6_publish_21 : decode cX6_publish 21 = .ok (.athrow, 1) := by decide +kernel
theorem dX6_ofVersion_0 : decode cX6_ofVersion 0 = .ok (.aload_n 0, 1) := by decide +kernel
theorem dX6_ofVersion_1 : decode cX6_ofVersion 1 = .ok (.iload_n 1, 1) := by decide +kernel
theorem dX6_ofVersion_2 : decode cX6_ofVersion 2 = .ok (.iload_n 2, 1) := by decide +kernel
theorem dX6_ofVersion_3 : decode cX6_ofVersion 3 = .ok (.invokevirtual 91, 3) := by decide +kernel
theorem dX6_ofVersion_6 : decode cX6_ofVersion 6 = .ok (.astore 4, 2) := by decide +kernel
theorem dX6_ofVersion_8 : decode cX6_ofVersion 8 = .ok (.aload 4, 2) := by decide +kernel
theorem dX6_ofVersion_10 : decode cX6_ofVersion 10 = .ok (.ifnonnull 13, 3) := by decide +kernel
theorem dX6_ofVersion_13 : decode cX6_ofVersion 13 = .ok (.new 59, 3) := by decide +kernel
theorem dX6_ofVersion_16 : decode cX6_ofVersion 16 = .ok (.dup, 1) := by decide +kernel
theorem dX6_ofVersion_17 : decode cX6_ofVersion 17 = .ok (.ldc 95, 2) := by decide +kernel
theorem dX6_ofVersion_19 : decode cX6_ofVersion 19 = .ok (.invokespecial 63, 3) := by decide +kernel
theorem dX6_ofVersion_22 : decode cX6_ofVersion 22 = .ok (.athrow, 1) := by decide +kernel
theorem dX6_isCompatible_0 : decode cX6_isCompatible 0 = .ok (.aload_n 0, 1) := by decide +kernel
theorem dX6_isCompatible_1 : decode cX6_isCompatible 1 = .ok (.iload_n 1, 1) := by decide +kernel
theorem dX6_isCompatible_2 : decode cX6_isCompatible 2 = .ok (.iload_n 2, 1) := by decide +kernel
theorem dX6_isCompatible_3 : decode cX6_isCompatible 3 = .ok (.invokevirtual 91, 3) := by decide +kernel
theorem dX6_isCompatible_6 : decode cX6_isCompatible 6 = .ok (.astore 4, 2) := by decide +kernel
theorem dX6_isCompatible_8 : decode cX6_isCompatible 8 = .ok (.aload_n 0, 1) := by decide +kernel
theorem dX6_isCompatible_9 : decode cX6_isCompatible 9 = .ok (.iload_n 1, 1) := by decide +kernel
theorem dX6_isCompatible_10 : decode cX6_isCompatible 10 = .ok (.iload_n 3, 1) := by decide +kernel
theorem dX6_isCompatible_11 : decode cX6_isCompatible 11 = .ok (.invokevirtual 91, 3) := by decide +kernel
theorem dX6_isCompatible_14 : decode cX6_isCompatible 14 = .ok (.astore 5, 2) := by decide +kernel
theorem dX6_isCompatible_16 : decode cX6_isCompatible 16 = .ok (.aload 4, 2) := by decide +kernel
theorem dX6_isCompatible_18 : decode cX6_isCompatible 18 = .ok (.ifnull 8, 3) := by decide +kernel
theorem dX6_isCompatible_26 : decode cX6_isCompatible 26 = .ok (.new 59, 3) := by decide +kernel
theorem dX6_isCompatible_29 : decode cX6_isCompatible 29 = .ok (.dup, 1) := by decide +kernel
theorem dX6_isCompatible_30 : decode cX6_isCompatible 30 = .ok (.ldc 95, 2) := by decide +kernel
theorem dX6_isCompatible_32 : decode cX6_isCompatible 32 = .ok (.invokespecial 63, 3) := by decide +kernel
theorem dX6_isCompatible_35 : decode cX6_isCompatible 35 = .ok (.athrow, 1) := by decide +kernel
theorem dX6_client_0 : decode cX6_client 0 = .ok (.aload_n 0, 1) := by decide +kernel
theorem dX6_client_1 : decode cX6_client 1 = .ok (.iload_n 2, 1) := by decide +kernel
theorem dX6_client_2 : decode cX6_client 2 = .ok (.iload_n 3, 1) := by decide +kernel
theorem dX6_client_3 : decode cX6_client 3 = .ok (.invokevirtual 91, 3) := by decide +kernel
theorem dX6_client_6 : decode cX6_client 6 = .ok (.astore 5, 2) := by decide +kernel
theorem dX6_client_8 : decode cX6_client 8 = .ok (.aload 5, 2) := by decide +kernel
theorem dX6_client_10 : decode cX6_client 10 = .ok (.ifnonnull 13, 3) := by decide +kernel
theorem dX6_client_13 : decode cX6_client 13 = .ok (.new 59, 3) := by decide +kernel
theorem dX6_client_16 : decode cX6_client 16 = .ok (.dup, 1) := by decide +kernel
theorem dX6_client_17 : decode cX6_client 17 = .ok (.ldc 95, 2) := by decide +kernel
theorem dX6_client_19 : decode cX6_client 19 = .ok (.invokespecial 63, 3) := by decide +kernel
theorem dX6_client_22 : decode cX6_client 22 = .ok (.athrow, 1) := by decide +kernel
theorem dX6_again_0 : decode cX6_again 0 = .ok (.aload_n 0, 1) := by decide +kernel
theorem dX6_again_1 : decode cX6_again 1 = .ok (.iload_n 1, 1) := by decide +kernel
theorem dX6_again_2 : decode cX6_again 2 = .ok (.invokevirtual 137, 3) := by decide +kernel
theorem dX6_again_5 : decode cX6_again 5 = .ok (.astore_n 3, 1) := by decide +kernel
theorem dX6_again_6 : decode cX6_again 6 = .ok (.aload_n 3, 1) := by decide +kernel
theorem dX6_again_7 : decode cX6_again 7 = .ok (.ifnonnull 7, 3) := by decide +kernel
theorem dX6_again_10 : decode cX6_again 10 = .ok (.aconst_null, 1) := by decide +kernel
theorem dX6_again_11 : decode cX6_again 11 = .ok (.goto 11, 3) := by decide +kernel
theorem dX6_again_22 : decode cX6_again 22 = .ok (.astore 4, 2) := by decide +kernel
theorem dX6_again_24 : decode cX6_again 24 = .ok (.aload_n 3, 1) := by decide +kernel
theorem dX6_again_25 : decode cX6_again 25 = .ok (.ifnull 8, 3) := by decide +kernel
theorem dX6_again_33 : decode cX6_again 33 = .ok (.new 59, 3) := by decide +kernel
theorem dX6_again_36 : decode cX6_again 36 = .ok (.dup, 1) := by decide +kernel
theorem dX6_again_37 : decode cX6_again 37 = .ok (.ldc 148, 2) := by decide +kernel
theorem dX6_again_39 : decode cX6_again 39 = .ok (.invokespecial 63, 3) := by decide +kernel
theorem dX6_again_42 : decode cX6_again 42 = .ok (.athrow, 1) := by decide +kernel
theorem dX6_adapter_0 : decode cX6_adapter 0 = .ok (.aload_n 0, 1) := by decide +kernel
theorem dX6_adapter_1 : decode cX6_adapter 1 = .ok (.iload_n 1, 1) := by decide +kernel
theorem dX6_adapter_2 : decode cX6_adapter 2 = .ok (.iload_n 2, 1) := by decide +kernel
theorem dX6_adapter_3 : decode cX6_adapter 3 = .ok (.invokevirtual 91, 3) := by decide +kernel
theorem dX6_adapter_6 : decode cX6_adapter 6 = .ok (.astore 6, 2) := by decide +kernel
theorem dX6_adapter_8 : decode cX6_adapter 8 = .ok (.aload_n 0, 1) := by decide +kernel
theorem dX6_adapter_9 : decode cX6_adapter 9 = .ok (.iload_n 1, 1) := by decide +kernel
theorem dX6_adapter_10 : decode cX6_adapter 10 = .ok (.iload_n 3, 1) := by decide +kernel
theorem dX6_adapter_11 : decode cX6_adapter 11 = .ok (.invokevirtual 91, 3) := by decide +kernel
theorem dX6_adapter_14 : decode cX6_adapter 14 = .ok (.astore 7, 2) := by decide +kernel
theorem dX6_adapter_16 : decode cX6_adapter 16 = .ok (.aload 6, 2) := by decide +kernel
theorem dX6_adapter_18 : decode cX6_adapter 18 = .ok (.ifnull 8, 3) := by decide +kernel
theorem dX6_adapter_26 : decode cX6_adapter 26 = .ok (.new 59, 3) := by decide +kernel
theorem dX6_adapter_29 : decode cX6_adapter 29 = .ok (.dup, 1) := by decide +kernel
theorem dX6_adapter_30 : decode cX6_adapter 30 = .ok (.ldc 95, 2) := by decide +kernel
theorem dX6_adapter_32 : decode cX6_adapter 32 = .ok (.invokespecial 63, 3) := by decide +kernel
theorem dX6_adapter_35 : decode cX6_adapter 35 = .ok (.athrow, 1) := by decide +kernel
theorem dX6_ofClient_0 : decode cX6_ofClient 0 = .ok (.aload_n 0, 1) := by decide +kernel
theorem dX6_ofClient_1 : decode cX6_ofClient 1 = .ok (.iload_n 1, 1) := by decide +kernel
theorem dX6_ofClient_2 : decode cX6_ofClient 2 = .ok (.invokevirtual 137, 3) := by decide +kernel
theorem dX6_ofClient_5 : decode cX6_ofClient 5 = .ok (.astore_n 3, 1) := by decide +kernel
theorem dX6_ofClient_6 : decode cX6_ofClient 6 = .ok (.aload_n 3, 1) := by decide +kernel
theorem dX6_ofClient_7 : decode cX6_ofClient 7 = .ok (.ifnonnull 13, 3) := by decide +kernel
theorem dX6_ofClient_10 : decode cX6_ofClient 10 = .ok (.new 59, 3) := by decide +kernel
theorem dX6_ofClient_13 : decode cX6_ofClient 13 = .ok (.dup, 1) := by decide +kernel
theorem dX6_ofClient_14 : decode cX6_ofClient 14 = .ok (.ldc 173, 2) := by decide +kernel
theorem dX6_ofClient_16 : decode cX6_ofClient 16 = .ok (.invokespecial 63, 3) := by decide +kernel
theorem dX6_ofClient_19 : decode cX6_ofClient 19 = .ok (.athrow, 1) := by decide +kernel
theorem dX6_routed_0 : decode cX6_routed 0 = .ok (.aload_n 0, 1) := by decide +kernel
theorem dX6_routed_1 : decode cX6_routed 1 = .ok (.iload_n 1, 1) := by decide +kernel
theorem dX6_routed_2 : decode cX6_routed 2 = .ok (.invokevirtual 137, 3) := by decide +kernel
theorem dX6_routed_5 : decode cX6_routed 5 = .ok (.astore_n 3, 1) := by decide +kernel
theorem dX6_routed_6 : decode cX6_routed 6 = .ok (.aload_n 3, 1) := by decide +kernel
theorem dX6_routed_7 : decode cX6_routed 7 = .ok (.ifnull 38, 3) := by decide +kernel
theorem dX6_routed_45 : decode cX6_routed 45 = .ok (.new 59, 3) := by decide +kernel
theorem dX6_routed_48 : decode cX6_routed 48 = .ok (.dup, 1) := by decide +kernel
theorem dX6_routed_49 : decode cX6_routed 49 = .ok (.ldc 192, 2) := by decide +kernel
theorem dX6_routed_51 : decode cX6_routed 51 = .ok (.invokespecial 63, 3) := by decide +kernel
theorem dX6_routed_54 : decode cX6_routed 54 = .ok (.athrow, 1) := by decide +kernel
theorem dX6_call_0 : decode cX6_call 0 = .ok (.aload_n 0, 1) := by decide +kernel
theorem dX6_call_1 : decode cX6_call 1 = .ok (.iload_n 1, 1) := by decide +kernel
theorem dX6_call_2 : decode cX6_call 2 = .ok (.invokevirtual 137, 3) := by decide +kernel
theorem dX6_call_5 : decode cX6_call 5 = .ok (.astore_n 3, 1) := by decide +kernel
theorem dX6_call_6 : decode cX6_call 6 = .ok (.aload_n 3, 1) := by decide +kernel
theorem dX6_call_7 : decode cX6_call 7 = .ok (.ifnonnull 13, 3) := by decide +kernel
theorem dX6_call_10 : decode cX6_call 10 = .ok (.new 59, 3) := by decide +kernel
theorem dX6_call_13 : decode cX6_call 13 = .ok (.dup, 1) := by decide +kernel
theorem dX6_call_14 : decode cX6_call 14 = .ok (.ldc 173, 2) := by decide +kernel
theorem dX6_call_16 : decode cX6_call 16 = .ok (.invokespecial 63, 3) := by decide +kernel
theorem dX6_call_19 : decode cX6_call 19 = .ok (.athrow, 1) := by decide +kernel
theorem dX6_lastCall_0 : decode cX6_lastCall 0 = .ok (.aload_n 0, 1) := by decide +kernel
theorem dX6_lastCall_1 : decode cX6_lastCall 1 = .ok (.iload_n 1, 1) := by decide +kernel
theorem dX6_lastCall_2 : decode cX6_lastCall 2 = .ok (.invokevirtual 137, 3) := by decide +kernel
theorem dX6_lastCall_5 : decode cX6_lastCall 5 = .ok (.astore_n 3, 1) := by decide +kernel
theorem dX6_lastCall_6 : decode cX6_lastCall 6 = .ok (.aload_n 3, 1) := by decide +kernel
theorem dX6_lastCall_7 : decode cX6_lastCall 7 = .ok (.ifnonnull 7, 3) := by decide +kernel
theorem dX6_lastCall_10 : decode cX6_lastCall 10 = .ok (.aconst_null, 1) := by decide +kernel
theorem dX6_lastCall_11 : decode cX6_lastCall 11 = .ok (.goto 11, 3) := by decide +kernel
theorem dX6_lastCall_22 : decode cX6_lastCall 22 = .ok (.astore 4, 2) := by decide +kernel
theorem dX6_lastCall_24 : decode cX6_lastCall 24 = .ok (.aload_n 3, 1) := by decide +kernel
theorem dX6_lastCall_25 : decode cX6_lastCall 25 = .ok (.ifnull 8, 3) := by decide +kernel
theorem dX6_lastCall_33 : decode cX6_lastCall 33 = .ok (.new 59, 3) := by decide +kernel
theorem dX6_lastCall_36 : decode cX6_lastCall 36 = .ok (.dup, 1) := by decide +kernel
theorem dX6_lastCall_37 : decode cX6_lastCall 37 = .ok (.ldc 148, 2) := by decide +kernel
theorem dX6_lastCall_39 : decode cX6_lastCall 39 = .ok (.invokespecial 63, 3) := by decide +kernel
theorem dX6_lastCall_42 : decode cX6_lastCall 42 = .ok (.athrow, 1) := by decide +kernel
theorem dX6_retire_0 : decode cX6_retire 0 = .ok (.aload_n 0, 1) := by decide +kernel
theorem dX6_retire_1 : decode cX6_retire 1 = .ok (.iload_n 1, 1) := by decide +kernel
theorem dX6_retire_2 : decode cX6_retire 2 = .ok (.iload_n 2, 1) := by decide +kernel
theorem dX6_retire_3 : decode cX6_retire 3 = .ok (.invokevirtual 91, 3) := by decide +kernel
theorem dX6_retire_6 : decode cX6_retire 6 = .ok (.astore 4, 2) := by decide +kernel
theorem dX6_retire_8 : decode cX6_retire 8 = .ok (.aload 4, 2) := by decide +kernel
theorem dX6_retire_10 : decode cX6_retire 10 = .ok (.ifnonnull 13, 3) := by decide +kernel
theorem dX6_retire_13 : decode cX6_retire 13 = .ok (.new 59, 3) := by decide +kernel
theorem dX6_retire_16 : decode cX6_retire 16 = .ok (.dup, 1) := by decide +kernel
theorem dX6_retire_17 : decode cX6_retire 17 = .ok (.ldc 95, 2) := by decide +kernel
theorem dX6_retire_19 : decode cX6_retire 19 = .ok (.invokespecial 63, 3) := by decide +kernel
theorem dX6_retire_22 : decode cX6_retire 22 = .ok (.athrow, 1) := by decide +kernel
theorem dX6_answer_0 : decode cX6_answer 0 = .ok (.aload_n 0, 1) := by decide +kernel
theorem dX6_answer_1 : decode cX6_answer 1 = .ok (.iload_n 2, 1) := by decide +kernel
theorem dX6_answer_2 : decode cX6_answer 2 = .ok (.iload_n 3, 1) := by decide +kernel
theorem dX6_answer_3 : decode cX6_answer 3 = .ok (.invokevirtual 91, 3) := by decide +kernel
theorem dX6_answer_6 : decode cX6_answer 6 = .ok (.astore 4, 2) := by decide +kernel
theorem dX6_answer_8 : decode cX6_answer 8 = .ok (.aload 4, 2) := by decide +kernel
theorem dX6_answer_10 : decode cX6_answer 10 = .ok (.ifnull 10, 3) := by decide +kernel
theorem dX6_answer_20 : decode cX6_answer 20 = .ok (.new 59, 3) := by decide +kernel
theorem dX6_answer_23 : decode cX6_answer 23 = .ok (.dup, 1) := by decide +kernel
theorem dX6_answer_24 : decode cX6_answer 24 = .ok (.ldc 218, 2) := by decide +kernel
theorem dX6_answer_26 : decode cX6_answer 26 = .ok (.invokespecial 63, 3) := by decide +kernel
theorem dX6_answer_29 : decode cX6_answer 29 = .ok (.athrow, 1) := by decide +kernel
theorem dX6_recall_0 : decode cX6_recall 0 = .ok (.aload_n 0, 1) := by decide +kernel
theorem dX6_recall_1 : decode cX6_recall 1 = .ok (.iload_n 1, 1) := by decide +kernel
theorem dX6_recall_2 : decode cX6_recall 2 = .ok (.iload_n 2, 1) := by decide +kernel
theorem dX6_recall_3 : decode cX6_recall 3 = .ok (.invokevirtual 91, 3) := by decide +kernel
theorem dX6_recall_6 : decode cX6_recall 6 = .ok (.astore_n 3, 1) := by decide +kernel
theorem dX6_recall_7 : decode cX6_recall 7 = .ok (.aload_n 3, 1) := by decide +kernel
theorem dX6_recall_8 : decode cX6_recall 8 = .ok (.ifnonnull 13, 3) := by decide +kernel
theorem dX6_recall_11 : decode cX6_recall 11 = .ok (.new 59, 3) := by decide +kernel
theorem dX6_recall_14 : decode cX6_recall 14 = .ok (.dup, 1) := by decide +kernel
theorem dX6_recall_15 : decode cX6_recall 15 = .ok (.ldc 95, 2) := by decide +kernel
theorem dX6_recall_17 : decode cX6_recall 17 = .ok (.invokespecial 63, 3) := by decide +kernel
theorem dX6_recall_20 : decode cX6_recall 20 = .ok (.athrow, 1) := by decide +kernel
theorem dX6_asked_0 : decode cX6_asked 0 = .ok (.aload_n 0, 1) := by decide +kernel
theorem dX6_asked_1 : decode cX6_asked 1 = .ok (.iload_n 2, 1) := by decide +kernel
theorem dX6_asked_2 : decode cX6_asked 2 = .ok (.iload_n 3, 1) := by decide +kernel
theorem dX6_asked_3 : decode cX6_asked 3 = .ok (.invokevirtual 91, 3) := by decide +kernel
theorem dX6_asked_6 : decode cX6_asked 6 = .ok (.astore 4, 2) := by decide +kernel
theorem dX6_asked_8 : decode cX6_asked 8 = .ok (.aload 4, 2) := by decide +kernel
theorem dX6_asked_10 : decode cX6_asked 10 = .ok (.ifnull 10, 3) := by decide +kernel
theorem dX6_asked_20 : decode cX6_asked 20 = .ok (.new 59, 3) := by decide +kernel
theorem dX6_asked_23 : decode cX6_asked 23 = .ok (.dup, 1) := by decide +kernel
theorem dX6_asked_24 : decode cX6_asked 24 = .ok (.ldc 218, 2) := by decide +kernel
theorem dX6_asked_26 : decode cX6_asked 26 = .ok (.invokespecial 63, 3) := by decide +kernel
theorem dX6_asked_29 : decode cX6_asked 29 = .ok (.athrow, 1) := by decide +kernel
theorem dX6_wouldCome_0 : decode cX6_wouldCome 0 = .ok (.aload_n 0, 1) := by decide +kernel
theorem dX6_wouldCome_1 : decode cX6_wouldCome 1 = .ok (.iload_n 1, 1) := by decide +kernel
theorem dX6_wouldCome_2 : decode cX6_wouldCome 2 = .ok (.invokevirtual 137, 3) := by decide +kernel
theorem dX6_wouldCome_5 : decode cX6_wouldCome 5 = .ok (.astore_n 3, 1) := by decide +kernel
theorem dX6_wouldCome_6 : decode cX6_wouldCome 6 = .ok (.aload_n 3, 1) := by decide +kernel
theorem dX6_wouldCome_7 : decode cX6_wouldCome 7 = .ok (.ifnonnull 13, 3) := by decide +kernel
theorem dX6_wouldCome_10 : decode cX6_wouldCome 10 = .ok (.new 59, 3) := by decide +kernel
theorem dX6_wouldCome_13 : decode cX6_wouldCome 13 = .ok (.dup, 1) := by decide +kernel
theorem dX6_wouldCome_14 : decode cX6_wouldCome 14 = .ok (.ldc 173, 2) := by decide +kernel
theorem dX6_wouldCome_16 : decode cX6_wouldCome 16 = .ok (.invokespecial 63, 3) := by decide +kernel
theorem dX6_wouldCome_19 : decode cX6_wouldCome 19 = .ok (.athrow, 1) := by decide +kernel
theorem dX6_goneIn_0 : decode cX6_goneIn 0 = .ok (.aload_n 0, 1) := by decide +kernel
theorem dX6_goneIn_1 : decode cX6_goneIn 1 = .ok (.iload_n 1, 1) := by decide +kernel
theorem dX6_goneIn_2 : decode cX6_goneIn 2 = .ok (.iload_n 2, 1) := by decide +kernel
theorem dX6_goneIn_3 : decode cX6_goneIn 3 = .ok (.invokevirtual 91, 3) := by decide +kernel
theorem dX6_goneIn_6 : decode cX6_goneIn 6 = .ok (.astore_n 3, 1) := by decide +kernel
theorem dX6_goneIn_7 : decode cX6_goneIn 7 = .ok (.aload_n 3, 1) := by decide +kernel
theorem dX6_goneIn_8 : decode cX6_goneIn 8 = .ok (.ifnonnull 13, 3) := by decide +kernel
theorem dX6_goneIn_11 : decode cX6_goneIn 11 = .ok (.new 59, 3) := by decide +kernel
theorem dX6_goneIn_14 : decode cX6_goneIn 14 = .ok (.dup, 1) := by decide +kernel
theorem dX6_goneIn_15 : decode cX6_goneIn 15 = .ok (.ldc 95, 2) := by decide +kernel
theorem dX6_goneIn_17 : decode cX6_goneIn 17 = .ok (.invokespecial 63, 3) := by decide +kernel
theorem dX6_goneIn_20 : decode cX6_goneIn 20 = .ok (.athrow, 1) := by decide +kernel
theorem dX6_wouldBreak_0 : decode cX6_wouldBreak 0 = .ok (.aload_n 0, 1) := by decide +kernel
theorem dX6_wouldBreak_1 : decode cX6_wouldBreak 1 = .ok (.iload_n 1, 1) := by decide +kernel
theorem dX6_wouldBreak_2 : decode cX6_wouldBreak 2 = .ok (.invokevirtual 55, 3) := by decide +kernel
theorem dX6_wouldBreak_5 : decode cX6_wouldBreak 5 = .ok (.astore 4, 2) := by decide +kernel
theorem dX6_wouldBreak_7 : decode cX6_wouldBreak 7 = .ok (.aload 4, 2) := by decide +kernel
theorem dX6_wouldBreak_9 : decode cX6_wouldBreak 9 = .ok (.ifnonnull 13, 3) := by decide +kernel
theorem dX6_wouldBreak_12 : decode cX6_wouldBreak 12 = .ok (.new 59, 3) := by decide +kernel
theorem dX6_wouldBreak_15 : decode cX6_wouldBreak 15 = .ok (.dup, 1) := by decide +kernel
theorem dX6_wouldBreak_16 : decode cX6_wouldBreak 16 = .ok (.ldc 61, 2) := by decide +kernel
theorem dX6_wouldBreak_18 : decode cX6_wouldBreak 18 = .ok (.invokespecial 63, 3) := by decide +kernel
theorem dX6_wouldBreak_21 : decode cX6_wouldBreak 21 = .ok (.athrow, 1) := by decide +kernel
theorem dX6_target_0 : decode cX6_target 0 = .ok (.aload_n 0, 1) := by decide +kernel
theorem dX6_target_1 : decode cX6_target 1 = .ok (.iload_n 1, 1) := by decide +kernel
theorem dX6_target_2 : decode cX6_target 2 = .ok (.invokevirtual 137, 3) := by decide +kernel
theorem dX6_target_5 : decode cX6_target 5 = .ok (.astore_n 2, 1) := by decide +kernel
theorem dX6_target_6 : decode cX6_target 6 = .ok (.aload_n 2, 1) := by decide +kernel
theorem dX6_target_7 : decode cX6_target 7 = .ok (.ifnonnull 13, 3) := by decide +kernel
theorem dX6_target_10 : decode cX6_target 10 = .ok (.new 59, 3) := by decide +kernel
theorem dX6_target_13 : decode cX6_target 13 = .ok (.dup, 1) := by decide +kernel
theorem dX6_target_14 : decode cX6_target 14 = .ok (.ldc 173, 2) := by decide +kernel
theorem dX6_target_16 : decode cX6_target 16 = .ok (.invokespecial 63, 3) := by decide +kernel
theorem dX6_target_19 : decode cX6_target 19 = .ok (.athrow, 1) := by decide +kernel
theorem dX6_goneBy_0 : decode cX6_goneBy 0 = .ok (.aload_n 0, 1) := by decide +kernel
theorem dX6_goneBy_1 : decode cX6_goneBy 1 = .ok (.iload_n 1, 1) := by decide +kernel
theorem dX6_goneBy_2 : decode cX6_goneBy 2 = .ok (.iload_n 2, 1) := by decide +kernel
theorem dX6_goneBy_3 : decode cX6_goneBy 3 = .ok (.invokevirtual 91, 3) := by decide +kernel
theorem dX6_goneBy_6 : decode cX6_goneBy 6 = .ok (.astore 4, 2) := by decide +kernel
theorem dX6_goneBy_8 : decode cX6_goneBy 8 = .ok (.aload 4, 2) := by decide +kernel
theorem dX6_goneBy_10 : decode cX6_goneBy 10 = .ok (.ifnonnull 13, 3) := by decide +kernel
theorem dX6_goneBy_13 : decode cX6_goneBy 13 = .ok (.new 59, 3) := by decide +kernel
theorem dX6_goneBy_16 : decode cX6_goneBy 16 = .ok (.dup, 1) := by decide +kernel
theorem dX6_goneBy_17 : decode cX6_goneBy 17 = .ok (.ldc 95, 2) := by decide +kernel
theorem dX6_goneBy_19 : decode cX6_goneBy 19 = .ok (.invokespecial 63, 3) := by decide +kernel
theorem dX6_goneBy_22 : decode cX6_goneBy 22 = .ok (.athrow, 1) := by decide +kernel
theorem dX6_many_0 : decode cX6_many 0 = .ok (.iload_n 1, 1) := by decide +kernel
theorem dX6_many_1 : decode cX6_many 1 = .ok (.ifCond .lt 9, 3) := by decide +kernel
theorem dX6_many_10 : decode cX6_many 10 = .ok (.new 68, 3) := by decide +kernel
theorem dX6_many_13 : decode cX6_many 13 = .ok (.dup, 1) := by decide +kernel
theorem dX6_many_14 : decode cX6_many 14 = .ok (.ldc 97, 2) := by decide +kernel
theorem dX6_many_16 : decode cX6_many 16 = .ok (.invokespecial 72, 3) := by decide +kernel
theorem dX6_many_19 : decode cX6_many 19 = .ok (.athrow, 1) := by decide +kernel
theorem dX6_many_4 : decode cX6_many 4 = .ok (.iload_n 1, 1) := by decide +kernel
theorem dX6_many_5 : decode cX6_many 5 = .ok (.bipush 10, 2) := by decide +kernel
theorem dX6_many_7 : decode cX6_many 7 = .ok (.if_icmp .le 13, 3) := by decide +kernel
theorem dX6_pass_0 : decode cX6_pass 0 = .ok (.iload_n 1, 1) := by decide +kernel
theorem dX6_pass_1 : decode cX6_pass 1 = .ok (.iconst 1, 1) := by decide +kernel
theorem dX6_pass_2 : decode cX6_pass 2 = .ok (.if_icmp .lt 9, 3) := by decide +kernel
theorem dX6_pass_11 : decode cX6_pass 11 = .ok (.new 68, 3) := by decide +kernel
theorem dX6_pass_14 : decode cX6_pass 14 = .ok (.dup, 1) := by decide +kernel
theorem dX6_pass_15 : decode cX6_pass 15 = .ok (.ldc 199, 2) := by decide +kernel
theorem dX6_pass_17 : decode cX6_pass 17 = .ok (.invokespecial 72, 3) := by decide +kernel
theorem dX6_pass_20 : decode cX6_pass 20 = .ok (.athrow, 1) := by decide +kernel
theorem dX6_pass_5 : decode cX6_pass 5 = .ok (.iload_n 1, 1) := by decide +kernel
theorem dX6_pass_6 : decode cX6_pass 6 = .ok (.bipush 100, 2) := by decide +kernel
theorem dX6_pass_8 : decode cX6_pass 8 = .ok (.if_icmp .le 13, 3) := by decide +kernel
theorem dX6_many_20 : decode cX6_many 20 = .ok (.aload_n 0, 1) := by decide +kernel
theorem dX6_many_21 : decode cX6_many 21 = .ok (.iload_n 1, 1) := by decide +kernel
theorem dX6_many_22 : decode cX6_many 22 = .ok (.invokevirtual 246, 3) := by decide +kernel
theorem dX6_many_25 : decode cX6_many 25 = .ok (.ireturn, 1) := by decide +kernel
theorem dX6_servedShare_0 : decode cX6_servedShare 0 = .ok (.aload_n 0, 1) := by decide +kernel
theorem dX6_servedShare_1 : decode cX6_servedShare 1 = .ok (.getfield 249, 3) := by decide +kernel
theorem dX6_servedShare_4 : decode cX6_servedShare 4 = .ok (.ifCond .ne 5, 3) := by decide +kernel
theorem dX6_servedShare_7 : decode cX6_servedShare 7 = .ok (.dconst 1, 1) := by decide +kernel
theorem dX6_servedShare_8 : decode cX6_servedShare 8 = .ok (.dreturn, 1) := by decide +kernel
theorem dX6_beginHour_50 : decode cX6_beginHour 50 = .ok (.iload_n 2, 1) := by decide +kernel
theorem dX6_beginHour_51 : decode cX6_beginHour 51 = .ok (.iconst 4, 1) := by decide +kernel
theorem dX6_beginHour_52 : decode cX6_beginHour 52 = .ok (.if_icmp .ge 72, 3) := by decide +kernel
theorem dX6_beginHour_124 : decode cX6_beginHour 124 = .ok (.iload_n 1, 1) := by decide +kernel
theorem dX6_beginHour_125 : decode cX6_beginHour 125 = .ok (.ireturn, 1) := by decide +kernel
theorem dX6_beginHour_57 : decode cX6_beginHour 57 = .ok (.iload_n 3, 1) := by decide +kernel
theorem dX6_beginHour_58 : decode cX6_beginHour 58 = .ok (.bipush 6, 2) := by decide +kernel
theorem dX6_beginHour_60 : decode cX6_beginHour 60 = .ok (.if_icmp .ge 58, 3) := by decide +kernel
theorem dX6_beginHour_118 : decode cX6_beginHour 118 = .ok (.iinc 2 1, 3) := by decide +kernel
theorem dX6_beginHour_121 : decode cX6_beginHour 121 = .ok (.goto (-71), 3) := by decide +kernel
theorem dX6_beginHour_63 : decode cX6_beginHour 63 = .ok (.aload_n 0, 1) := by decide +kernel
theorem dX6_beginHour_64 : decode cX6_beginHour 64 = .ok (.iload_n 2, 1) := by decide +kernel
theorem dX6_beginHour_65 : decode cX6_beginHour 65 = .ok (.iload_n 3, 1) := by decide +kernel
theorem dX6_beginHour_66 : decode cX6_beginHour 66 = .ok (.invokevirtual 91, 3) := by decide +kernel
theorem dX6_beginHour_69 : decode cX6_beginHour 69 = .ok (.astore 4, 2) := by decide +kernel
theorem dX6_beginHour_71 : decode cX6_beginHour 71 = .ok (.aload 4, 2) := by decide +kernel
theorem dX6_beginHour_73 : decode cX6_beginHour 73 = .ok (.ifnull 39, 3) := by decide +kernel
theorem dX6_beginHour_112 : decode cX6_beginHour 112 = .ok (.iinc 3 1, 3) := by decide +kernel
theorem dX6_beginHour_115 : decode cX6_beginHour 115 = .ok (.goto (-58), 3) := by decide +kernel
theorem dX6_beginHour_55 : decode cX6_beginHour 55 = .ok (.iconst 0, 1) := by decide +kernel
theorem dX6_beginHour_56 : decode cX6_beginHour 56 = .ok (.istore_n 3, 1) := by decide +kernel
theorem dX6_beginHour_12 : decode cX6_beginHour 12 = .ok (.iload_n 1, 1) := by decide +kernel
theorem dX6_beginHour_13 : decode cX6_beginHour 13 = .ok (.aload_n 0, 1) := by decide +kernel
theorem dX6_beginHour_14 : decode cX6_beginHour 14 = .ok (.getfield 17, 3) := by decide +kernel
theorem dX6_beginHour_17 : decode cX6_beginHour 17 = .ok (.arraylength, 1) := by decide +kernel
theorem dX6_beginHour_18 : decode cX6_beginHour 18 = .ok (.if_icmp .ge 28, 3) := by decide +kernel
theorem dX6_beginHour_46 : decode cX6_beginHour 46 = .ok (.iconst 0, 1) := by decide +kernel
theorem dX6_beginHour_47 : decode cX6_beginHour 47 = .ok (.istore_n 1, 1) := by decide +kernel
theorem dX6_beginHour_48 : decode cX6_beginHour 48 = .ok (.iconst 0, 1) := by decide +kernel
theorem dX6_beginHour_49 : decode cX6_beginHour 49 = .ok (.istore_n 2, 1) := by decide +kernel
theorem dX6_beginHour_21 : decode cX6_beginHour 21 = .ok (.aload_n 0, 1) := by decide +kernel
theorem dX6_beginHour_22 : decode cX6_beginHour 22 = .ok (.getfield 17, 3) := by decide +kernel
theorem dX6_beginHour_25 : decode cX6_beginHour 25 = .ok (.iload_n 1, 1) := by decide +kernel
theorem dX6_beginHour_26 : decode cX6_beginHour 26 = .ok (.aaload, 1) := by decide +kernel
theorem dX6_beginHour_27 : decode cX6_beginHour 27 = .ok (.astore_n 2, 1) := by decide +kernel
theorem dX6_beginHour_28 : decode cX6_beginHour 28 = .ok (.aload_n 2, 1) := by decide +kernel
theorem dX6_beginHour_29 : decode cX6_beginHour 29 = .ok (.ifnull 11, 3) := by decide +kernel
theorem dX6_beginHour_40 : decode cX6_beginHour 40 = .ok (.iinc 1 1, 3) := by decide +kernel
theorem dX6_beginHour_43 : decode cX6_beginHour 43 = .ok (.goto (-31), 3) := by decide +kernel
theorem dX6_beginHour_0 : decode cX6_beginHour 0 = .ok (.aload_n 0, 1) := by decide +kernel
theorem dX6_beginHour_1 : decode cX6_beginHour 1 = .ok (.dup, 1) := by decide +kernel
theorem dX6_beginHour_2 : decode cX6_beginHour 2 = .ok (.getfield 225, 3) := by decide +kernel
theorem dX6_beginHour_5 : decode cX6_beginHour 5 = .ok (.iconst 1, 1) := by decide +kernel
theorem dX6_beginHour_6 : decode cX6_beginHour 6 = .ok (.iadd, 1) := by decide +kernel
theorem dX6_beginHour_7 : decode cX6_beginHour 7 = .ok (.putfield 225, 3) := by decide +kernel
theorem dX6_beginHour_10 : decode cX6_beginHour 10 = .ok (.iconst 0, 1) := by decide +kernel
theorem dX6_beginHour_11 : decode cX6_beginHour 11 = .ok (.istore_n 1, 1) := by decide +kernel
theorem dX6_pass_25 : decode cX6_pass 25 = .ok (.iload_n 3, 1) := by decide +kernel
theorem dX6_pass_26 : decode cX6_pass 26 = .ok (.iload_n 1, 1) := by decide +kernel
theorem dX6_pass_27 : decode cX6_pass 27 = .ok (.if_icmp .ge 16, 3) := by decide +kernel
theorem dX6_pass_43 : decode cX6_pass 43 = .ok (.iload_n 2, 1) := by decide +kernel
theorem dX6_pass_44 : decode cX6_pass 44 = .ok (.ireturn, 1) := by decide +kernel
theorem dX6_pass_30 : decode cX6_pass 30 = .ok (.iload_n 2, 1) := by decide +kernel
theorem dX6_pass_31 : decode cX6_pass 31 = .ok (.aload_n 0, 1) := by decide +kernel
theorem dX6_pass_32 : decode cX6_pass 32 = .ok (.invokevirtual 201, 3) := by decide +kernel
theorem dX6_pass_35 : decode cX6_pass 35 = .ok (.iadd, 1) := by decide +kernel
theorem dX6_pass_36 : decode cX6_pass 36 = .ok (.istore_n 2, 1) := by decide +kernel
theorem dX6_pass_37 : decode cX6_pass 37 = .ok (.iinc 3 1, 3) := by decide +kernel
theorem dX6_pass_40 : decode cX6_pass 40 = .ok (.goto (-15), 3) := by decide +kernel
theorem dX6_pass_21 : decode cX6_pass 21 = .ok (.iconst 0, 1) := by decide +kernel
theorem dX6_pass_22 : decode cX6_pass 22 = .ok (.istore_n 2, 1) := by decide +kernel
theorem dX6_pass_23 : decode cX6_pass 23 = .ok (.iconst 0, 1) := by decide +kernel
theorem dX6_pass_24 : decode cX6_pass 24 = .ok (.istore_n 3, 1) := by decide +kernel
/-! ===== the class: the first call on a new registry ===== -/
section THR
variable {l : Launch} {D : va_G} {dA : Nat → ClassId} {B : Nat} {w : xW} {M Fa Ca Aa Ro Tr : Nat} {n : Int32}
set_option maxRecDepth 100000 in
set_option maxHeartbeats 4000000 in
theorem t_publish (hl : l.stackTraces = false) (hF : FR w M Fa Ca Aa Ro Tr n) (x1 x2 x3 : Int32) : Th l D dA B yX6_publish wX6_publish 8 [.ref M, .int x1, .int x2, .int x3] w "java/lang/IndexOutOfBoundsException" := by
  refine x_Th.of (cc := cX6_publish) (maxL := 8) (by decide) rfl (Nat.le_of_ble_eq_true rfl) ?_
  intro p e s m below meth c F htb
  refine x_aload_n F dX6_publish_0 rfl rfl ?_
  refine x_iload_n F dX6_publish_1 rfl rfl ?_
  refine x_cVi1 (ci := 5) (C := RX6) (T := TX6) (N := 12) F dX6_publish_2 (x_gV q122 q123 q637 q1 q124) rfl (c_faceAt hF _) ⟨rfl, rfl, rfl, xd_X6_faceAt, ⟨Nat.le_of_ble_eq_true rfl, Nat.le_of_ble_eq_true rfl⟩, Nat.le_of_ble_eq_true rfl, Nat.le_of_ble_eq_true rfl⟩ rfl hF.1 (Nat.le_of_ble_eq_true rfl) (fun v1 w1 hp => ?_)
  obtain ⟨rfl, hw9⟩ := hp
  replace hw9 := hw9.symm
  subst hw9
  refine x_astoreN F dX6_publish_5 (by decide) ?_
  refine x_aloadN F dX6_publish_7 rfl ?_
  refine x_ifnonnullN F dX6_publish_9 ?_
  exact x_throw F hl (E := "java/lang/IndexOutOfBoundsException") (text := "no such interface") (names := xNm) (by decide +kernel) (by decide +kernel) q163 q18 (xs61 (x_Fix.xt F)) (xatI F.2.2.2.2.1 (x_Fix.xt F)) xokI htb dX6_publish_12 dX6_publish_15 dX6_publish_16 dX6_publish_18 dX6_publish_21 (Nat.le_of_ble_eq_true rfl) (Nat.le_of_ble_eq_true rfl) (Nat.le_of_ble_eq_true rfl) (Nat.le_of_ble_eq_true rfl) (Nat.le_of_ble_eq_true rfl) (Nat.le_of_ble_eq_true rfl) (fun _ _ h => h)
set_option maxRecDepth 100000 in
set_option maxHeartbeats 4000000 in
theorem t_ofVersion (hl : l.stackTraces = false) (hF : FR w M Fa Ca Aa Ro Tr n) (x1 x2 x3 : Int32) : Th l D dA B yX6_ofVersion wX6_ofVersion 8 [.ref M, .int x1, .int x2, .int x3] w "java/lang/IndexOutOfBoundsException" := by
  refine x_Th.of (cc := cX6_ofVersion) (maxL := 5) (by decide) rfl (Nat.le_of_ble_eq_true rfl) ?_
  intro p e s m below meth c F htb
  refine x_aload_n F dX6_ofVersion_0 rfl rfl ?_
  refine x_iload_n F dX6_ofVersion_1 rfl rfl ?_
  refine x_iload_n F dX6_ofVersion_2 rfl rfl ?_
  refine x_cVi2 (ci := 5) (C := RX6) (T := TX6) (N := 12) F dX6_ofVersion_3 (x_gV q119 q120 q636 q1 q121) rfl (c_versionAt hF _ _) ⟨rfl, rfl, rfl, xd_X6_versionAt, ⟨Nat.le_of_ble_eq_true rfl, Nat.le_of_ble_eq_true rfl⟩, Nat.le_of_ble_eq_true rfl, Nat.le_of_ble_eq_true rfl⟩ rfl hF.1 (Nat.le_of_ble_eq_true rfl) (fun v1 w1 hp => ?_)
  obtain ⟨rfl, hw9⟩ := hp
  replace hw9 := hw9.symm
  subst hw9
  refine x_astoreN F dX6_ofVersion_6 (by decide) ?_
  refine x_aloadN F dX6_ofVersion_8 rfl ?_
  refine x_ifnonnullN F dX6_ofVersion_10 ?_
  exact x_throw F hl (E := "java/lang/IndexOutOfBoundsException") (text := "no such interface or version") (names := xNm) (by decide +kernel) (by decide +kernel) q163 q18 (xs95 (x_Fix.xt F)) (xatI F.2.2.2.2.1 (x_Fix.xt F)) xokI htb dX6_ofVersion_13 dX6_ofVersion_16 dX6_ofVersion_17 dX6_ofVersion_19 dX6_ofVersion_22 (Nat.le_of_ble_eq_true rfl) (Nat.le_of_ble_eq_true rfl) (Nat.le_of_ble_eq_true rfl) (Nat.le_of_ble_eq_true rfl) (Nat.le_of_ble_eq_true rfl) (Nat.le_of_ble_eq_true rfl) (fun _ _ h => h)
set_option maxRecDepth 100000 in
set_option maxHeartbeats 4000000 in
theorem t_isCompatible (hl : l.stackTraces = false) (hF : FR w M Fa Ca Aa Ro Tr n) (x1 x2 x3 : Int32) : Th l D dA B yX6_isCompatible wX6_isCompatible 8 [.ref M, .int x1, .int x2, .int x3] w "java/lang/IndexOutOfBoundsException" := by
  refine x_Th.of (cc := cX6_isCompatible) (maxL := 6) (by decide) rfl (Nat.le_of_ble_eq_true rfl) ?_
  intro p e s m below meth c F htb
  refine x_aload_n F dX6_isCompatible_0 rfl rfl ?_
  refine x_iload_n F dX6_isCompatible_1 rfl rfl ?_
  refine x_iload_n F dX6_isCompatible_2 rfl rfl ?_
  refine x_cVi2 (ci := 5) (C := RX6) (T := TX6) (N := 12) F dX6_isCompatible_3 (x_gV q119 q120 q636 q1 q121) rfl (c_versionAt hF _ _) ⟨rfl, rfl, rfl, xd_X6_versionAt, ⟨Nat.le_of_ble_eq_true rfl, Nat.le_of_ble_eq_true rfl⟩, Nat.le_of_ble_eq_true rfl, Nat.le_of_ble_eq_true rfl⟩ rfl hF.1 (Nat.le_of_ble_eq_true rfl) (fun v1 w1 hp => ?_)
  obtain ⟨rfl, hw9⟩ := hp
  replace hw9 := hw9.symm
  subst hw9
  refine x_astoreN F dX6_isCompatible_6 (by decide) ?_
  refine x_aload_n F dX6_isCompatible_8 rfl rfl ?_
  refine x_iload_n F dX6_isCompatible_9 rfl rfl ?_
  refine x_iload_n F dX6_isCompatible_10 rfl rfl ?_
  refine x_cVi2 (ci := 5) (C := RX6) (T := TX6) (N := 12) F dX6_isCompatible_11 (x_gV q119 q120 q636 q1 q121) rfl (c_versionAt hF _ _) ⟨rfl, rfl, rfl, xd_X6_versionAt, ⟨Nat.le_of_ble_eq_true rfl, Nat.le_of_ble_eq_true rfl⟩, Nat.le_of_ble_eq_true rfl, Nat.le_of_ble_eq_true rfl⟩ rfl hF.1 (Nat.le_of_ble_eq_true rfl) (fun v1 w1 hp => ?_)
  obtain ⟨rfl, hw9⟩ := hp
  replace hw9 := hw9.symm
  subst hw9
  refine x_astoreN F dX6_isCompatible_14 (by decide) ?_
  refine x_aloadN F dX6_isCompatible_16 rfl ?_
  refine x_ifnullN F dX6_isCompatible_18 rfl ?_
  exact x_throw F hl (E := "java/lang/IndexOutOfBoundsException") (text := "no such interface or version") (names := xNm) (by decide +kernel) (by decide +kernel) q163 q18 (xs95 (x_Fix.xt F)) (xatI F.2.2.2.2.1 (x_Fix.xt F)) xokI htb dX6_isCompatible_26 dX6_isCompatible_29 dX6_isCompatible_30 dX6_isCompatible_32 dX6_isCompatible_35 (Nat.le_of_ble_eq_true rfl) (Nat.le_of_ble_eq_true rfl) (Nat.le_of_ble_eq_true rfl) (Nat.le_of_ble_eq_true rfl) (Nat.le_of_ble_eq_true rfl) (Nat.le_of_ble_eq_true rfl) (fun _ _ h => h)
set_option maxRecDepth 100000 in
set_option maxHeartbeats 4000000 in
theorem t_client (hl : l.stackTraces = false) (hF : FR w M Fa Ca Aa Ro Tr n) (x1 x2 x3 x4 : Int32) : Th l D dA B yX6_client wX6_client 8 [.ref M, .int x1, .int x2, .int x3, .int x4] w "java/lang/IndexOutOfBoundsException" := by
  refine x_Th.of (cc := cX6_client) (maxL := 6) (by decide) rfl (Nat.le_of_ble_eq_true rfl) ?_
  intro p e s m below meth c F htb
  refine x_aload_n F dX6_client_0 rfl rfl ?_
  refine x_iload_n F dX6_client_1 rfl rfl ?_
  refine x_iload_n F dX6_client_2 rfl rfl ?_
  refine x_cVi2 (ci := 5) (C := RX6) (T := TX6) (N := 12) F dX6_client_3 (x_gV q119 q120 q636 q1 q121) rfl (c_versionAt hF _ _) ⟨rfl, rfl, rfl, xd_X6_versionAt, ⟨Nat.le_of_ble_eq_true rfl, Nat.le_of_ble_eq_true rfl⟩, Nat.le_of_ble_eq_true rfl, Nat.le_of_ble_eq_true rfl⟩ rfl hF.1 (Nat.le_of_ble_eq_true rfl) (fun v1 w1 hp => ?_)
  obtain ⟨rfl, hw9⟩ := hp
  replace hw9 := hw9.symm
  subst hw9
  refine x_astoreN F dX6_client_6 (by decide) ?_
  refine x_aloadN F dX6_client_8 rfl ?_
  refine x_ifnonnullN F dX6_client_10 ?_
  exact x_throw F hl (E := "java/lang/IndexOutOfBoundsException") (text := "no such interface or version") (names := xNm) (by decide +kernel) (by decide +kernel) q163 q18 (xs95 (x_Fix.xt F)) (xatI F.2.2.2.2.1 (x_Fix.xt F)) xokI htb dX6_client_13 dX6_client_16 dX6_client_17 dX6_client_19 dX6_client_22 (Nat.le_of_ble_eq_true rfl) (Nat.le_of_ble_eq_true rfl) (Nat.le_of_ble_eq_true rfl) (Nat.le_of_ble_eq_true rfl) (Nat.le_of_ble_eq_true rfl) (Nat.le_of_ble_eq_true rfl) (fun _ _ h => h)
set_option maxRecDepth 100000 in
set_option maxHeartbeats 4000000 in
theorem t_again (hl : l.stackTraces = false) (hF : FR w M Fa Ca Aa Ro Tr n) (x1 x2 : Int32) : Th l D dA B yX6_again wX6_again 8 [.ref M, .int x1, .int x2] w "java/lang/IndexOutOfBoundsException" := by
  refine x_Th.of (cc := cX6_again) (maxL := 5) (by decide) rfl (Nat.le_of_ble_eq_true rfl) ?_
  intro p e s m below meth c F htb
  refine x_aload_n F dX6_again_0 rfl rfl ?_
  refine x_iload_n F dX6_again_1 rfl rfl ?_
  refine x_cVi1 (ci := 5) (C := RX6) (T := TX6) (N := 12) F dX6_again_2 (x_gV q214 q215 q638 q1 q216) rfl (c_clientAt hF _) ⟨rfl, rfl, rfl, xd_X6_clientAt, ⟨Nat.le_of_ble_eq_true rfl, Nat.le_of_ble_eq_true rfl⟩, Nat.le_of_ble_eq_true rfl, Nat.le_of_ble_eq_true rfl⟩ rfl hF.1 (Nat.le_of_ble_eq_true rfl) (fun v1 w1 hp => ?_)
  obtain ⟨rfl, hw9⟩ := hp
  replace hw9 := hw9.symm
  subst hw9
  refine x_astore_nN F dX6_again_5 rfl (by decide) ?_
  refine x_aload_nN F dX6_again_6 rfl rfl ?_
  refine x_ifnonnullN F dX6_again_7 ?_
  refine x_null F dX6_again_10 ?_
  refine x_goto F dX6_again_11 rfl ?_
  refine x_astoreN F dX6_again_22 (by decide) ?_
  refine x_aload_nN F dX6_again_24 rfl rfl ?_
  refine x_ifnullN F dX6_again_25 rfl ?_
  exact x_throw F hl (E := "java/lang/IndexOutOfBoundsException") (text := "no such client or version") (names := xNm) (by decide +kernel) (by decide +kernel) q163 q18 (xs148 (x_Fix.xt F)) (xatI F.2.2.2.2.1 (x_Fix.xt F)) xokI htb dX6_again_33 dX6_again_36 dX6_again_37 dX6_again_39 dX6_again_42 (Nat.le_of_ble_eq_true rfl) (Nat.le_of_ble_eq_true rfl) (Nat.le_of_ble_eq_true rfl) (Nat.le_of_ble_eq_true rfl) (Nat.le_of_ble_eq_true rfl) (Nat.le_of_ble_eq_true rfl) (fun _ _ h => h)
set_option maxRecDepth 100000 in
set_option maxHeartbeats 4000000 in
theorem t_adapter (hl : l.stackTraces = false) (hF : FR w M Fa Ca Aa Ro Tr n) (x1 x2 x3 x4 x5 : Int32) : Th l D dA B yX6_adapter wX6_adapter 8 [.ref M, .int x1, .int x2, .int x3, .int x4, .int x5] w "java/lang/IndexOutOfBoundsException" := by
  refine x_Th.of (cc := cX6_adapter) (maxL := 8) (by decide) rfl (Nat.le_of_ble_eq_true rfl) ?_
  intro p e s m below meth c F htb
  refine x_aload_n F dX6_adapter_0 rfl rfl ?_
  refine x_iload_n F dX6_adapter_1 rfl rfl ?_
  refine x_iload_n F dX6_adapter_2 rfl rfl ?_
  refine x_cVi2 (ci := 5) (C := RX6) (T := TX6) (N := 12) F dX6_adapter_3 (x_gV q119 q120 q636 q1 q121) rfl (c_versionAt hF _ _) ⟨rfl, rfl, rfl, xd_X6_versionAt, ⟨Nat.le_of_ble_eq_true rfl, Nat.le_of_ble_eq_true rfl⟩, Nat.le_of_ble_eq_true rfl, Nat.le_of_ble_eq_true rfl⟩ rfl hF.1 (Nat.le_of_ble_eq_true rfl) (fun v1 w1 hp => ?_)
  obtain ⟨rfl, hw9⟩ := hp
  replace hw9 := hw9.symm
  subst hw9
  refine x_astoreN F dX6_adapter_6 (by decide) ?_
  refine x_aload_n F dX6_adapter_8 rfl rfl ?_
  refine x_iload_n F dX6_adapter_9 rfl rfl ?_
  refine x_iload_n F dX6_adapter_10 rfl rfl ?_
  refine x_cVi2 (ci := 5) (C := RX6) (T := TX6) (N := 12) F dX6_adapter_11 (x_gV q119 q120 q636 q1 q121) rfl (c_versionAt hF _ _) ⟨rfl, rfl, rfl, xd_X6_versionAt, ⟨Nat.le_of_ble_eq_true rfl, Nat.le_of_ble_eq_true rfl⟩, Nat.le_of_ble_eq_true rfl, Nat.le_of_ble_eq_true rfl⟩ rfl hF.1 (Nat.le_of_ble_eq_true rfl) (fun v1 w1 hp => ?_)
  obtain ⟨rfl, hw9⟩ := hp
  replace hw9 := hw9.symm
  subst hw9
  refine x_astoreN F dX6_adapter_14 (by decide) ?_
  refine x_aloadN F dX6_adapter_16 rfl ?_
  refine x_ifnullN F dX6_adapter_18 rfl ?_
  exact x_throw F hl (E := "java/lang/IndexOutOfBoundsException") (text := "no such interface or version") (names := xNm) (by decide +kernel) (by decide +kernel) q163 q18 (xs95 (x_Fix.xt F)) (xatI F.2.2.2.2.1 (x_Fix.xt F)) xokI htb dX6_adapter_26 dX6_adapter_29 dX6_adapter_30 dX6_adapter_32 dX6_adapter_35 (Nat.le_of_ble_eq_true rfl) (Nat.le_of_ble_eq_true rfl) (Nat.le_of_ble_eq_true rfl) (Nat.le_of_ble_eq_true rfl) (Nat.le_of_ble_eq_true rfl) (Nat.le_of_ble_eq_true rfl) (fun _ _ h => h)
set_option maxRecDepth 100000 in
set_option maxHeartbeats 4000000 in
theorem t_ofClient (hl : l.stackTraces = false) (hF : FR w M Fa Ca Aa Ro Tr n) (x1 x2 : Int32) : Th l D dA B yX6_ofClient wX6_ofClient 8 [.ref M, .int x1, .int x2] w "java/lang/IndexOutOfBoundsException" := by
  refine x_Th.of (cc := cX6_ofClient) (maxL := 4) (by decide) rfl (Nat.le_of_ble_eq_true rfl) ?_
  intro p e s m below meth c F htb
  refine x_aload_n F dX6_ofClient_0 rfl rfl ?_
  refine x_iload_n F dX6_ofClient_1 rfl rfl ?_
  refine x_cVi1 (ci := 5) (C := RX6) (T := TX6) (N := 12) F dX6_ofClient_2 (x_gV q214 q215 q638 q1 q216) rfl (c_clientAt hF _) ⟨rfl, rfl, rfl, xd_X6_clientAt, ⟨Nat.le_of_ble_eq_true rfl, Nat.le_of_ble_eq_true rfl⟩, Nat.le_of_ble_eq_true rfl, Nat.le_of_ble_eq_true rfl⟩ rfl hF.1 (Nat.le_of_ble_eq_true rfl) (fun v1 w1 hp => ?_)
  obtain ⟨rfl, hw9⟩ := hp
  replace hw9 := hw9.symm
  subst hw9
  refine x_astore_nN F dX6_ofClient_5 rfl (by decide) ?_
  refine x_aload_nN F dX6_ofClient_6 rfl rfl ?_
  refine x_ifnonnullN F dX6_ofClient_7 ?_
  exact x_throw F hl (E := "java/lang/IndexOutOfBoundsException") (text := "no such client") (names := xNm) (by decide +kernel) (by decide +kernel) q163 q18 (xs173 (x_Fix.xt F)) (xatI F.2.2.2.2.1 (x_Fix.xt F)) xokI htb dX6_ofClient_10 dX6_ofClient_13 dX6_ofClient_14 dX6_ofClient_16 dX6_ofClient_19 (Nat.le_of_ble_eq_true rfl) (Nat.le_of_ble_eq_true rfl) (Nat.le_of_ble_eq_true rfl) (Nat.le_of_ble_eq_true rfl) (Nat.le_of_ble_eq_true rfl) (Nat.le_of_ble_eq_true rfl) (fun _ _ h => h)
set_option maxRecDepth 100000 in
set_option maxHeartbeats 4000000 in
theorem t_routed (hl : l.stackTraces = false) (hF : FR w M Fa Ca Aa Ro Tr n) (x1 x2 : Int32) : Th l D dA B yX6_routed wX6_routed 8 [.ref M, .int x1, .int x2] w "java/lang/IndexOutOfBoundsException" := by
  refine x_Th.of (cc := cX6_routed) (maxL := 4) (by decide) rfl (Nat.le_of_ble_eq_true rfl) ?_
  intro p e s m below meth c F htb
  refine x_aload_n F dX6_routed_0 rfl rfl ?_
  refine x_iload_n F dX6_routed_1 rfl rfl ?_
  refine x_cVi1 (ci := 5) (C := RX6) (T := TX6) (N := 12) F dX6_routed_2 (x_gV q214 q215 q638 q1 q216) rfl (c_clientAt hF _) ⟨rfl, rfl, rfl, xd_X6_clientAt, ⟨Nat.le_of_ble_eq_true rfl, Nat.le_of_ble_eq_true rfl⟩, Nat.le_of_ble_eq_true rfl, Nat.le_of_ble_eq_true rfl⟩ rfl hF.1 (Nat.le_of_ble_eq_true rfl) (fun v1 w1 hp => ?_)
  obtain ⟨rfl, hw9⟩ := hp
  replace hw9 := hw9.symm
  subst hw9
  refine x_astore_nN F dX6_routed_5 rfl (by decide) ?_
  refine x_aload_nN F dX6_routed_6 rfl rfl ?_
  refine x_ifnullN F dX6_routed_7 rfl ?_
  exact x_throw F hl (E := "java/lang/IndexOutOfBoundsException") (text := "no such client, route or place") (names := xNm) (by decide +kernel) (by decide +kernel) q163 q18 (xs192 (x_Fix.xt F)) (xatI F.2.2.2.2.1 (x_Fix.xt F)) xokI htb dX6_routed_45 dX6_routed_48 dX6_routed_49 dX6_routed_51 dX6_routed_54 (Nat.le_of_ble_eq_true rfl) (Nat.le_of_ble_eq_true rfl) (Nat.le_of_ble_eq_true rfl) (Nat.le_of_ble_eq_true rfl) (Nat.le_of_ble_eq_true rfl) (Nat.le_of_ble_eq_true rfl) (fun _ _ h => h)
set_option maxRecDepth 100000 in
set_option maxHeartbeats 4000000 in
theorem t_call (hl : l.stackTraces = false) (hF : FR w M Fa Ca Aa Ro Tr n) (x1 x2 : Int32) : Th l D dA B yX6_call wX6_call 8 [.ref M, .int x1, .int x2] w "java/lang/IndexOutOfBoundsException" := by
  refine x_Th.of (cc := cX6_call) (maxL := 6) (by decide) rfl (Nat.le_of_ble_eq_true rfl) ?_
  intro p e s m below meth c F htb
  refine x_aload_n F dX6_call_0 rfl rfl ?_
  refine x_iload_n F dX6_call_1 rfl rfl ?_
  refine x_cVi1 (ci := 5) (C := RX6) (T := TX6) (N := 12) F dX6_call_2 (x_gV q214 q215 q638 q1 q216) rfl (c_clientAt hF _) ⟨rfl, rfl, rfl, xd_X6_clientAt, ⟨Nat.le_of_ble_eq_true rfl, Nat.le_of_ble_eq_true rfl⟩, Nat.le_of_ble_eq_true rfl, Nat.le_of_ble_eq_true rfl⟩ rfl hF.1 (Nat.le_of_ble_eq_true rfl) (fun v1 w1 hp => ?_)
  obtain ⟨rfl, hw9⟩ := hp
  replace hw9 := hw9.symm
  subst hw9
  refine x_astore_nN F dX6_call_5 rfl (by decide) ?_
  refine x_aload_nN F dX6_call_6 rfl rfl ?_
  refine x_ifnonnullN F dX6_call_7 ?_
  exact x_throw F hl (E := "java/lang/IndexOutOfBoundsException") (text := "no such client") (names := xNm) (by decide +kernel) (by decide +kernel) q163 q18 (xs173 (x_Fix.xt F)) (xatI F.2.2.2.2.1 (x_Fix.xt F)) xokI htb dX6_call_10 dX6_call_13 dX6_call_14 dX6_call_16 dX6_call_19 (Nat.le_of_ble_eq_true rfl) (Nat.le_of_ble_eq_true rfl) (Nat.le_of_ble_eq_true rfl) (Nat.le_of_ble_eq_true rfl) (Nat.le_of_ble_eq_true rfl) (Nat.le_of_ble_eq_true rfl) (fun _ _ h => h)
set_option maxRecDepth 100000 in
set_option maxHeartbeats 4000000 in
theorem t_lastCall (hl : l.stackTraces = false) (hF : FR w M Fa Ca Aa Ro Tr n) (x1 x2 : Int32) : Th l D dA B yX6_lastCall wX6_lastCall 8 [.ref M, .int x1, .int x2] w "java/lang/IndexOutOfBoundsException" := by
  refine x_Th.of (cc := cX6_lastCall) (maxL := 5) (by decide) rfl (Nat.le_of_ble_eq_true rfl) ?_
  intro p e s m below meth c F htb
  refine x_aload_n F dX6_lastCall_0 rfl rfl ?_
  refine x_iload_n F dX6_lastCall_1 rfl rfl ?_
  refine x_cVi1 (ci := 5) (C := RX6) (T := TX6) (N := 12) F dX6_lastCall_2 (x_gV q214 q215 q638 q1 q216) rfl (c_clientAt hF _) ⟨rfl, rfl, rfl, xd_X6_clientAt, ⟨Nat.le_of_ble_eq_true rfl, Nat.le_of_ble_eq_true rfl⟩, Nat.le_of_ble_eq_true rfl, Nat.le_of_ble_eq_true rfl⟩ rfl hF.1 (Nat.le_of_ble_eq_true rfl) (fun v1 w1 hp => ?_)
  obtain ⟨rfl, hw9⟩ := hp
  replace hw9 := hw9.symm
  subst hw9
  refine x_astore_nN F dX6_lastCall_5 rfl (by decide) ?_
  refine x_aload_nN F dX6_lastCall_6 rfl rfl ?_
  refine x_ifnonnullN F dX6_lastCall_7 ?_
  refine x_null F dX6_lastCall_10 ?_
  refine x_goto F dX6_lastCall_11 rfl ?_
  refine x_astoreN F dX6_lastCall_22 (by decide) ?_
  refine x_aload_nN F dX6_lastCall_24 rfl rfl ?_
  refine x_ifnullN F dX6_lastCall_25 rfl ?_
  exact x_throw F hl (E := "java/lang/IndexOutOfBoundsException") (text := "no such client or version") (names := xNm) (by decide +kernel) (by decide +kernel) q163 q18 (xs148 (x_Fix.xt F)) (xatI F.2.2.2.2.1 (x_Fix.xt F)) xokI htb dX6_lastCall_33 dX6_lastCall_36 dX6_lastCall_37 dX6_lastCall_39 dX6_lastCall_42 (Nat.le_of_ble_eq_true rfl) (Nat.le_of_ble_eq_true rfl) (Nat.le_of_ble_eq_true rfl) (Nat.le_of_ble_eq_true rfl) (Nat.le_of_ble_eq_true rfl) (Nat.le_of_ble_eq_true rfl) (fun _ _ h => h)
set_option maxRecDepth 100000 in
set_option maxHeartbeats 4000000 in
theorem t_retire (hl : l.stackTraces = false) (hF : FR w M Fa Ca Aa Ro Tr n) (x1 x2 x3 : Int32) : Th l D dA B yX6_retire wX6_retire 8 [.ref M, .int x1, .int x2, .int x3] w "java/lang/IndexOutOfBoundsException" := by
  refine x_Th.of (cc := cX6_retire) (maxL := 5) (by decide) rfl (Nat.le_of_ble_eq_true rfl) ?_
  intro p e s m below meth c F htb
  refine x_aload_n F dX6_retire_0 rfl rfl ?_
  refine x_iload_n F dX6_retire_1 rfl rfl ?_
  refine x_iload_n F dX6_retire_2 rfl rfl ?_
  refine x_cVi2 (ci := 5) (C := RX6) (T := TX6) (N := 12) F dX6_retire_3 (x_gV q119 q120 q636 q1 q121) rfl (c_versionAt hF _ _) ⟨rfl, rfl, rfl, xd_X6_versionAt, ⟨Nat.le_of_ble_eq_true rfl, Nat.le_of_ble_eq_true rfl⟩, Nat.le_of_ble_eq_true rfl, Nat.le_of_ble_eq_true rfl⟩ rfl hF.1 (Nat.le_of_ble_eq_true rfl) (fun v1 w1 hp => ?_)
  obtain ⟨rfl, hw9⟩ := hp
  replace hw9 := hw9.symm
  subst hw9
  refine x_astoreN F dX6_retire_6 (by decide) ?_
  refine x_aloadN F dX6_retire_8 rfl ?_
  refine x_ifnonnullN F dX6_retire_10 ?_
  exact x_throw F hl (E := "java/lang/IndexOutOfBoundsException") (text := "no such interface or version") (names := xNm) (by decide +kernel) (by decide +kernel) q163 q18 (xs95 (x_Fix.xt F)) (xatI F.2.2.2.2.1 (x_Fix.xt F)) xokI htb dX6_retire_13 dX6_retire_16 dX6_retire_17 dX6_retire_19 dX6_retire_22 (Nat.le_of_ble_eq_true rfl) (Nat.le_of_ble_eq_true rfl) (Nat.le_of_ble_eq_true rfl) (Nat.le_of_ble_eq_true rfl) (Nat.le_of_ble_eq_true rfl) (Nat.le_of_ble_eq_true rfl) (fun _ _ h => h)
set_option maxRecDepth 100000 in
set_option maxHeartbeats 4000000 in
theorem t_answer (hl : l.stackTraces = false) (hF : FR w M Fa Ca Aa Ro Tr n) (x1 x2 x3 : Int32) : Th l D dA B yX6_answer wX6_answer 8 [.ref M, .int x1, .int x2, .int x3] w "java/lang/IndexOutOfBoundsException" := by
  refine x_Th.of (cc := cX6_answer) (maxL := 6) (by decide) rfl (Nat.le_of_ble_eq_true rfl) ?_
  intro p e s m below meth c F htb
  refine x_aload_n F dX6_answer_0 rfl rfl ?_
  refine x_iload_n F dX6_answer_1 rfl rfl ?_
  refine x_iload_n F dX6_answer_2 rfl rfl ?_
  refine x_cVi2 (ci := 5) (C := RX6) (T := TX6) (N := 12) F dX6_answer_3 (x_gV q119 q120 q636 q1 q121) rfl (c_versionAt hF _ _) ⟨rfl, rfl, rfl, xd_X6_versionAt, ⟨Nat.le_of_ble_eq_true rfl, Nat.le_of_ble_eq_true rfl⟩, Nat.le_of_ble_eq_true rfl, Nat.le_of_ble_eq_true rfl⟩ rfl hF.1 (Nat.le_of_ble_eq_true rfl) (fun v1 w1 hp => ?_)
  obtain ⟨rfl, hw9⟩ := hp
  replace hw9 := hw9.symm
  subst hw9
  refine x_astoreN F dX6_answer_6 (by decide) ?_
  refine x_aloadN F dX6_answer_8 rfl ?_
  refine x_ifnullN F dX6_answer_10 rfl ?_
  exact x_throw F hl (E := "java/lang/IndexOutOfBoundsException") (text := "no such owner, interface or version") (names := xNm) (by decide +kernel) (by decide +kernel) q163 q18 (xs218 (x_Fix.xt F)) (xatI F.2.2.2.2.1 (x_Fix.xt F)) xokI htb dX6_answer_20 dX6_answer_23 dX6_answer_24 dX6_answer_26 dX6_answer_29 (Nat.le_of_ble_eq_true rfl) (Nat.le_of_ble_eq_true rfl) (Nat.le_of_ble_eq_true rfl) (Nat.le_of_ble_eq_true rfl) (Nat.le_of_ble_eq_true rfl) (Nat.le_of_ble_eq_true rfl) (fun _ _ h => h)
set_option maxRecDepth 100000 in
set_option maxHeartbeats 4000000 in
theorem t_recall (hl : l.stackTraces = false) (hF : FR w M Fa Ca Aa Ro Tr n) (x1 x2 : Int32) : Th l D dA B yX6_recall wX6_recall 8 [.ref M, .int x1, .int x2] w "java/lang/IndexOutOfBoundsException" := by
  refine x_Th.of (cc := cX6_recall) (maxL := 5) (by decide) rfl (Nat.le_of_ble_eq_true rfl) ?_
  intro p e s m below meth c F htb
  refine x_aload_n F dX6_recall_0 rfl rfl ?_
  refine x_iload_n F dX6_recall_1 rfl rfl ?_
  refine x_iload_n F dX6_recall_2 rfl rfl ?_
  refine x_cVi2 (ci := 5) (C := RX6) (T := TX6) (N := 12) F dX6_recall_3 (x_gV q119 q120 q636 q1 q121) rfl (c_versionAt hF _ _) ⟨rfl, rfl, rfl, xd_X6_versionAt, ⟨Nat.le_of_ble_eq_true rfl, Nat.le_of_ble_eq_true rfl⟩, Nat.le_of_ble_eq_true rfl, Nat.le_of_ble_eq_true rfl⟩ rfl hF.1 (Nat.le_of_ble_eq_true rfl) (fun v1 w1 hp => ?_)
  obtain ⟨rfl, hw9⟩ := hp
  replace hw9 := hw9.symm
  subst hw9
  refine x_astore_nN F dX6_recall_6 rfl (by decide) ?_
  refine x_aload_nN F dX6_recall_7 rfl rfl ?_
  refine x_ifnonnullN F dX6_recall_8 ?_
  exact x_throw F hl (E := "java/lang/IndexOutOfBoundsException") (text := "no such interface or version") (names := xNm) (by decide +kernel) (by decide +kernel) q163 q18 (xs95 (x_Fix.xt F)) (xatI F.2.2.2.2.1 (x_Fix.xt F)) xokI htb dX6_recall_11 dX6_recall_14 dX6_recall_15 dX6_recall_17 dX6_recall_20 (Nat.le_of_ble_eq_true rfl) (Nat.le_of_ble_eq_true rfl) (Nat.le_of_ble_eq_true rfl) (Nat.le_of_ble_eq_true rfl) (Nat.le_of_ble_eq_true rfl) (Nat.le_of_ble_eq_true rfl) (fun _ _ h => h)
set_option maxRecDepth 100000 in
set_option maxHeartbeats 4000000 in
theorem t_asked (hl : l.stackTraces = false) (hF : FR w M Fa Ca Aa Ro Tr n) (x1 x2 x3 : Int32) : Th l D dA B yX6_asked wX6_asked 8 [.ref M, .int x1, .int x2, .int x3] w "java/lang/IndexOutOfBoundsException" := by
  refine x_Th.of (cc := cX6_asked) (maxL := 5) (by decide) rfl (Nat.le_of_ble_eq_true rfl) ?_
  intro p e s m below meth c F htb
  refine x_aload_n F dX6_asked_0 rfl rfl ?_
  refine x_iload_n F dX6_asked_1 rfl rfl ?_
  refine x_iload_n F dX6_asked_2 rfl rfl ?_
  refine x_cVi2 (ci := 5) (C := RX6) (T := TX6) (N := 12) F dX6_asked_3 (x_gV q119 q120 q636 q1 q121) rfl (c_versionAt hF _ _) ⟨rfl, rfl, rfl, xd_X6_versionAt, ⟨Nat.le_of_ble_eq_true rfl, Nat.le_of_ble_eq_true rfl⟩, Nat.le_of_ble_eq_true rfl, Nat.le_of_ble_eq_true rfl⟩ rfl hF.1 (Nat.le_of_ble_eq_true rfl) (fun v1 w1 hp => ?_)
  obtain ⟨rfl, hw9⟩ := hp
  replace hw9 := hw9.symm
  subst hw9
  refine x_astoreN F dX6_asked_6 (by decide) ?_
  refine x_aloadN F dX6_asked_8 rfl ?_
  refine x_ifnullN F dX6_asked_10 rfl ?_
  exact x_throw F hl (E := "java/lang/IndexOutOfBoundsException") (text := "no such owner, interface or version") (names := xNm) (by decide +kernel) (by decide +kernel) q163 q18 (xs218 (x_Fix.xt F)) (xatI F.2.2.2.2.1 (x_Fix.xt F)) xokI htb dX6_asked_20 dX6_asked_23 dX6_asked_24 dX6_asked_26 dX6_asked_29 (Nat.le_of_ble_eq_true rfl) (Nat.le_of_ble_eq_true rfl) (Nat.le_of_ble_eq_true rfl) (Nat.le_of_ble_eq_true rfl) (Nat.le_of_ble_eq_true rfl) (Nat.le_of_ble_eq_true rfl) (fun _ _ h => h)
set_option maxRecDepth 100000 in
set_option maxHeartbeats 4000000 in
theorem t_wouldCome (hl : l.stackTraces = false) (hF : FR w M Fa Ca Aa Ro Tr n) (x1 x2 : Int32) : Th l D dA B yX6_wouldCome wX6_wouldCome 8 [.ref M, .int x1, .int x2] w "java/lang/IndexOutOfBoundsException" := by
  refine x_Th.of (cc := cX6_wouldCome) (maxL := 4) (by decide) rfl (Nat.le_of_ble_eq_true rfl) ?_
  intro p e s m below meth c F htb
  refine x_aload_n F dX6_wouldCome_0 rfl rfl ?_
  refine x_iload_n F dX6_wouldCome_1 rfl rfl ?_
  refine x_cVi1 (ci := 5) (C := RX6) (T := TX6) (N := 12) F dX6_wouldCome_2 (x_gV q214 q215 q638 q1 q216) rfl (c_clientAt hF _) ⟨rfl, rfl, rfl, xd_X6_clientAt, ⟨Nat.le_of_ble_eq_true rfl, Nat.le_of_ble_eq_true rfl⟩, Nat.le_of_ble_eq_true rfl, Nat.le_of_ble_eq_true rfl⟩ rfl hF.1 (Nat.le_of_ble_eq_true rfl) (fun v1 w1 hp => ?_)
  obtain ⟨rfl, hw9⟩ := hp
  replace hw9 := hw9.symm
  subst hw9
  refine x_astore_nN F dX6_wouldCome_5 rfl (by decide) ?_
  refine x_aload_nN F dX6_wouldCome_6 rfl rfl ?_
  refine x_ifnonnullN F dX6_wouldCome_7 ?_
  exact x_throw F hl (E := "java/lang/IndexOutOfBoundsException") (text := "no such client") (names := xNm) (by decide +kernel) (by decide +kernel) q163 q18 (xs173 (x_Fix.xt F)) (xatI F.2.2.2.2.1 (x_Fix.xt F)) xokI htb dX6_wouldCome_10 dX6_wouldCome_13 dX6_wouldCome_14 dX6_wouldCome_16 dX6_wouldCome_19 (Nat.le_of_ble_eq_true rfl) (Nat.le_of_ble_eq_true rfl) (Nat.le_of_ble_eq_true rfl) (Nat.le_of_ble_eq_true rfl) (Nat.le_of_ble_eq_true rfl) (Nat.le_of_ble_eq_true rfl) (fun _ _ h => h)
set_option maxRecDepth 100000 in
set_option maxHeartbeats 4000000 in
theorem t_goneIn (hl : l.stackTraces = false) (hF : FR w M Fa Ca Aa Ro Tr n) (x1 x2 : Int32) : Th l D dA B yX6_goneIn wX6_goneIn 8 [.ref M, .int x1, .int x2] w "java/lang/IndexOutOfBoundsException" := by
  refine x_Th.of (cc := cX6_goneIn) (maxL := 4) (by decide) rfl (Nat.le_of_ble_eq_true rfl) ?_
  intro p e s m below meth c F htb
  refine x_aload_n F dX6_goneIn_0 rfl rfl ?_
  refine x_iload_n F dX6_goneIn_1 rfl rfl ?_
  refine x_iload_n F dX6_goneIn_2 rfl rfl ?_
  refine x_cVi2 (ci := 5) (C := RX6) (T := TX6) (N := 12) F dX6_goneIn_3 (x_gV q119 q120 q636 q1 q121) rfl (c_versionAt hF _ _) ⟨rfl, rfl, rfl, xd_X6_versionAt, ⟨Nat.le_of_ble_eq_true rfl, Nat.le_of_ble_eq_true rfl⟩, Nat.le_of_ble_eq_true rfl, Nat.le_of_ble_eq_true rfl⟩ rfl hF.1 (Nat.le_of_ble_eq_true rfl) (fun v1 w1 hp => ?_)
  obtain ⟨rfl, hw9⟩ := hp
  replace hw9 := hw9.symm
  subst hw9
  refine x_astore_nN F dX6_goneIn_6 rfl (by decide) ?_
  refine x_aload_nN F dX6_goneIn_7 rfl rfl ?_
  refine x_ifnonnullN F dX6_goneIn_8 ?_
  exact x_throw F hl (E := "java/lang/IndexOutOfBoundsException") (text := "no such interface or version") (names := xNm) (by decide +kernel) (by decide +kernel) q163 q18 (xs95 (x_Fix.xt F)) (xatI F.2.2.2.2.1 (x_Fix.xt F)) xokI htb dX6_goneIn_11 dX6_goneIn_14 dX6_goneIn_15 dX6_goneIn_17 dX6_goneIn_20 (Nat.le_of_ble_eq_true rfl) (Nat.le_of_ble_eq_true rfl) (Nat.le_of_ble_eq_true rfl) (Nat.le_of_ble_eq_true rfl) (Nat.le_of_ble_eq_true rfl) (Nat.le_of_ble_eq_true rfl) (fun _ _ h => h)
set_option maxRecDepth 100000 in
set_option maxHeartbeats 4000000 in
theorem t_wouldBreak (hl : l.stackTraces = false) (hF : FR w M Fa Ca Aa Ro Tr n) (x1 x2 x3 : Int32) : Th l D dA B yX6_wouldBreak wX6_wouldBreak 8 [.ref M, .int x1, .int x2, .int x3] w "java/lang/IndexOutOfBoundsException" := by
  refine x_Th.of (cc := cX6_wouldBreak) (maxL := 8) (by decide) rfl (Nat.le_of_ble_eq_true rfl) ?_
  intro p e s m below meth c F htb
  refine x_aload_n F dX6_wouldBreak_0 rfl rfl ?_
  refine x_iload_n F dX6_wouldBreak_1 rfl rfl ?_
  refine x_cVi1 (ci := 5) (C := RX6) (T := TX6) (N := 12) F dX6_wouldBreak_2 (x_gV q122 q123 q637 q1 q124) rfl (c_faceAt hF _) ⟨rfl, rfl, rfl, xd_X6_faceAt, ⟨Nat.le_of_ble_eq_true rfl, Nat.le_of_ble_eq_true rfl⟩, Nat.le_of_ble_eq_true rfl, Nat.le_of_ble_eq_true rfl⟩ rfl hF.1 (Nat.le_of_ble_eq_true rfl) (fun v1 w1 hp => ?_)
  obtain ⟨rfl, hw9⟩ := hp
  replace hw9 := hw9.symm
  subst hw9
  refine x_astoreN F dX6_wouldBreak_5 (by decide) ?_
  refine x_aloadN F dX6_wouldBreak_7 rfl ?_
  refine x_ifnonnullN F dX6_wouldBreak_9 ?_
  exact x_throw F hl (E := "java/lang/IndexOutOfBoundsException") (text := "no such interface") (names := xNm) (by decide +kernel) (by decide +kernel) q163 q18 (xs61 (x_Fix.xt F)) (xatI F.2.2.2.2.1 (x_Fix.xt F)) xokI htb dX6_wouldBreak_12 dX6_wouldBreak_15 dX6_wouldBreak_16 dX6_wouldBreak_18 dX6_wouldBreak_21 (Nat.le_of_ble_eq_true rfl) (Nat.le_of_ble_eq_true rfl) (Nat.le_of_ble_eq_true rfl) (Nat.le_of_ble_eq_true rfl) (Nat.le_of_ble_eq_true rfl) (Nat.le_of_ble_eq_true rfl) (fun _ _ h => h)
set_option maxRecDepth 100000 in
set_option maxHeartbeats 4000000 in
theorem t_target (hl : l.stackTraces = false) (hF : FR w M Fa Ca Aa Ro Tr n) (x1 : Int32) : Th l D dA B yX6_target wX6_target 8 [.ref M, .int x1] w "java/lang/IndexOutOfBoundsException" := by
  refine x_Th.of (cc := cX6_target) (maxL := 3) (by decide) rfl (Nat.le_of_ble_eq_true rfl) ?_
  intro p e s m below meth c F htb
  refine x_aload_n F dX6_target_0 rfl rfl ?_
  refine x_iload_n F dX6_target_1 rfl rfl ?_
  refine x_cVi1 (ci := 5) (C := RX6) (T := TX6) (N := 12) F dX6_target_2 (x_gV q214 q215 q638 q1 q216) rfl (c_clientAt hF _) ⟨rfl, rfl, rfl, xd_X6_clientAt, ⟨Nat.le_of_ble_eq_true rfl, Nat.le_of_ble_eq_true rfl⟩, Nat.le_of_ble_eq_true rfl, Nat.le_of_ble_eq_true rfl⟩ rfl hF.1 (Nat.le_of_ble_eq_true rfl) (fun v1 w1 hp => ?_)
  obtain ⟨rfl, hw9⟩ := hp
  replace hw9 := hw9.symm
  subst hw9
  refine x_astore_nN F dX6_target_5 rfl (by decide) ?_
  refine x_aload_nN F dX6_target_6 rfl rfl ?_
  refine x_ifnonnullN F dX6_target_7 ?_
  exact x_throw F hl (E := "java/lang/IndexOutOfBoundsException") (text := "no such client") (names := xNm) (by decide +kernel) (by decide +kernel) q163 q18 (xs173 (x_Fix.xt F)) (xatI F.2.2.2.2.1 (x_Fix.xt F)) xokI htb dX6_target_10 dX6_target_13 dX6_target_14 dX6_target_16 dX6_target_19 (Nat.le_of_ble_eq_true rfl) (Nat.le_of_ble_eq_true rfl) (Nat.le_of_ble_eq_true rfl) (Nat.le_of_ble_eq_true rfl) (Nat.le_of_ble_eq_true rfl) (Nat.le_of_ble_eq_true rfl) (fun _ _ h => h)
set_option maxRecDepth 100000 in
set_option maxHeartbeats 4000000 in
theorem t_goneBy (hl : l.stackTraces = false) (hF : FR w M Fa Ca Aa Ro Tr n) (x1 x2 x3 : Int32) : Th l D dA B yX6_goneBy wX6_goneBy 8 [.ref M, .int x1, .int x2, .int x3] w "java/lang/IndexOutOfBoundsException" := by
  refine x_Th.of (cc := cX6_goneBy) (maxL := 5) (by decide) rfl (Nat.le_of_ble_eq_true rfl) ?_
  intro p e s m below meth c F htb
  refine x_aload_n F dX6_goneBy_0 rfl rfl ?_
  refine x_iload_n F dX6_goneBy_1 rfl rfl ?_
  refine x_iload_n F dX6_goneBy_2 rfl rfl ?_
  refine x_cVi2 (ci := 5) (C := RX6) (T := TX6) (N := 12) F dX6_goneBy_3 (x_gV q119 q120 q636 q1 q121) rfl (c_versionAt hF _ _) ⟨rfl, rfl, rfl, xd_X6_versionAt, ⟨Nat.le_of_ble_eq_true rfl, Nat.le_of_ble_eq_true rfl⟩, Nat.le_of_ble_eq_true rfl, Nat.le_of_ble_eq_true rfl⟩ rfl hF.1 (Nat.le_of_ble_eq_true rfl) (fun v1 w1 hp => ?_)
  obtain ⟨rfl, hw9⟩ := hp
  replace hw9 := hw9.symm
  subst hw9
  refine x_astoreN F dX6_goneBy_6 (by decide) ?_
  refine x_aloadN F dX6_goneBy_8 rfl ?_
  refine x_ifnonnullN F dX6_goneBy_10 ?_
  exact x_throw F hl (E := "java/lang/IndexOutOfBoundsException") (text := "no such interface or version") (names := xNm) (by decide +kernel) (by decide +kernel) q163 q18 (xs95 (x_Fix.xt F)) (xatI F.2.2.2.2.1 (x_Fix.xt F)) xokI htb dX6_goneBy_13 dX6_goneBy_16 dX6_goneBy_17 dX6_goneBy_19 dX6_goneBy_22 (Nat.le_of_ble_eq_true rfl) (Nat.le_of_ble_eq_true rfl) (Nat.le_of_ble_eq_true rfl) (Nat.le_of_ble_eq_true rfl) (Nat.le_of_ble_eq_true rfl) (Nat.le_of_ble_eq_true rfl) (fun _ _ h => h)
set_option maxRecDepth 100000 in
set_option maxHeartbeats 4000000 in
theorem t_many (hl : l.stackTraces = false) (x : Int32) (h : x < 0 ∨ ¬ x ≤ 10) (M : Nat) : Th l D dA B yX6_many wX6_many 8 [.ref M, .int x] w "java/lang/IllegalArgumentException" := by
  refine x_Th.of (cc := cX6_many) (maxL := 2) (by decide) rfl (Nat.le_of_ble_eq_true rfl) ?_
  intro p e s m below meth c F htb
  refine x_iload_n F dX6_many_0 rfl rfl ?_
  refine x_if_lt F dX6_many_1 rfl (fun h1 => ?_) (fun h1 => ?_)
  · exact x_throw F hl (E := "java/lang/IllegalArgumentException") (text := "what is not 0 to 10") (names := xNm) (by decide +kernel) (by decide +kernel) q165 q19 (xs97 (x_Fix.xt F)) (xatA F.2.2.2.2.1 (x_Fix.xt F)) xokA htb dX6_many_10 dX6_many_13 dX6_many_14 dX6_many_16 dX6_many_19 (Nat.le_of_ble_eq_true rfl) (Nat.le_of_ble_eq_true rfl) (Nat.le_of_ble_eq_true rfl) (Nat.le_of_ble_eq_true rfl) (Nat.le_of_ble_eq_true rfl) (Nat.le_of_ble_eq_true rfl) (fun _ _ h => h)
  · refine x_iload_n F dX6_many_4 rfl rfl ?_
    refine x_bipush (v := 10) F dX6_many_5 (by decide) ?_
    refine x_icmp_le F dX6_many_7 rfl (fun hc => absurd hc (h.resolve_left h1)) (fun h7 => ?_)
    exact x_throw F hl (E := "java/lang/IllegalArgumentException") (text := "what is not 0 to 10") (names := xNm) (by decide +kernel) (by decide +kernel) q165 q19 (xs97 (x_Fix.xt F)) (xatA F.2.2.2.2.1 (x_Fix.xt F)) xokA htb dX6_many_10 dX6_many_13 dX6_many_14 dX6_many_16 dX6_many_19 (Nat.le_of_ble_eq_true rfl) (Nat.le_of_ble_eq_true rfl) (Nat.le_of_ble_eq_true rfl) (Nat.le_of_ble_eq_true rfl) (Nat.le_of_ble_eq_true rfl) (Nat.le_of_ble_eq_true rfl) (fun _ _ h => h)
set_option maxRecDepth 100000 in
set_option maxHeartbeats 4000000 in
theorem t_pass (hl : l.stackTraces = false) (x : Int32) (h : x < 1 ∨ ¬ x ≤ 100) (M : Nat) : Th l D dA B yX6_pass wX6_pass 8 [.ref M, .int x] w "java/lang/IllegalArgumentException" := by
  refine x_Th.of (cc := cX6_pass) (maxL := 4) (by decide) rfl (Nat.le_of_ble_eq_true rfl) ?_
  intro p e s m below meth c F htb
  refine x_iload_n F dX6_pass_0 rfl rfl ?_
  refine x_iconst (v := 1) F dX6_pass_1 (by decide) ?_
  refine x_icmp_lt F dX6_pass_2 rfl (fun h2 => ?_) (fun h2 => ?_)
  · exact x_throw F hl (E := "java/lang/IllegalArgumentException") (text := "hours is not 1 to 100") (names := xNm) (by decide +kernel) (by decide +kernel) q165 q19 (xs199 (x_Fix.xt F)) (xatA F.2.2.2.2.1 (x_Fix.xt F)) xokA htb dX6_pass_11 dX6_pass_14 dX6_pass_15 dX6_pass_17 dX6_pass_20 (Nat.le_of_ble_eq_true rfl) (Nat.le_of_ble_eq_true rfl) (Nat.le_of_ble_eq_true rfl) (Nat.le_of_ble_eq_true rfl) (Nat.le_of_ble_eq_true rfl) (Nat.le_of_ble_eq_true rfl) (fun _ _ h => h)
  · refine x_iload_n F dX6_pass_5 rfl rfl ?_
    refine x_bipush (v := 100) F dX6_pass_6 (by decide) ?_
    refine x_icmp_le F dX6_pass_8 rfl (fun hc => absurd hc (h.resolve_left h2)) (fun h8 => ?_)
    exact x_throw F hl (E := "java/lang/IllegalArgumentException") (text := "hours is not 1 to 100") (names := xNm) (by decide +kernel) (by decide +kernel) q165 q19 (xs199 (x_Fix.xt F)) (xatA F.2.2.2.2.1 (x_Fix.xt F)) xokA htb dX6_pass_11 dX6_pass_14 dX6_pass_15 dX6_pass_17 dX6_pass_20 (Nat.le_of_ble_eq_true rfl) (Nat.le_of_ble_eq_true rfl) (Nat.le_of_ble_eq_true rfl) (Nat.le_of_ble_eq_true rfl) (Nat.le_of_ble_eq_true rfl) (Nat.le_of_ble_eq_true rfl) (fun _ _ h => h)
set_option maxRecDepth 100000 in
set_option maxHeartbeats 4000000 in
theorem c_many (hF : FR w M Fa Ca Aa Ro Tr 0) {t : Nat} (ht : t ≤ 10) : Ci l D dA B yX6_many wX6_many 5 [.ref M, .int (nI t)] w (fun v w1 => v = .int 0 ∧ w1 = w) := by
  refine x_Ct.of (cc := cX6_many) (maxL := 2) (by decide) rfl (Nat.le_of_ble_eq_true rfl) ?_
  intro p e s m below meth c F
  refine x_iload_n F dX6_many_0 rfl rfl ?_
  refine x_if_lt F dX6_many_1 rfl (fun hc => absurd hc (nI_pos (by omega))) (fun h1 => ?_)
  refine x_iload_n F dX6_many_4 rfl rfl ?_
  refine x_bipush (v := 10) F dX6_many_5 (by decide) ?_
  refine x_icmp_le F dX6_many_7 rfl (fun h7 => ?_) (fun hc => absurd hc (fun q => q ((nI_leI (b := 10) (by omega) (by decide)).mpr ht)))
  refine x_aload_n F dX6_many_20 rfl rfl ?_
  refine x_iload_n F dX6_many_21 rfl rfl ?_
  refine x_cVi1 (ci := 5) (C := RX6) (T := TX6) (N := 12) F dX6_many_22 (x_gV q113 q114 q634 q1 q115) rfl (c_countOf hF ht) ⟨rfl, rfl, rfl, xd_X6_countOf, ⟨Nat.le_of_ble_eq_true rfl, Nat.le_of_ble_eq_true rfl⟩, Nat.le_of_ble_eq_true rfl, Nat.le_of_ble_eq_true rfl⟩ rfl hF.1 (Nat.le_of_ble_eq_true rfl) (fun v1 w1 hp => ?_)
  obtain ⟨rfl, hw9⟩ := hp
  replace hw9 := hw9.symm
  subst hw9
  refine x_iret F rfl rfl dX6_many_25 (Nat.le_of_ble_eq_true rfl) (Nat.le_of_ble_eq_true rfl) ?_
  exact ⟨_, rfl, rfl, rfl⟩
set_option maxRecDepth 100000 in
set_option maxHeartbeats 4000000 in
theorem c_share (hF : FR w M Fa Ca Aa Ro Tr n) : Ci l D dA B yX6_servedShare wX6_servedShare 0 [.ref M] w (fun v w1 => v = .double FP.dconst1 ∧ w1 = w) := by
  refine x_Ct.of (cc := cX6_servedShare) (maxL := 1) (by decide) rfl (Nat.le_of_ble_eq_true rfl) ?_
  intro p e s m below meth c F
  refine x_aload_n F dX6_servedShare_0 rfl rfl ?_
  refine x_get (ci := 5) (C := RX6) (T := TX6) (N := 12) (k := 7) F dX6_servedShare_1 rfl inX6 (by decide) q86 rfl hF.1 rfl ?_
  refine x_if_ne F dX6_servedShare_4 rfl (fun hc => absurd hc (by decide)) (fun _ => ?_)
  refine x_dconst1 F dX6_servedShare_7 ?_
  refine x_dret F rfl dX6_servedShare_8 (Nat.le_of_ble_eq_true rfl) (Nat.le_of_ble_eq_true rfl) ?_
  exact ⟨_, rfl, rfl, rfl⟩
set_option maxRecDepth 100000 in
set_option maxHeartbeats 4000000 in
theorem c_hour (hF : FR w M Fa Ca Aa Ro Tr n) : Ci l D dA B yX6_beginHour wX6_beginHour 2 [.ref M] w (fun v w1 => v = .int 0 ∧ w1 = (x_set w M (oX Fa Ca Aa Ro Tr 0 (n + 1)))) := by
  refine x_Ct.of (cc := cX6_beginHour) (maxL := 5) (by decide) rfl (Nat.le_of_ble_eq_true rfl) ?_
  intro p e s m below meth c F
  have hG : FR (x_set w M (oX Fa Ca Aa Ro Tr 0 (n + 1))) M Fa Ca Aa Ro Tr (n + 1) := hF.setN (n + 1)
  obtain ⟨wg, hwg⟩ : ∃ wg, wg = (x_set w M (oX Fa Ca Aa Ro Tr 0 (n + 1))) := ⟨_, rfl⟩
  rw [← hwg] at hG
  have loop2 : ∀ n2 f, f + n2 = 4 → X p l e (rmd 2 0 0) s m #[.ref M] below meth c (MQ below (x_Q D dA vwC1 tyL1 B (fun r w1 => ∃ v, r = some v ∧ (v = .int 0 ∧ w1 = (x_set w M (oX Fa Ca Aa Ro Tr 0 (n + 1)))))) #[.ref M] s 0 0 (fun q => B ≤ q)) D dA vwC1 B 5 0 0 50 [(0, .ref M), (1, .int 0), (2, .int (nI f))] [] wg := by
    intro n2
    induction n2 with
    | zero =>
      intro f hf1
      obtain rfl : f = 4 := by omega
      refine x_iload_n F dX6_beginHour_50 rfl rfl ?_
      refine x_iconst (v := 4) F dX6_beginHour_51 (by decide) ?_
      refine x_icmp_ge F dX6_beginHour_52 rfl (fun h52 => ?_) (fun hc => absurd hc (fun q => q (Int32.le_refl _)))
      refine x_iload_n F dX6_beginHour_124 rfl rfl ?_
      refine x_iret F rfl rfl dX6_beginHour_125 (Nat.le_of_ble_eq_true rfl) (Nat.le_of_ble_eq_true rfl) ?_
      exact ⟨_, rfl, rfl, hwg⟩
    | succ n2 ih2 =>
      intro f hf1
      have inner : ∀ n1 k, k + n1 = 6 → X p l e (rmd 2 0 0) s m #[.ref M] below meth c (MQ below (x_Q D dA vwC1 tyL1 B (fun r w1 => ∃ v, r = some v ∧ (v = .int 0 ∧ w1 = (x_set w M (oX Fa Ca Aa Ro Tr 0 (n + 1)))))) #[.ref M] s 0 0 (fun q => B ≤ q)) D dA vwC1 B 5 0 0 57 [(0, .ref M), (1, .int 0), (2, .int (nI f)), (3, .int (nI k))] [] wg := by
        intro n1
        induction n1 with
        | zero =>
          intro k hk1 
          obtain rfl : k = 6 := by omega
          refine x_iload_n F dX6_beginHour_57 rfl rfl ?_
          refine x_bipush (v := 6) F dX6_beginHour_58 (by decide) ?_
          refine x_icmp_ge F dX6_beginHour_60 rfl (fun h60 => ?_) (fun hc => absurd hc (fun q => q (Int32.le_refl _)))
          refine x_iincN F dX6_beginHour_118 (by decide) rfl (by decide) ?_
          refine x_goto F dX6_beginHour_121 rfl ?_
          exact x_lk (ih2 (f + 1) (by omega)) ⟨rfl, rfl, rfl, trivial⟩
        | succ n1 ih =>
          intro k hk1 
          refine x_iload_n F dX6_beginHour_57 rfl rfl ?_
          refine x_bipush (v := 6) F dX6_beginHour_58 (by decide) ?_
          refine x_icmp_ge F dX6_beginHour_60 rfl (fun hc => absurd hc (nI_ge (b := 6) (by omega) (by decide))) (fun h60 => ?_)
          refine x_aload_n F dX6_beginHour_63 rfl rfl ?_
          refine x_iload_n F dX6_beginHour_64 rfl rfl ?_
          refine x_iload_n F dX6_beginHour_65 rfl rfl ?_
          refine x_cVi2 (ci := 5) (C := RX6) (T := TX6) (N := 12) F dX6_beginHour_66 (x_gV q119 q120 q636 q1 q121) rfl (c_versionAt hG (nI f) (nI k)) ⟨rfl, rfl, rfl, xd_X6_versionAt, ⟨Nat.le_of_ble_eq_true rfl, Nat.le_of_ble_eq_true rfl⟩, Nat.le_of_ble_eq_true rfl, Nat.le_of_ble_eq_true rfl⟩ rfl hG.1 (Nat.le_of_ble_eq_true rfl) (fun v1 w1 hp => ?_)
          obtain ⟨rfl, hw9⟩ := hp
          replace hw9 := hw9.symm
          subst hw9
          refine x_astoreN F dX6_beginHour_69 (by decide) ?_
          refine x_aloadN F dX6_beginHour_71 rfl ?_
          refine x_ifnullN F dX6_beginHour_73 rfl ?_
          refine x_iincN F dX6_beginHour_112 (by decide) rfl (by decide) ?_
          refine x_goto F dX6_beginHour_115 rfl ?_
          exact x_lk (ih (k + 1) (by omega)) ⟨rfl, rfl, rfl, rfl, trivial⟩
      refine x_iload_n F dX6_beginHour_50 rfl rfl ?_
      refine x_iconst (v := 4) F dX6_beginHour_51 (by decide) ?_
      refine x_icmp_ge F dX6_beginHour_52 rfl (fun hc => absurd hc (nI_ge (b := 4) (by omega) (by decide))) (fun h52 => ?_)
      refine x_iconst (v := 0) F dX6_beginHour_55 (by decide) ?_
      refine x_istore_n F dX6_beginHour_56 rfl (by decide) ?_
      exact x_lk (inner 6 0 (by omega)) ⟨rfl, rfl, rfl, rfl, trivial⟩
  have loop1 : ∀ n1 k, k + n1 = 10 → X p l e (rmd 2 0 0) s m #[.ref M] below meth c (MQ below (x_Q D dA vwC1 tyL1 B (fun r w1 => ∃ v, r = some v ∧ (v = .int 0 ∧ w1 = (x_set w M (oX Fa Ca Aa Ro Tr 0 (n + 1)))))) #[.ref M] s 0 0 (fun q => B ≤ q)) D dA vwC1 B 5 0 0 12 [(0, .ref M), (1, .int (nI k))] [] wg := by
    intro n1
    induction n1 with
    | zero =>
      intro k hk1 
      obtain rfl : k = 10 := by omega
      refine x_iload_n F dX6_beginHour_12 rfl rfl ?_
      refine x_aload_n F dX6_beginHour_13 rfl rfl ?_
      refine x_get (ci := 5) (C := RX6) (T := TX6) (N := 12) (k := 1) F dX6_beginHour_14 rfl inX6 (by decide) q80 rfl hG.1 rfl ?_
      refine x_alen (v := 10) F dX6_beginHour_17 rfl hG.2.2 rfl ?_
      refine x_icmp_ge F dX6_beginHour_18 rfl (fun h18 => ?_) (fun hc => absurd hc (fun q => q (Int32.le_refl _)))
      refine x_iconst (v := 0) F dX6_beginHour_46 (by decide) ?_
      refine x_istore_n F dX6_beginHour_47 rfl (by decide) ?_
      refine x_iconst (v := 0) F dX6_beginHour_48 (by decide) ?_
      refine x_istore_n F dX6_beginHour_49 rfl (by decide) ?_
      exact x_lk (loop2 4 0 (by omega)) ⟨rfl, rfl, rfl, trivial⟩
    | succ n1 ih =>
      intro k hk1 
      refine x_iload_n F dX6_beginHour_12 rfl rfl ?_
      refine x_aload_n F dX6_beginHour_13 rfl rfl ?_
      refine x_get (ci := 5) (C := RX6) (T := TX6) (N := 12) (k := 1) F dX6_beginHour_14 rfl inX6 (by decide) q80 rfl hG.1 rfl ?_
      refine x_alen (v := 10) F dX6_beginHour_17 rfl hG.2.2 rfl ?_
      refine x_icmp_ge F dX6_beginHour_18 rfl (fun hc => absurd hc (nI_ge (b := 10) (by omega) (by decide))) (fun h18 => ?_)
      refine x_aload_n F dX6_beginHour_21 rfl rfl ?_
      refine x_get (ci := 5) (C := RX6) (T := TX6) (N := 12) (k := 1) F dX6_beginHour_22 rfl inX6 (by decide) q80 rfl hG.1 rfl ?_
      refine x_iload_n F dX6_beginHour_25 rfl rfl ?_
      refine x_aaldN F dX6_beginHour_26 rfl hG.2.2 (by omega) (by decide) ?_
      refine x_astore_nN F dX6_beginHour_27 rfl (by decide) ?_
      refine x_aload_nN F dX6_beginHour_28 rfl rfl ?_
      refine x_ifnullN F dX6_beginHour_29 rfl ?_
      refine x_iincN F dX6_beginHour_40 (by decide) rfl (by decide) ?_
      refine x_goto F dX6_beginHour_43 rfl ?_
      exact x_lk (ih (k + 1) (by omega)) ⟨rfl, rfl, trivial⟩
  refine x_aload_n F dX6_beginHour_0 rfl rfl ?_
  refine x_dup F dX6_beginHour_1 rfl ?_
  refine x_get (ci := 5) (C := RX6) (T := TX6) (N := 12) (k := 6) F dX6_beginHour_2 rfl inX6 (by decide) q85 rfl hF.1 rfl ?_
  refine x_iconst (v := 1) F dX6_beginHour_5 (by decide) ?_
  refine x_iadd F dX6_beginHour_6 ?_
  refine x_put (ci := 5) (C := RX6) (T := TX6) (N := 12) (k := 6) F dX6_beginHour_7 rfl inX6 tyX6 tyX6_ok nmX6 (by decide) q85 rfl rfl hF.1 (Nat.le_of_ble_eq_true rfl) rfl rfl ?_
  refine x_wd (fun w2 hw2 => ?_)
  obtain rfl : w2 = wg := hw2.trans hwg.symm
  refine x_iconst (v := 0) F dX6_beginHour_10 (by decide) ?_
  refine x_istore_n F dX6_beginHour_11 rfl (by decide) ?_
  exact x_lk (loop1 10 0 (by omega)) ⟨rfl, rfl, trivial⟩
set_option maxRecDepth 100000 in
set_option maxHeartbeats 4000000 in
theorem c_pass (hF : FR w M Fa Ca Aa Ro Tr n) {t : Nat} (ha : 1 ≤ t) (hb : t ≤ 100) : Ci l D dA B yX6_pass wX6_pass 3 [.ref M, .int (nI t)] w (fun v w1 => v = .int 0 ∧ ∀ a, ¬ a = M → w1 a = w a) := by
  refine x_Ct.of (cc := cX6_pass) (maxL := 4) (by decide) rfl (Nat.le_of_ble_eq_true rfl) ?_
  intro p e s m below meth c F
  have loop : ∀ n1 k, k + n1 = t → ∀ n wz, FR wz M Fa Ca Aa Ro Tr n → (∀ a, ¬ a = M → wz a = w a) → X p l e (rmd 3 0 0) s m #[.ref M, .int (nI t)] below meth c (MQ below (x_Q D dA vwC1 tyL1 B (fun r w1 => ∃ v, r = some v ∧ (v = .int 0 ∧ ∀ a, ¬ a = M → w1 a = w a))) #[.ref M, .int (nI t)] s 0 0 (fun q => B ≤ q)) D dA vwC1 B 4 0 0 25 [(0, .ref M), (1, .int (nI t)), (2, .int 0), (3, .int (nI k))] [] wz := by
    intro n1
    induction n1 with
    | zero =>
      intro k hk1 n wz hF ho
      obtain rfl : k = t := by omega
      refine x_iload_n F dX6_pass_25 rfl rfl ?_
      refine x_iload_n F dX6_pass_26 rfl rfl ?_
      refine x_icmp_ge F dX6_pass_27 rfl (fun h27 => ?_) (fun hc => absurd hc (fun q => q (Int32.le_refl _)))
      refine x_iload_n F dX6_pass_43 rfl rfl ?_
      refine x_iret F rfl rfl dX6_pass_44 (Nat.le_of_ble_eq_true rfl) (Nat.le_of_ble_eq_true rfl) ?_
      exact ⟨_, rfl, rfl, ho⟩
    | succ n1 ih =>
      intro k hk1 n wz hF ho
      refine x_iload_n F dX6_pass_25 rfl rfl ?_
      refine x_iload_n F dX6_pass_26 rfl rfl ?_
      refine x_icmp_ge F dX6_pass_27 rfl (fun hc => absurd hc (nI_ge (by omega) (by omega))) (fun h27 => ?_)
      refine x_iload_n F dX6_pass_30 rfl rfl ?_
      refine x_aload_n F dX6_pass_31 rfl rfl ?_
      refine x_cVi0 (ci := 5) (C := RX6) (T := TX6) (N := 12) F dX6_pass_32 (x_gV q255 q256 q639 q1 q257) rfl (c_hour hF) ⟨rfl, rfl, rfl, xd_X6_beginHour, ⟨Nat.le_of_ble_eq_true rfl, Nat.le_of_ble_eq_true rfl⟩, Nat.le_of_ble_eq_true rfl, Nat.le_of_ble_eq_true rfl⟩ rfl hF.1 (Nat.le_of_ble_eq_true rfl) (fun v1 w1 hp => ?_)
      obtain ⟨rfl, hw9⟩ := hp
      refine x_iadd F dX6_pass_35 ?_
      refine x_istore_n F dX6_pass_36 rfl (by decide) ?_
      refine x_iincN F dX6_pass_37 (by decide) rfl (by decide) ?_
      refine x_goto F dX6_pass_40 rfl ?_
      rw [hw9]
      exact x_lk (ih (k + 1) (by omega) _ _ (hF.setN _) (fun a h => (x_set_ne _ _ h).trans (ho a h))) ⟨rfl, rfl, rfl, rfl, trivial⟩
  refine x_iload_n F dX6_pass_0 rfl rfl ?_
  refine x_iconst (v := 1) F dX6_pass_1 (by decide) ?_
  refine x_icmp_lt F dX6_pass_2 rfl (fun hc => absurd hc (nI_nlt (b := 1) ha (by omega))) (fun h2 => ?_)
  refine x_iload_n F dX6_pass_5 rfl rfl ?_
  refine x_bipush (v := 100) F dX6_pass_6 (by decide) ?_
  refine x_icmp_le F dX6_pass_8 rfl (fun h8 => ?_) (fun hc => absurd hc (fun q => q ((nI_leI (b := 100) (by omega) (by decide)).mpr hb)))
  refine x_iconst (v := 0) F dX6_pass_21 (by decide) ?_
  refine x_istore_n F dX6_pass_22 rfl (by decide) ?_
  refine x_iconst (v := 0) F dX6_pass_23 (by decide) ?_
  refine x_istore_n F dX6_pass_24 rfl (by decide) ?_
  exact x_lk (loop t 0 (by omega) _ _ hF (fun _ _ => rfl)) ⟨rfl, rfl, rfl, rfl, trivial⟩
end THR
