theorem dX12_thrown_0 : decode cX12_thrown 0 = .ok (.aload_n 0, 1) := by decide +kernel
theorem dX12_thrown_1 : decode cX12_thrown 1 = .ok (.getfield 16, 3) := by decide +kernel
theorem dX12_thrown_4 : decode cX12_thrown 4 = .ok (.ireturn, 1) := by decide +kernel
theorem dX12_isIn_0 : decode cX12_isIn 0 = .ok (.iload_n 0, 1) := by decide +kernel
theorem dX12_isIn_1 : decode cX12_isIn 1 = .ok (.iload_n 1, 1) := by decide +kernel
theorem dX12_isIn_2 : decode cX12_isIn 2 = .ok (.if_icmp .lt 12, 3) := by decide +kernel
theorem dX12_isIn_14 : decode cX12_isIn 14 = .ok (.iconst 0, 1) := by decide +kernel
theorem dX12_isIn_15 : decode cX12_isIn 15 = .ok (.ireturn, 1) := by decide +kernel
theorem dX12_isIn_5 : decode cX12_isIn 5 = .ok (.iload_n 0, 1) := by decide +kernel
theorem dX12_isIn_6 : decode cX12_isIn 6 = .ok (.iload_n 2, 1) := by decide +kernel
theorem dX12_isIn_7 : decode cX12_isIn 7 = .ok (.if_icmp .gt 7, 3) := by decide +kernel
theorem dX12_isIn_10 : decode cX12_isIn 10 = .ok (.iconst 1, 1) := by decide +kernel
theorem dX12_isIn_11 : decode cX12_isIn 11 = .ok (.goto 4, 3) := by decide +kernel
theorem dX12_refuse_0 : decode cX12_refuse 0 = .ok (.iload_n 1, 1) := by decide +kernel
theorem dX12_refuse_1 : decode cX12_refuse 1 = .ok (.ifCond .eq 15, 3) := by decide +kernel
theorem dX12_refuse_4 : decode cX12_refuse 4 = .ok (.aload_n 0, 1) := by decide +kernel
theorem dX12_refuse_5 : decode cX12_refuse 5 = .ok (.getfield 16, 3) := by decide +kernel
theorem dX12_refuse_8 : decode cX12_refuse 8 = .ok (.ifCond .ne 8, 3) := by decide +kernel
theorem dX12_refuse_11 : decode cX12_refuse 11 = .ok (.aload_n 0, 1) := by decide +kernel
theorem dX12_refuse_12 : decode cX12_refuse 12 = .ok (.iload_n 2, 1) := by decide +kernel
theorem dX12_refuse_13 : decode cX12_refuse 13 = .ok (.putfield 16, 3) := by decide +kernel
theorem dX12_refuse_16 : decode cX12_refuse 16 = .ok (.aload_n 0, 1) := by decide +kernel
theorem dX12_refuse_17 : decode cX12_refuse 17 = .ok (.getfield 16, 3) := by decide +kernel
theorem dX12_refuse_20 : decode cX12_refuse 20 = .ok (.ifCond .le 7, 3) := by decide +kernel
theorem dX12_refuse_23 : decode cX12_refuse 23 = .ok (.iconst 1, 1) := by decide +kernel
theorem dX12_refuse_24 : decode cX12_refuse 24 = .ok (.goto 4, 3) := by decide +kernel
theorem dX12_refuse_28 : decode cX12_refuse 28 = .ok (.ireturn, 1) := by decide +kernel
theorem dX12_refuse_27 : decode cX12_refuse 27 = .ok (.iconst 0, 1) := by decide +kernel
theorem dX12_start_0 : decode cX12_start 0 = .ok (.aload_n 0, 1) := by decide +kernel
theorem dX12_start_1 : decode cX12_start 1 = .ok (.iconst 0, 1) := by decide +kernel
theorem dX12_start_2 : decode cX12_start 2 = .ok (.putfield 16, 3) := by decide +kernel
theorem dX12_start_5 : decode cX12_start 5 = .ok (.aload_n 0, 1) := by decide +kernel
theorem dX12_start_6 : decode cX12_start 6 = .ok (.iload_n 1, 1) := by decide +kernel
theorem dX12_start_7 : decode cX12_start 7 = .ok (.iload_n 2, 1) := by decide +kernel
theorem dX12_start_8 : decode cX12_start 8 = .ok (.invokevirtual 20, 3) := by decide +kernel
theorem dX12_start_11 : decode cX12_start 11 = .ok (.ireturn, 1) := by decide +kernel
theorem dX12_isNoFace_0 : decode cX12_isNoFace 0 = .ok (.iload_n 1, 1) := by decide +kernel
theorem dX12_isNoFace_1 : decode cX12_isNoFace 1 = .ok (.iconst 0, 1) := by decide +kernel
theorem dX12_isNoFace_2 : decode cX12_isNoFace 2 = .ok (.aload_n 0, 1) := by decide +kernel
theorem dX12_isNoFace_3 : decode cX12_isNoFace 3 = .ok (.getfield 10, 3) := by decide +kernel
theorem dX12_isNoFace_6 : decode cX12_isNoFace 6 = .ok (.getfield 24, 3) := by decide +kernel
theorem dX12_isNoFace_9 : decode cX12_isNoFace 9 = .ok (.invokevirtual 28, 3) := by decide +kernel
theorem dX12_isNoFace_12 : decode cX12_isNoFace 12 = .ok (.iconst 1, 1) := by decide +kernel
theorem dX12_isNoFace_13 : decode cX12_isNoFace 13 = .ok (.isub, 1) := by decide +kernel
theorem dX12_isNoFace_14 : decode cX12_isNoFace 14 = .ok (.invokestatic 34, 3) := by decide +kernel
theorem dX12_isNoFace_17 : decode cX12_isNoFace 17 = .ok (.ifCond .ne 7, 3) := by decide +kernel
theorem dX12_isNoFace_20 : decode cX12_isNoFace 20 = .ok (.iconst 1, 1) := by decide +kernel
theorem dX12_isNoFace_21 : decode cX12_isNoFace 21 = .ok (.goto 4, 3) := by decide +kernel
theorem dX12_isNoFace_25 : decode cX12_isNoFace 25 = .ok (.ireturn, 1) := by decide +kernel
theorem dX12_isNo_0 : decode cX12_isNo 0 = .ok (.aload_n 0, 1) := by decide +kernel
theorem dX12_isNo_1 : decode cX12_isNo 1 = .ok (.iload_n 1, 1) := by decide +kernel
theorem dX12_isNo_2 : decode cX12_isNo 2 = .ok (.invokevirtual 38, 3) := by decide +kernel
theorem dX12_isNo_5 : decode cX12_isNo 5 = .ok (.ifCond .ne 30, 3) := by decide +kernel
theorem dX12_isNo_35 : decode cX12_isNo 35 = .ok (.iconst 1, 1) := by decide +kernel
theorem dX12_isNo_36 : decode cX12_isNo 36 = .ok (.goto 4, 3) := by decide +kernel
theorem dX12_isNo_40 : decode cX12_isNo 40 = .ok (.ireturn, 1) := by decide +kernel
theorem dX12_isNoVersion_0 : decode cX12_isNoVersion 0 = .ok (.aload_n 0, 1) := by decide +kernel
theorem dX12_isNoVersion_1 : decode cX12_isNoVersion 1 = .ok (.aload_n 0, 1) := by decide +kernel
theorem dX12_isNoVersion_2 : decode cX12_isNoVersion 2 = .ok (.iload_n 1, 1) := by decide +kernel
theorem dX12_isNoVersion_3 : decode cX12_isNoVersion 3 = .ok (.iload_n 2, 1) := by decide +kernel
theorem dX12_isNoVersion_4 : decode cX12_isNoVersion 4 = .ok (.invokevirtual 46, 3) := by decide +kernel
theorem dX12_isNoVersion_7 : decode cX12_isNoVersion 7 = .ok (.iconst 1, 1) := by decide +kernel
theorem dX12_isNoVersion_8 : decode cX12_isNoVersion 8 = .ok (.invokevirtual 50, 3) := by decide +kernel
theorem dX12_isNoVersion_11 : decode cX12_isNoVersion 11 = .ok (.ireturn, 1) := by decide +kernel
theorem dX12_isNoOne_0 : decode cX12_isNoOne 0 = .ok (.iload_n 1, 1) := by decide +kernel
theorem dX12_isNoOne_1 : decode cX12_isNoOne 1 = .ok (.iconst 0, 1) := by decide +kernel
theorem dX12_isNoOne_2 : decode cX12_isNoOne 2 = .ok (.aload_n 0, 1) := by decide +kernel
theorem dX12_isNoOne_3 : decode cX12_isNoOne 3 = .ok (.getfield 10, 3) := by decide +kernel
theorem dX12_isNoOne_6 : decode cX12_isNoOne 6 = .ok (.getfield 53, 3) := by decide +kernel
theorem dX12_isNoOne_9 : decode cX12_isNoOne 9 = .ok (.invokevirtual 28, 3) := by decide +kernel
theorem dX12_isNoOne_12 : decode cX12_isNoOne 12 = .ok (.iconst 1, 1) := by decide +kernel
theorem dX12_isNoOne_13 : decode cX12_isNoOne 13 = .ok (.isub, 1) := by decide +kernel
theorem dX12_isNoOne_14 : decode cX12_isNoOne 14 = .ok (.invokestatic 34, 3) := by decide +kernel
theorem dX12_isNoOne_17 : decode cX12_isNoOne 17 = .ok (.ifCond .ne 7, 3) := by decide +kernel
theorem dX12_isNoOne_20 : decode cX12_isNoOne 20 = .ok (.iconst 1, 1) := by decide +kernel
theorem dX12_isNoOne_21 : decode cX12_isNoOne 21 = .ok (.goto 4, 3) := by decide +kernel
theorem dX12_isNoOne_25 : decode cX12_isNoOne 25 = .ok (.ireturn, 1) := by decide +kernel
theorem dX12_isNoClient_0 : decode cX12_isNoClient 0 = .ok (.aload_n 0, 1) := by decide +kernel
theorem dX12_isNoClient_1 : decode cX12_isNoClient 1 = .ok (.aload_n 0, 1) := by decide +kernel
theorem dX12_isNoClient_2 : decode cX12_isNoClient 2 = .ok (.iload_n 1, 1) := by decide +kernel
theorem dX12_isNoClient_3 : decode cX12_isNoClient 3 = .ok (.invokevirtual 56, 3) := by decide +kernel
theorem dX12_isNoClient_6 : decode cX12_isNoClient 6 = .ok (.iconst 1, 1) := by decide +kernel
theorem dX12_isNoClient_7 : decode cX12_isNoClient 7 = .ok (.invokevirtual 50, 3) := by decide +kernel
theorem dX12_isNoClient_10 : decode cX12_isNoClient 10 = .ok (.ireturn, 1) := by decide +kernel
theorem dX12_isNoPair_0 : decode cX12_isNoPair 0 = .ok (.aload_n 0, 1) := by decide +kernel
theorem dX12_isNoPair_1 : decode cX12_isNoPair 1 = .ok (.aload_n 0, 1) := by decide +kernel
theorem dX12_isNoPair_2 : decode cX12_isNoPair 2 = .ok (.iload_n 1, 1) := by decide +kernel
theorem dX12_isNoPair_3 : decode cX12_isNoPair 3 = .ok (.invokevirtual 56, 3) := by decide +kernel
theorem dX12_isNoPair_6 : decode cX12_isNoPair 6 = .ok (.ifCond .ne 28, 3) := by decide +kernel
theorem dX12_isNoPair_34 : decode cX12_isNoPair 34 = .ok (.iconst 1, 1) := by decide +kernel
theorem dX12_isNoPair_35 : decode cX12_isNoPair 35 = .ok (.goto 4, 3) := by decide +kernel
theorem dX12_isNoPair_39 : decode cX12_isNoPair 39 = .ok (.iconst 1, 1) := by decide +kernel
theorem dX12_isNoPair_40 : decode cX12_isNoPair 40 = .ok (.invokevirtual 50, 3) := by decide +kernel
theorem dX12_isNoPair_43 : decode cX12_isNoPair 43 = .ok (.ireturn, 1) := by decide +kernel
theorem dX12_isNoAsk_0 : decode cX12_isNoAsk 0 = .ok (.aload_n 0, 1) := by decide +kernel
theorem dX12_isNoAsk_1 : decode cX12_isNoAsk 1 = .ok (.iload_n 1, 1) := by decide +kernel
theorem dX12_isNoAsk_2 : decode cX12_isNoAsk 2 = .ok (.iconst 0, 1) := by decide +kernel
theorem dX12_isNoAsk_3 : decode cX12_isNoAsk 3 = .ok (.iconst 4, 1) := by decide +kernel
theorem dX12_isNoAsk_4 : decode cX12_isNoAsk 4 = .ok (.invokestatic 34, 3) := by decide +kernel
theorem dX12_isNoAsk_7 : decode cX12_isNoAsk 7 = .ok (.ifCond .eq 12, 3) := by decide +kernel
theorem dX12_isNoAsk_19 : decode cX12_isNoAsk 19 = .ok (.iconst 1, 1) := by decide +kernel
theorem dX12_isNoAsk_20 : decode cX12_isNoAsk 20 = .ok (.goto 4, 3) := by decide +kernel
theorem dX12_isNoAsk_24 : decode cX12_isNoAsk 24 = .ok (.iconst 1, 1) := by decide +kernel
theorem dX12_isNoAsk_25 : decode cX12_isNoAsk 25 = .ok (.invokevirtual 50, 3) := by decide +kernel
theorem dX12_isNoAsk_28 : decode cX12_isNoAsk 28 = .ok (.ireturn, 1) := by decide +kernel
theorem dX12_isNoAsk_10 : decode cX12_isNoAsk 10 = .ok (.aload_n 0, 1) := by decide +kernel
theorem dX12_isNoAsk_11 : decode cX12_isNoAsk 11 = .ok (.iload_n 2, 1) := by decide +kernel
theorem dX12_isNoAsk_12 : decode cX12_isNoAsk 12 = .ok (.iload_n 3, 1) := by decide +kernel
theorem dX12_isNoAsk_13 : decode cX12_isNoAsk 13 = .ok (.invokevirtual 46, 3) := by decide +kernel
theorem dX12_isNoAsk_16 : decode cX12_isNoAsk 16 = .ok (.ifCond .eq 7, 3) := by decide +kernel
theorem dX12_publish_0 : decode cX12_publish 0 = .ok (.aload_n 0, 1) := by decide +kernel
theorem dX12_publish_1 : decode cX12_publish 1 = .ok (.aload_n 0, 1) := by decide +kernel
theorem dX12_publish_2 : decode cX12_publish 2 = .ok (.iload_n 1, 1) := by decide +kernel
theorem dX12_publish_3 : decode cX12_publish 3 = .ok (.invokevirtual 38, 3) := by decide +kernel
theorem dX12_publish_6 : decode cX12_publish 6 = .ok (.iconst 1, 1) := by decide +kernel
theorem dX12_publish_7 : decode cX12_publish 7 = .ok (.invokevirtual 50, 3) := by decide +kernel
theorem dX12_publish_10 : decode cX12_publish 10 = .ok (.ifCond .ne 51, 3) := by decide +kernel
theorem dX12_publish_61 : decode cX12_publish 61 = .ok (.iconst 0, 1) := by decide +kernel
theorem dX12_publish_62 : decode cX12_publish 62 = .ok (.ireturn, 1) := by decide +kernel
theorem dX12_ofVersion_0 : decode cX12_ofVersion 0 = .ok (.aload_n 0, 1) := by decide +kernel
theorem dX12_ofVersion_1 : decode cX12_ofVersion 1 = .ok (.iload_n 1, 1) := by decide +kernel
theorem dX12_ofVersion_2 : decode cX12_ofVersion 2 = .ok (.iload_n 2, 1) := by decide +kernel
theorem dX12_ofVersion_3 : decode cX12_ofVersion 3 = .ok (.invokevirtual 152, 3) := by decide +kernel
theorem dX12_ofVersion_6 : decode cX12_ofVersion 6 = .ok (.ifCond .ne 26, 3) := by decide +kernel
theorem dX12_ofVersion_32 : decode cX12_ofVersion 32 = .ok (.iconst 0, 1) := by decide +kernel
theorem dX12_ofVersion_33 : decode cX12_ofVersion 33 = .ok (.goto 10, 3) := by decide +kernel
theorem dX12_ofVersion_43 : decode cX12_ofVersion 43 = .ok (.ireturn, 1) := by decide +kernel
theorem dX12_isCompatible_0 : decode cX12_isCompatible 0 = .ok (.aload_n 0, 1) := by decide +kernel
theorem dX12_isCompatible_1 : decode cX12_isCompatible 1 = .ok (.iload_n 1, 1) := by decide +kernel
theorem dX12_isCompatible_2 : decode cX12_isCompatible 2 = .ok (.iload_n 2, 1) := by decide +kernel
theorem dX12_isCompatible_3 : decode cX12_isCompatible 3 = .ok (.invokevirtual 152, 3) := by decide +kernel
theorem dX12_isCompatible_6 : decode cX12_isCompatible 6 = .ok (.ifCond .ne 39, 3) := by decide +kernel
theorem dX12_isCompatible_45 : decode cX12_isCompatible 45 = .ok (.iconst 0, 1) := by decide +kernel
theorem dX12_isCompatible_46 : decode cX12_isCompatible 46 = .ok (.ireturn, 1) := by decide +kernel
theorem dX12_client_0 : decode cX12_client 0 = .ok (.aload_n 0, 1) := by decide +kernel
theorem dX12_client_1 : decode cX12_client 1 = .ok (.iload_n 2, 1) := by decide +kernel
theorem dX12_client_2 : decode cX12_client 2 = .ok (.iload_n 3, 1) := by decide +kernel
theorem dX12_client_3 : decode cX12_client 3 = .ok (.invokevirtual 152, 3) := by decide +kernel
theorem dX12_client_6 : decode cX12_client 6 = .ok (.ifCond .ne 87, 3) := by decide +kernel
theorem dX12_client_93 : decode cX12_client 93 = .ok (.iconst 0, 1) := by decide +kernel
theorem dX12_client_94 : decode cX12_client 94 = .ok (.ireturn, 1) := by decide +kernel
theorem dX12_again_0 : decode cX12_again 0 = .ok (.aload_n 0, 1) := by decide +kernel
theorem dX12_again_1 : decode cX12_again 1 = .ok (.iload_n 1, 1) := by decide +kernel
theorem dX12_again_2 : decode cX12_again 2 = .ok (.iload_n 2, 1) := by decide +kernel
theorem dX12_again_3 : decode cX12_again 3 = .ok (.invokevirtual 168, 3) := by decide +kernel
theorem dX12_again_6 : decode cX12_again 6 = .ok (.ifCond .ne 44, 3) := by decide +kernel
theorem dX12_again_50 : decode cX12_again 50 = .ok (.iconst 0, 1) := by decide +kernel
theorem dX12_again_51 : decode cX12_again 51 = .ok (.ireturn, 1) := by decide +kernel
theorem dX12_adapter_0 : decode cX12_adapter 0 = .ok (.aload_n 0, 1) := by decide +kernel
theorem dX12_adapter_1 : decode cX12_adapter 1 = .ok (.aload_n 0, 1) := by decide +kernel
theorem dX12_adapter_2 : decode cX12_adapter 2 = .ok (.iload_n 1, 1) := by decide +kernel
theorem dX12_adapter_3 : decode cX12_adapter 3 = .ok (.iload_n 2, 1) := by decide +kernel
theorem dX12_adapter_4 : decode cX12_adapter 4 = .ok (.invokevirtual 46, 3) := by decide +kernel
theorem dX12_adapter_7 : decode cX12_adapter 7 = .ok (.ifCond .ne 12, 3) := by decide +kernel
theorem dX12_adapter_19 : decode cX12_adapter 19 = .ok (.iconst 1, 1) := by decide +kernel
theorem dX12_adapter_20 : decode cX12_adapter 20 = .ok (.goto 4, 3) := by decide +kernel
theorem dX12_adapter_24 : decode cX12_adapter 24 = .ok (.iconst 1, 1) := by decide +kernel
theorem dX12_adapter_25 : decode cX12_adapter 25 = .ok (.invokevirtual 50, 3) := by decide +kernel
theorem dX12_adapter_28 : decode cX12_adapter 28 = .ok (.ifCond .ne 65, 3) := by decide +kernel
theorem dX12_adapter_93 : decode cX12_adapter 93 = .ok (.iconst 0, 1) := by decide +kernel
theorem dX12_adapter_94 : decode cX12_adapter 94 = .ok (.ireturn, 1) := by decide +kernel
theorem dX12_ofClient_0 : decode cX12_ofClient 0 = .ok (.aload_n 0, 1) := by decide +kernel
theorem dX12_ofClient_1 : decode cX12_ofClient 1 = .ok (.iload_n 1, 1) := by decide +kernel
theorem dX12_ofClient_2 : decode cX12_ofClient 2 = .ok (.invokevirtual 201, 3) := by decide +kernel
theorem dX12_ofClient_5 : decode cX12_ofClient 5 = .ok (.ifCond .ne 26, 3) := by decide +kernel
theorem dX12_ofClient_31 : decode cX12_ofClient 31 = .ok (.iconst 0, 1) := by decide +kernel
theorem dX12_ofClient_32 : decode cX12_ofClient 32 = .ok (.goto 9, 3) := by decide +kernel
theorem dX12_ofClient_41 : decode cX12_ofClient 41 = .ok (.ireturn, 1) := by decide +kernel
theorem dX12_routed_0 : decode cX12_routed 0 = .ok (.aload_n 0, 1) := by decide +kernel
theorem dX12_routed_1 : decode cX12_routed 1 = .ok (.iload_n 1, 1) := by decide +kernel
theorem dX12_routed_2 : decode cX12_routed 2 = .ok (.invokevirtual 201, 3) := by decide +kernel
theorem dX12_routed_5 : decode cX12_routed 5 = .ok (.ifCond .eq 5, 3) := by decide +kernel
theorem dX12_routed_8 : decode cX12_routed 8 = .ok (.iconst 0, 1) := by decide +kernel
theorem dX12_routed_9 : decode cX12_routed 9 = .ok (.ireturn, 1) := by decide +kernel
theorem dX12_call_0 : decode cX12_call 0 = .ok (.aload_n 0, 1) := by decide +kernel
theorem dX12_call_1 : decode cX12_call 1 = .ok (.iload_n 1, 1) := by decide +kernel
theorem dX12_call_2 : decode cX12_call 2 = .ok (.invokevirtual 201, 3) := by decide +kernel
theorem dX12_call_5 : decode cX12_call 5 = .ok (.ifCond .ne 26, 3) := by decide +kernel
theorem dX12_call_31 : decode cX12_call 31 = .ok (.iconst 0, 1) := by decide +kernel
theorem dX12_call_32 : decode cX12_call 32 = .ok (.ireturn, 1) := by decide +kernel
theorem dX12_lastCall_0 : decode cX12_lastCall 0 = .ok (.aload_n 0, 1) := by decide +kernel
theorem dX12_lastCall_1 : decode cX12_lastCall 1 = .ok (.iload_n 1, 1) := by decide +kernel
theorem dX12_lastCall_2 : decode cX12_lastCall 2 = .ok (.iload_n 2, 1) := by decide +kernel
theorem dX12_lastCall_3 : decode cX12_lastCall 3 = .ok (.invokevirtual 168, 3) := by decide +kernel
theorem dX12_lastCall_6 : decode cX12_lastCall 6 = .ok (.ifCond .eq 7, 3) := by decide +kernel
theorem dX12_lastCall_9 : decode cX12_lastCall 9 = .ok (.iconst 0, 1) := by decide +kernel
theorem dX12_lastCall_10 : decode cX12_lastCall 10 = .ok (.goto 12, 3) := by decide +kernel
theorem dX12_lastCall_22 : decode cX12_lastCall 22 = .ok (.ireturn, 1) := by decide +kernel
theorem dX12_retire_0 : decode cX12_retire 0 = .ok (.aload_n 0, 1) := by decide +kernel
theorem dX12_retire_1 : decode cX12_retire 1 = .ok (.iload_n 1, 1) := by decide +kernel
theorem dX12_retire_2 : decode cX12_retire 2 = .ok (.iload_n 2, 1) := by decide +kernel
theorem dX12_retire_3 : decode cX12_retire 3 = .ok (.invokevirtual 152, 3) := by decide +kernel
theorem dX12_retire_6 : decode cX12_retire 6 = .ok (.ifCond .ne 51, 3) := by decide +kernel
theorem dX12_retire_57 : decode cX12_retire 57 = .ok (.iconst 0, 1) := by decide +kernel
theorem dX12_retire_58 : decode cX12_retire 58 = .ok (.ireturn, 1) := by decide +kernel
theorem dX12_answer_0 : decode cX12_answer 0 = .ok (.aload_n 0, 1) := by decide +kernel
theorem dX12_answer_1 : decode cX12_answer 1 = .ok (.iload_n 1, 1) := by decide +kernel
theorem dX12_answer_2 : decode cX12_answer 2 = .ok (.iload_n 2, 1) := by decide +kernel
theorem dX12_answer_3 : decode cX12_answer 3 = .ok (.iload_n 3, 1) := by decide +kernel
theorem dX12_answer_4 : decode cX12_answer 4 = .ok (.invokevirtual 224, 3) := by decide +kernel
theorem dX12_answer_7 : decode cX12_answer 7 = .ok (.ifCond .ne 44, 3) := by decide +kernel
theorem dX12_answer_51 : decode cX12_answer 51 = .ok (.iconst 0, 1) := by decide +kernel
theorem dX12_answer_52 : decode cX12_answer 52 = .ok (.ireturn, 1) := by decide +kernel
theorem dX12_recall_0 : decode cX12_recall 0 = .ok (.aload_n 0, 1) := by decide +kernel
theorem dX12_recall_1 : decode cX12_recall 1 = .ok (.iload_n 1, 1) := by decide +kernel
theorem dX12_recall_2 : decode cX12_recall 2 = .ok (.iload_n 2, 1) := by decide +kernel
theorem dX12_recall_3 : decode cX12_recall 3 = .ok (.invokevirtual 152, 3) := by decide +kernel
theorem dX12_recall_6 : decode cX12_recall 6 = .ok (.ifCond .ne 29, 3) := by decide +kernel
theorem dX12_recall_35 : decode cX12_recall 35 = .ok (.iconst 0, 1) := by decide +kernel
theorem dX12_recall_36 : decode cX12_recall 36 = .ok (.ireturn, 1) := by decide +kernel
theorem dX12_asked_0 : decode cX12_asked 0 = .ok (.aload_n 0, 1) := by decide +kernel
theorem dX12_asked_1 : decode cX12_asked 1 = .ok (.iload_n 1, 1) := by decide +kernel
theorem dX12_asked_2 : decode cX12_asked 2 = .ok (.iload_n 2, 1) := by decide +kernel
theorem dX12_asked_3 : decode cX12_asked 3 = .ok (.iload_n 3, 1) := by decide +kernel
theorem dX12_asked_4 : decode cX12_asked 4 = .ok (.invokevirtual 224, 3) := by decide +kernel
theorem dX12_asked_7 : decode cX12_asked 7 = .ok (.ifCond .eq 7, 3) := by decide +kernel
theorem dX12_asked_10 : decode cX12_asked 10 = .ok (.iconst 0, 1) := by decide +kernel
theorem dX12_asked_11 : decode cX12_asked 11 = .ok (.goto 10, 3) := by decide +kernel
theorem dX12_asked_21 : decode cX12_asked 21 = .ok (.ireturn, 1) := by decide +kernel
theorem dX12_wouldCome_0 : decode cX12_wouldCome 0 = .ok (.aload_n 0, 1) := by decide +kernel
theorem dX12_wouldCome_1 : decode cX12_wouldCome 1 = .ok (.iload_n 1, 1) := by decide +kernel
theorem dX12_wouldCome_2 : decode cX12_wouldCome 2 = .ok (.invokevirtual 201, 3) := by decide +kernel
theorem dX12_wouldCome_5 : decode cX12_wouldCome 5 = .ok (.ifCond .ne 26, 3) := by decide +kernel
theorem dX12_wouldCome_31 : decode cX12_wouldCome 31 = .ok (.iconst 0, 1) := by decide +kernel
theorem dX12_wouldCome_32 : decode cX12_wouldCome 32 = .ok (.goto 9, 3) := by decide +kernel
theorem dX12_wouldCome_41 : decode cX12_wouldCome 41 = .ok (.ireturn, 1) := by decide +kernel
theorem dX12_goneIn_0 : decode cX12_goneIn 0 = .ok (.aload_n 0, 1) := by decide +kernel
theorem dX12_goneIn_1 : decode cX12_goneIn 1 = .ok (.iload_n 1, 1) := by decide +kernel
theorem dX12_goneIn_2 : decode cX12_goneIn 2 = .ok (.iload_n 2, 1) := by decide +kernel
theorem dX12_goneIn_3 : decode cX12_goneIn 3 = .ok (.invokevirtual 152, 3) := by decide +kernel
theorem dX12_goneIn_6 : decode cX12_goneIn 6 = .ok (.ifCond .eq 7, 3) := by decide +kernel
theorem dX12_goneIn_9 : decode cX12_goneIn 9 = .ok (.iconst 0, 1) := by decide +kernel
theorem dX12_goneIn_10 : decode cX12_goneIn 10 = .ok (.goto 9, 3) := by decide +kernel
theorem dX12_goneIn_19 : decode cX12_goneIn 19 = .ok (.ireturn, 1) := by decide +kernel
theorem dX12_wouldBreak_0 : decode cX12_wouldBreak 0 = .ok (.aload_n 0, 1) := by decide +kernel
theorem dX12_wouldBreak_1 : decode cX12_wouldBreak 1 = .ok (.aload_n 0, 1) := by decide +kernel
theorem dX12_wouldBreak_2 : decode cX12_wouldBreak 2 = .ok (.iload_n 1, 1) := by decide +kernel
theorem dX12_wouldBreak_3 : decode cX12_wouldBreak 3 = .ok (.invokevirtual 38, 3) := by decide +kernel
theorem dX12_wouldBreak_6 : decode cX12_wouldBreak 6 = .ok (.iconst 1, 1) := by decide +kernel
theorem dX12_wouldBreak_7 : decode cX12_wouldBreak 7 = .ok (.invokevirtual 50, 3) := by decide +kernel
theorem dX12_wouldBreak_10 : decode cX12_wouldBreak 10 = .ok (.ifCond .ne 16, 3) := by decide +kernel
theorem dX12_wouldBreak_26 : decode cX12_wouldBreak 26 = .ok (.iconst 0, 1) := by decide +kernel
theorem dX12_wouldBreak_27 : decode cX12_wouldBreak 27 = .ok (.ireturn, 1) := by decide +kernel
theorem dX12_target_0 : decode cX12_target 0 = .ok (.aload_n 0, 1) := by decide +kernel
theorem dX12_target_1 : decode cX12_target 1 = .ok (.iload_n 1, 1) := by decide +kernel
theorem dX12_target_2 : decode cX12_target 2 = .ok (.invokevirtual 201, 3) := by decide +kernel
theorem dX12_target_5 : decode cX12_target 5 = .ok (.ifCond .eq 7, 3) := by decide +kernel
theorem dX12_target_8 : decode cX12_target 8 = .ok (.iconst 0, 1) := by decide +kernel
theorem dX12_target_9 : decode cX12_target 9 = .ok (.goto 8, 3) := by decide +kernel
theorem dX12_target_17 : decode cX12_target 17 = .ok (.ireturn, 1) := by decide +kernel
theorem dX12_goneBy_0 : decode cX12_goneBy 0 = .ok (.aload_n 0, 1) := by decide +kernel
theorem dX12_goneBy_1 : decode cX12_goneBy 1 = .ok (.iload_n 1, 1) := by decide +kernel
theorem dX12_goneBy_2 : decode cX12_goneBy 2 = .ok (.iload_n 2, 1) := by decide +kernel
theorem dX12_goneBy_3 : decode cX12_goneBy 3 = .ok (.invokevirtual 152, 3) := by decide +kernel
theorem dX12_goneBy_6 : decode cX12_goneBy 6 = .ok (.ifCond .ne 51, 3) := by decide +kernel
theorem dX12_goneBy_57 : decode cX12_goneBy 57 = .ok (.iconst 0, 1) := by decide +kernel
theorem dX12_goneBy_58 : decode cX12_goneBy 58 = .ok (.ireturn, 1) := by decide +kernel
/-! ===== the reference: what its calls share ===== -/
section MDL
variable {l : Launch} {D : va_G} {dA : Nat → ClassId} {B : Nat} {w : xW} {mo re fa cl ad ca : Nat} {t n : Int32}
def f_isIn (v lo hi : Int32) : Bool := !decide (v < lo) && !decide (hi < v)
theorem f_isIn_m1 (v : Int32) : f_isIn v 0 ((0 : Int32) - 1) = false := by
  unfold f_isIn
  by_cases h : v < 0
  · simp [h]
  · have h2 : (0 : Int32) - 1 < v := by
      rw [Int32.lt_iff_toInt_lt] at h ⊢
      have e0 : (0 : Int32).toInt = 0 := by decide
      have e1 : ((0 : Int32) - 1).toInt = -1 := by decide
      rw [e0] at h
      rw [e1]
      omega
    rw [decide_eq_true h2, Bool.not_true, Bool.and_false]
theorem f_isIn_t {v lo hi : Int32} (h1 : ¬ v < lo) (h2 : v ≤ hi) : f_isIn v lo hi = true := by
  have h3 : ¬ hi < v := fun q => by
    rw [Int32.lt_iff_toInt_lt] at q
    rw [Int32.le_iff_toInt_le] at h2
    omega
  simp [f_isIn, h1, h3]
theorem f_isIn_f {v lo hi : Int32} (h : v < lo ∨ ¬ v ≤ hi) : f_isIn v lo hi = false := by
  rcases h with h | h
  · simp [f_isIn, h]
  · have h3 : hi < v := by
      rw [Int32.le_iff_toInt_le] at h
      rw [Int32.lt_iff_toInt_lt]
      omega
    simp [f_isIn, h3]
set_option maxRecDepth 100000 in
set_option maxHeartbeats 4000000 in
theorem m_thrown (hM : MR w (dA 99) mo re fa cl ad ca t n) : Ci l D dA B yX12_thrown wX12_thrown 0 [.ref mo] w (fun v w1 => v = .int t ∧ w1 = w) := by
  refine x_Ct.of (cc := cX12_thrown) (maxL := 1) (by decide) rfl (Nat.le_of_ble_eq_true rfl) ?_
  intro p e s m below meth c F
  refine x_aload_n F dX12_thrown_0 rfl rfl ?_
  refine x_get (ci := 7) (C := RX12) (T := TX12) (N := 2) (k := 0) F dX12_thrown_1 rfl inX12 (by decide) q385 rfl hM.1 rfl ?_
  refine x_iret F rfl rfl dX12_thrown_4 (Nat.le_of_ble_eq_true rfl) (Nat.le_of_ble_eq_true rfl) ?_
  exact ⟨_, rfl, rfl, rfl⟩
set_option maxRecDepth 100000 in
set_option maxHeartbeats 4000000 in
theorem m_isIn (v lo hi : Int32) : Ci l D dA B yX12_isIn wX12_isIn 0 [.int v, .int lo, .int hi] w (fun v1 w1 => v1 = .int (x_b (f_isIn v lo hi)) ∧ w1 = w) := by
  refine x_Ct.of (cc := cX12_isIn) (maxL := 3) (by decide) rfl (Nat.le_of_ble_eq_true rfl) ?_
  intro p e s m below meth c F
  refine x_iload_n F dX12_isIn_0 rfl rfl ?_
  refine x_iload_n F dX12_isIn_1 rfl rfl ?_
  refine x_icmp_lt F dX12_isIn_2 rfl (fun h2 => ?_) (fun h2 => ?_)
  · refine x_iconst (v := 0) F dX12_isIn_14 (by decide) ?_
    refine x_iret F rfl rfl dX12_isIn_15 (Nat.le_of_ble_eq_true rfl) (Nat.le_of_ble_eq_true rfl) ?_
    first | exact ⟨_, rfl, congrArg Value.int (x_b_t (by simp [f_isIn, *])), rfl⟩ | exact ⟨_, rfl, congrArg Value.int (x_b_f (by simp [f_isIn, *])), rfl⟩
  · refine x_iload_n F dX12_isIn_5 rfl rfl ?_
    refine x_iload_n F dX12_isIn_6 rfl rfl ?_
    refine x_icmp_gt F dX12_isIn_7 rfl (fun h7 => ?_) (fun h7 => ?_)
    · refine x_iconst (v := 0) F dX12_isIn_14 (by decide) ?_
      refine x_iret F rfl rfl dX12_isIn_15 (Nat.le_of_ble_eq_true rfl) (Nat.le_of_ble_eq_true rfl) ?_
      first | exact ⟨_, rfl, congrArg Value.int (x_b_t (by simp [f_isIn, *])), rfl⟩ | exact ⟨_, rfl, congrArg Value.int (x_b_f (by simp [f_isIn, *])), rfl⟩
    · refine x_iconst (v := 1) F dX12_isIn_10 (by decide) ?_
      refine x_goto F dX12_isIn_11 rfl ?_
      refine x_iret F rfl rfl dX12_isIn_15 (Nat.le_of_ble_eq_true rfl) (Nat.le_of_ble_eq_true rfl) ?_
      first | exact ⟨_, rfl, congrArg Value.int (x_b_t (by simp [f_isIn, *])), rfl⟩ | exact ⟨_, rfl, congrArg Value.int (x_b_f (by simp [f_isIn, *])), rfl⟩
set_option maxRecDepth 100000 in
set_option maxHeartbeats 4000000 in
theorem m_refuse1 (hM : MR w (dA 99) mo re fa cl ad ca 0 n) (k : Int32) (hk : ¬ k ≤ 0) : Ci l D dA B yX12_refuse wX12_refuse 0 [.ref mo, .int 1, .int k] w (fun v w1 => v = .int 1 ∧ w1 = x_set w mo (oM k re)) := by
  refine x_Ct.of (cc := cX12_refuse) (maxL := 3) (by decide) rfl (Nat.le_of_ble_eq_true rfl) ?_
  intro p e s m below meth c F
  refine x_iload_n F dX12_refuse_0 rfl rfl ?_
  refine x_if_eq F dX12_refuse_1 rfl (fun hc => absurd hc (by decide)) (fun _ => ?_)
  refine x_aload_n F dX12_refuse_4 rfl rfl ?_
  refine x_get (ci := 7) (C := RX12) (T := TX12) (N := 2) (k := 0) F dX12_refuse_5 rfl inX12 (by decide) q385 rfl hM.1 rfl ?_
  refine x_if_ne F dX12_refuse_8 rfl (fun hc => absurd hc (by decide)) (fun _ => ?_)
  refine x_aload_n F dX12_refuse_11 rfl rfl ?_
  refine x_iload_n F dX12_refuse_12 rfl rfl ?_
  refine x_put (ci := 7) (C := RX12) (T := TX12) (N := 2) (k := 0) F dX12_refuse_13 rfl inX12 tyX12 tyX12_ok nmX12 (by decide) q385 rfl rfl hM.1 (Nat.le_of_ble_eq_true rfl) rfl rfl ?_
  refine x_wd (fun w1 hw1 => ?_)
  have hN : MR w1 (dA 99) mo re fa cl ad ca k n := by rw [hw1]; exact hM.setT k
  refine x_aload_n F dX12_refuse_16 rfl rfl ?_
  refine x_get (ci := 7) (C := RX12) (T := TX12) (N := 2) (k := 0) F dX12_refuse_17 rfl inX12 (by decide) q385 rfl hN.1 rfl ?_
  refine x_if_le F dX12_refuse_20 rfl (fun hc => absurd hc hk) (fun h20 => ?_)
  refine x_iconst (v := 1) F dX12_refuse_23 (by decide) ?_
  refine x_goto F dX12_refuse_24 rfl ?_
  refine x_iret F rfl rfl dX12_refuse_28 (Nat.le_of_ble_eq_true rfl) (Nat.le_of_ble_eq_true rfl) ?_
  exact ⟨_, rfl, rfl, hw1⟩
set_option maxRecDepth 100000 in
set_option maxHeartbeats 4000000 in
theorem m_refuse0 (hM : MR w (dA 99) mo re fa cl ad ca 0 n) (k : Int32) : Ci l D dA B yX12_refuse wX12_refuse 0 [.ref mo, .int 0, .int k] w (fun v w1 => v = .int 0 ∧ w1 = w) := by
  refine x_Ct.of (cc := cX12_refuse) (maxL := 3) (by decide) rfl (Nat.le_of_ble_eq_true rfl) ?_
  intro p e s m below meth c F
  refine x_iload_n F dX12_refuse_0 rfl rfl ?_
  refine x_if_eq F dX12_refuse_1 rfl (fun _ => ?_) (fun hc => absurd hc (by decide))
  refine x_aload_n F dX12_refuse_16 rfl rfl ?_
  refine x_get (ci := 7) (C := RX12) (T := TX12) (N := 2) (k := 0) F dX12_refuse_17 rfl inX12 (by decide) q385 rfl hM.1 rfl ?_
  refine x_if_le F dX12_refuse_20 rfl (fun _ => ?_) (fun hc => absurd hc (by decide))
  refine x_iconst (v := 0) F dX12_refuse_27 (by decide) ?_
  refine x_iret F rfl rfl dX12_refuse_28 (Nat.le_of_ble_eq_true rfl) (Nat.le_of_ble_eq_true rfl) ?_
  exact ⟨_, rfl, rfl, rfl⟩
set_option maxRecDepth 100000 in
set_option maxHeartbeats 4000000 in
theorem m_start1 (hM : MR w (dA 99) mo re fa cl ad ca t n) (k : Int32) (hk : ¬ k ≤ 0) : Ci l D dA B yX12_start wX12_start 1 [.ref mo, .int 1, .int k] w (fun v w1 => v = .int 1 ∧ w1 = x_set w mo (oM k re)) := by
  refine x_Ct.of (cc := cX12_start) (maxL := 3) (by decide) rfl (Nat.le_of_ble_eq_true rfl) ?_
  intro p e s m below meth c F
  refine x_aload_n F dX12_start_0 rfl rfl ?_
  refine x_iconst (v := 0) F dX12_start_1 (by decide) ?_
  refine x_put (ci := 7) (C := RX12) (T := TX12) (N := 2) (k := 0) F dX12_start_2 rfl inX12 tyX12 tyX12_ok nmX12 (by decide) q385 rfl rfl hM.1 (Nat.le_of_ble_eq_true rfl) rfl rfl ?_
  refine x_wd (fun w2 hw2 => ?_)
  have hN : MR w2 (dA 99) mo re fa cl ad ca 0 n := by rw [hw2]; exact hM.setT 0
  refine x_aload_n F dX12_start_5 rfl rfl ?_
  refine x_iload_n F dX12_start_6 rfl rfl ?_
  refine x_iload_n F dX12_start_7 rfl rfl ?_
  refine x_cVi2 (ci := 7) (C := RX12) (T := TX12) (N := 2) F dX12_start_8 (x_gV q404 q405 q641 q5 q406) rfl (m_refuse1 hN k hk) ⟨rfl, rfl, rfl, xd_X12_refuse, ⟨Nat.le_of_ble_eq_true rfl, Nat.le_of_ble_eq_true rfl⟩, Nat.le_of_ble_eq_true rfl, Nat.le_of_ble_eq_true rfl⟩ rfl hN.1 (Nat.le_of_ble_eq_true rfl) (fun v1 w1 hp => ?_)
  obtain ⟨rfl, hw9⟩ := hp
  refine x_iret F rfl rfl dX12_start_11 (Nat.le_of_ble_eq_true rfl) (Nat.le_of_ble_eq_true rfl) ?_
  exact ⟨_, rfl, rfl, by rw [hw9, hw2, x_set_set]⟩
set_option maxRecDepth 100000 in
set_option maxHeartbeats 4000000 in
theorem m_start0 (hM : MR w (dA 99) mo re fa cl ad ca t n) (k : Int32) : Ci l D dA B yX12_start wX12_start 1 [.ref mo, .int 0, .int k] w (fun v w1 => v = .int 0 ∧ w1 = x_set w mo (oM 0 re)) := by
  refine x_Ct.of (cc := cX12_start) (maxL := 3) (by decide) rfl (Nat.le_of_ble_eq_true rfl) ?_
  intro p e s m below meth c F
  refine x_aload_n F dX12_start_0 rfl rfl ?_
  refine x_iconst (v := 0) F dX12_start_1 (by decide) ?_
  refine x_put (ci := 7) (C := RX12) (T := TX12) (N := 2) (k := 0) F dX12_start_2 rfl inX12 tyX12 tyX12_ok nmX12 (by decide) q385 rfl rfl hM.1 (Nat.le_of_ble_eq_true rfl) rfl rfl ?_
  refine x_wd (fun w2 hw2 => ?_)
  have hN : MR w2 (dA 99) mo re fa cl ad ca 0 n := by rw [hw2]; exact hM.setT 0
  refine x_aload_n F dX12_start_5 rfl rfl ?_
  refine x_iload_n F dX12_start_6 rfl rfl ?_
  refine x_iload_n F dX12_start_7 rfl rfl ?_
  refine x_cVi2 (ci := 7) (C := RX12) (T := TX12) (N := 2) F dX12_start_8 (x_gV q404 q405 q641 q5 q406) rfl (m_refuse0 hN k) ⟨rfl, rfl, rfl, xd_X12_refuse, ⟨Nat.le_of_ble_eq_true rfl, Nat.le_of_ble_eq_true rfl⟩, Nat.le_of_ble_eq_true rfl, Nat.le_of_ble_eq_true rfl⟩ rfl hN.1 (Nat.le_of_ble_eq_true rfl) (fun v1 w1 hp => ?_)
  obtain ⟨rfl, hw9⟩ := hp
  replace hw9 := hw9.symm
  subst hw9
  refine x_iret F rfl rfl dX12_start_11 (Nat.le_of_ble_eq_true rfl) (Nat.le_of_ble_eq_true rfl) ?_
  exact ⟨_, rfl, rfl, hw2⟩
set_option maxRecDepth 100000 in
set_option maxHeartbeats 4000000 in
theorem m_isNoFace (hM : MR w (dA 99) mo re fa cl ad ca t n) (x : Int32) : Ci l D dA B yX12_isNoFace wX12_isNoFace 1 [.ref mo, .int x] w (fun v w1 => v = .int 1 ∧ w1 = w) := by
  refine x_Ct.of (cc := cX12_isNoFace) (maxL := 2) (by decide) rfl (Nat.le_of_ble_eq_true rfl) ?_
  intro p e s m below meth c F
  refine x_iload_n F dX12_isNoFace_0 rfl rfl ?_
  refine x_iconst (v := 0) F dX12_isNoFace_1 (by decide) ?_
  refine x_aload_n F dX12_isNoFace_2 rfl rfl ?_
  refine x_get (ci := 7) (C := RX12) (T := TX12) (N := 2) (k := 1) F dX12_isNoFace_3 rfl inX12 (by decide) q386 rfl hM.1 rfl ?_
  refine x_get (ci := 6) (C := RX10) (T := TX10) (N := 5) (k := 0) F dX12_isNoFace_6 rfl inX10 (by decide) q371 rfl hM.2.1 rfl ?_
  refine x_cVi0 (ci := 1) (C := RJx4a65c) (T := TJx4a65c) (N := 3) F dX12_isNoFace_9 (x_gV q397 q398 q399 q9 q400) rfl (c_size hM.2.2.1) ⟨rfl, rfl, rfl, xd_Jx4a65c_size_8abf5, ⟨Nat.le_of_ble_eq_true rfl, Nat.le_of_ble_eq_true rfl⟩, Nat.le_of_ble_eq_true rfl, Nat.le_of_ble_eq_true rfl⟩ rfl hM.2.2.1 (Nat.le_of_ble_eq_true rfl) (fun v1 w1 hp => ?_)
  obtain ⟨rfl, hw9⟩ := hp
  replace hw9 := hw9.symm
  subst hw9
  refine x_iconst (v := 1) F dX12_isNoFace_12 (by decide) ?_
  refine x_isub F dX12_isNoFace_13 ?_
  refine x_cSi3 F dX12_isNoFace_14 (x_gS q433 q434 q5 q435) (m_isIn x 0 ((0 : Int32) - 1)) ⟨rfl, rfl, rfl, xd_X12_isIn, ⟨Nat.le_of_ble_eq_true rfl, Nat.le_of_ble_eq_true rfl⟩, Nat.le_of_ble_eq_true rfl, Nat.le_of_ble_eq_true rfl⟩ (Nat.le_of_ble_eq_true rfl) (fun v1 w1 hp => ?_)
  obtain ⟨rfl, hw9⟩ := hp
  replace hw9 := hw9.symm
  subst hw9
  rw [f_isIn_m1]
  refine x_if_ne F dX12_isNoFace_17 rfl (fun hc => absurd hc (by decide)) (fun _ => ?_)
  refine x_iconst (v := 1) F dX12_isNoFace_20 (by decide) ?_
  refine x_goto F dX12_isNoFace_21 rfl ?_
  refine x_iret F rfl rfl dX12_isNoFace_25 (Nat.le_of_ble_eq_true rfl) (Nat.le_of_ble_eq_true rfl) ?_
  exact ⟨_, rfl, rfl, rfl⟩
set_option maxRecDepth 100000 in
set_option maxHeartbeats 4000000 in
theorem m_isNo (hM : MR w (dA 99) mo re fa cl ad ca t n) (x y : Int32) : Ci l D dA B yX12_isNo wX12_isNo 2 [.ref mo, .int x, .int y] w (fun v w1 => v = .int 1 ∧ w1 = w) := by
  refine x_Ct.of (cc := cX12_isNo) (maxL := 3) (by decide) rfl (Nat.le_of_ble_eq_true rfl) ?_
  intro p e s m below meth c F
  refine x_aload_n F dX12_isNo_0 rfl rfl ?_
  refine x_iload_n F dX12_isNo_1 rfl rfl ?_
  refine x_cVi1 (ci := 7) (C := RX12) (T := TX12) (N := 2) F dX12_isNo_2 (x_gV q430 q431 q645 q5 q432) rfl (m_isNoFace hM x) ⟨rfl, rfl, rfl, xd_X12_isNoFace, ⟨Nat.le_of_ble_eq_true rfl, Nat.le_of_ble_eq_true rfl⟩, Nat.le_of_ble_eq_true rfl, Nat.le_of_ble_eq_true rfl⟩ rfl hM.1 (Nat.le_of_ble_eq_true rfl) (fun v1 w1 hp => ?_)
  obtain ⟨rfl, hw9⟩ := hp
  replace hw9 := hw9.symm
  subst hw9
  refine x_if_ne F dX12_isNo_5 rfl (fun _ => ?_) (fun hc => absurd hc (by decide))
  refine x_iconst (v := 1) F dX12_isNo_35 (by decide) ?_
  refine x_goto F dX12_isNo_36 rfl ?_
  refine x_iret F rfl rfl dX12_isNo_40 (Nat.le_of_ble_eq_true rfl) (Nat.le_of_ble_eq_true rfl) ?_
  exact ⟨_, rfl, rfl, rfl⟩
set_option maxRecDepth 100000 in
set_option maxHeartbeats 4000000 in
theorem m_isNoVersion (hM : MR w (dA 99) mo re fa cl ad ca t n) (x y : Int32) : Ci l D dA B yX12_isNoVersion wX12_isNoVersion 3 [.ref mo, .int x, .int y] w (fun v w1 => v = .int 1 ∧ w1 = x_set w mo (oM 1 re)) := by
  refine x_Ct.of (cc := cX12_isNoVersion) (maxL := 3) (by decide) rfl (Nat.le_of_ble_eq_true rfl) ?_
  intro p e s m below meth c F
  refine x_aload_n F dX12_isNoVersion_0 rfl rfl ?_
  refine x_aload_n F dX12_isNoVersion_1 rfl rfl ?_
  refine x_iload_n F dX12_isNoVersion_2 rfl rfl ?_
  refine x_iload_n F dX12_isNoVersion_3 rfl rfl ?_
  refine x_cVi2 (ci := 7) (C := RX12) (T := TX12) (N := 2) F dX12_isNoVersion_4 (x_gV q480 q481 q647 q5 q482) rfl (m_isNo hM x y) ⟨rfl, rfl, rfl, xd_X12_isNo, ⟨Nat.le_of_ble_eq_true rfl, Nat.le_of_ble_eq_true rfl⟩, Nat.le_of_ble_eq_true rfl, Nat.le_of_ble_eq_true rfl⟩ rfl hM.1 (Nat.le_of_ble_eq_true rfl) (fun v1 w1 hp => ?_)
  obtain ⟨rfl, hw9⟩ := hp
  replace hw9 := hw9.symm
  subst hw9
  refine x_iconst (v := 1) F dX12_isNoVersion_7 (by decide) ?_
  refine x_cVi2 (ci := 7) (C := RX12) (T := TX12) (N := 2) F dX12_isNoVersion_8 (x_gV q401 q402 q640 q5 q403) rfl (m_start1 hM 1 (by decide)) ⟨rfl, rfl, rfl, xd_X12_start, ⟨Nat.le_of_ble_eq_true rfl, Nat.le_of_ble_eq_true rfl⟩, Nat.le_of_ble_eq_true rfl, Nat.le_of_ble_eq_true rfl⟩ rfl hM.1 (Nat.le_of_ble_eq_true rfl) (fun v1 w1 hp => ?_)
  obtain ⟨rfl, hw9⟩ := hp
  refine x_iret F rfl rfl dX12_isNoVersion_11 (Nat.le_of_ble_eq_true rfl) (Nat.le_of_ble_eq_true rfl) ?_
  exact ⟨_, rfl, rfl, hw9⟩
set_option maxRecDepth 100000 in
set_option maxHeartbeats 4000000 in
theorem m_isNoOne (hM : MR w (dA 99) mo re fa cl ad ca t n) (x : Int32) : Ci l D dA B yX12_isNoOne wX12_isNoOne 1 [.ref mo, .int x] w (fun v w1 => v = .int 1 ∧ w1 = w) := by
  refine x_Ct.of (cc := cX12_isNoOne) (maxL := 2) (by decide) rfl (Nat.le_of_ble_eq_true rfl) ?_
  intro p e s m below meth c F
  refine x_iload_n F dX12_isNoOne_0 rfl rfl ?_
  refine x_iconst (v := 0) F dX12_isNoOne_1 (by decide) ?_
  refine x_aload_n F dX12_isNoOne_2 rfl rfl ?_
  refine x_get (ci := 7) (C := RX12) (T := TX12) (N := 2) (k := 1) F dX12_isNoOne_3 rfl inX12 (by decide) q386 rfl hM.1 rfl ?_
  refine x_get (ci := 6) (C := RX10) (T := TX10) (N := 5) (k := 1) F dX12_isNoOne_6 rfl inX10 (by decide) q373 rfl hM.2.1 rfl ?_
  refine x_cVi0 (ci := 1) (C := RJx4a65c) (T := TJx4a65c) (N := 3) F dX12_isNoOne_9 (x_gV q397 q398 q399 q9 q400) rfl (c_size hM.2.2.2.1) ⟨rfl, rfl, rfl, xd_Jx4a65c_size_8abf5, ⟨Nat.le_of_ble_eq_true rfl, Nat.le_of_ble_eq_true rfl⟩, Nat.le_of_ble_eq_true rfl, Nat.le_of_ble_eq_true rfl⟩ rfl hM.2.2.2.1 (Nat.le_of_ble_eq_true rfl) (fun v1 w1 hp => ?_)
  obtain ⟨rfl, hw9⟩ := hp
  replace hw9 := hw9.symm
  subst hw9
  refine x_iconst (v := 1) F dX12_isNoOne_12 (by decide) ?_
  refine x_isub F dX12_isNoOne_13 ?_
  refine x_cSi3 F dX12_isNoOne_14 (x_gS q433 q434 q5 q435) (m_isIn x 0 ((0 : Int32) - 1)) ⟨rfl, rfl, rfl, xd_X12_isIn, ⟨Nat.le_of_ble_eq_true rfl, Nat.le_of_ble_eq_true rfl⟩, Nat.le_of_ble_eq_true rfl, Nat.le_of_ble_eq_true rfl⟩ (Nat.le_of_ble_eq_true rfl) (fun v1 w1 hp => ?_)
  obtain ⟨rfl, hw9⟩ := hp
  replace hw9 := hw9.symm
  subst hw9
  rw [f_isIn_m1]
  refine x_if_ne F dX12_isNoOne_17 rfl (fun hc => absurd hc (by decide)) (fun _ => ?_)
  refine x_iconst (v := 1) F dX12_isNoOne_20 (by decide) ?_
  refine x_goto F dX12_isNoOne_21 rfl ?_
  refine x_iret F rfl rfl dX12_isNoOne_25 (Nat.le_of_ble_eq_true rfl) (Nat.le_of_ble_eq_true rfl) ?_
  exact ⟨_, rfl, rfl, rfl⟩
set_option maxRecDepth 100000 in
set_option maxHeartbeats 4000000 in
theorem m_isNoClient (hM : MR w (dA 99) mo re fa cl ad ca t n) (x : Int32) : Ci l D dA B yX12_isNoClient wX12_isNoClient 3 [.ref mo, .int x] w (fun v w1 => v = .int 1 ∧ w1 = x_set w mo (oM 1 re)) := by
  refine x_Ct.of (cc := cX12_isNoClient) (maxL := 2) (by decide) rfl (Nat.le_of_ble_eq_true rfl) ?_
  intro p e s m below meth c F
  refine x_aload_n F dX12_isNoClient_0 rfl rfl ?_
  refine x_aload_n F dX12_isNoClient_1 rfl rfl ?_
  refine x_iload_n F dX12_isNoClient_2 rfl rfl ?_
  refine x_cVi1 (ci := 7) (C := RX12) (T := TX12) (N := 2) F dX12_isNoClient_3 (x_gV q514 q515 q649 q5 q516) rfl (m_isNoOne hM _) ⟨rfl, rfl, rfl, xd_X12_isNoOne, ⟨Nat.le_of_ble_eq_true rfl, Nat.le_of_ble_eq_true rfl⟩, Nat.le_of_ble_eq_true rfl, Nat.le_of_ble_eq_true rfl⟩ rfl hM.1 (Nat.le_of_ble_eq_true rfl) (fun v1 w1 hp => ?_)
  obtain ⟨rfl, hw9⟩ := hp
  replace hw9 := hw9.symm
  subst hw9
  refine x_iconst (v := 1) F dX12_isNoClient_6 (by decide) ?_
  refine x_cVi2 (ci := 7) (C := RX12) (T := TX12) (N := 2) F dX12_isNoClient_7 (x_gV q401 q402 q640 q5 q403) rfl (m_start1 hM 1 (by decide)) ⟨rfl, rfl, rfl, xd_X12_start, ⟨Nat.le_of_ble_eq_true rfl, Nat.le_of_ble_eq_true rfl⟩, Nat.le_of_ble_eq_true rfl, Nat.le_of_ble_eq_true rfl⟩ rfl hM.1 (Nat.le_of_ble_eq_true rfl) (fun v1 w1 hp => ?_)
  obtain ⟨rfl, hw9⟩ := hp
  refine x_iret F rfl rfl dX12_isNoClient_10 (Nat.le_of_ble_eq_true rfl) (Nat.le_of_ble_eq_true rfl) ?_
  exact ⟨_, rfl, rfl, hw9⟩
set_option maxRecDepth 100000 in
set_option maxHeartbeats 4000000 in
theorem m_isNoPair (hM : MR w (dA 99) mo re fa cl ad ca t n) (x y : Int32) : Ci l D dA B yX12_isNoPair wX12_isNoPair 3 [.ref mo, .int x, .int y] w (fun v w1 => v = .int 1 ∧ w1 = x_set w mo (oM 1 re)) := by
  refine x_Ct.of (cc := cX12_isNoPair) (maxL := 3) (by decide) rfl (Nat.le_of_ble_eq_true rfl) ?_
  intro p e s m below meth c F
  refine x_aload_n F dX12_isNoPair_0 rfl rfl ?_
  refine x_aload_n F dX12_isNoPair_1 rfl rfl ?_
  refine x_iload_n F dX12_isNoPair_2 rfl rfl ?_
  refine x_cVi1 (ci := 7) (C := RX12) (T := TX12) (N := 2) F dX12_isNoPair_3 (x_gV q514 q515 q649 q5 q516) rfl (m_isNoOne hM _) ⟨rfl, rfl, rfl, xd_X12_isNoOne, ⟨Nat.le_of_ble_eq_true rfl, Nat.le_of_ble_eq_true rfl⟩, Nat.le_of_ble_eq_true rfl, Nat.le_of_ble_eq_true rfl⟩ rfl hM.1 (Nat.le_of_ble_eq_true rfl) (fun v1 w1 hp => ?_)
  obtain ⟨rfl, hw9⟩ := hp
  replace hw9 := hw9.symm
  subst hw9
  refine x_if_ne F dX12_isNoPair_6 rfl (fun _ => ?_) (fun hc => absurd hc (by decide))
  refine x_iconst (v := 1) F dX12_isNoPair_34 (by decide) ?_
  refine x_goto F dX12_isNoPair_35 rfl ?_
  refine x_iconst (v := 1) F dX12_isNoPair_39 (by decide) ?_
  refine x_cVi2 (ci := 7) (C := RX12) (T := TX12) (N := 2) F dX12_isNoPair_40 (x_gV q401 q402 q640 q5 q403) rfl (m_start1 hM 1 (by decide)) ⟨rfl, rfl, rfl, xd_X12_start, ⟨Nat.le_of_ble_eq_true rfl, Nat.le_of_ble_eq_true rfl⟩, Nat.le_of_ble_eq_true rfl, Nat.le_of_ble_eq_true rfl⟩ rfl hM.1 (Nat.le_of_ble_eq_true rfl) (fun v1 w1 hp => ?_)
  obtain ⟨rfl, hw9⟩ := hp
  refine x_iret F rfl rfl dX12_isNoPair_43 (Nat.le_of_ble_eq_true rfl) (Nat.le_of_ble_eq_true rfl) ?_
  exact ⟨_, rfl, rfl, hw9⟩
set_option maxRecDepth 100000 in
set_option maxHeartbeats 4000000 in
theorem m_isNoAsk (hM : MR w (dA 99) mo re fa cl ad ca t n) (x y z : Int32) : Ci l D dA B yX12_isNoAsk wX12_isNoAsk 3 [.ref mo, .int x, .int y, .int z] w (fun v w1 => v = .int 1 ∧ w1 = x_set w mo (oM 1 re)) := by
  refine x_Ct.of (cc := cX12_isNoAsk) (maxL := 4) (by decide) rfl (Nat.le_of_ble_eq_true rfl) ?_
  intro p e s m below meth c F
  refine x_aload_n F dX12_isNoAsk_0 rfl rfl ?_
  refine x_iload_n F dX12_isNoAsk_1 rfl rfl ?_
  refine x_iconst (v := 0) F dX12_isNoAsk_2 (by decide) ?_
  refine x_iconst (v := 4) F dX12_isNoAsk_3 (by decide) ?_
  refine x_cSi3 F dX12_isNoAsk_4 (x_gS q433 q434 q5 q435) (m_isIn _ 0 4) ⟨rfl, rfl, rfl, xd_X12_isIn, ⟨Nat.le_of_ble_eq_true rfl, Nat.le_of_ble_eq_true rfl⟩, Nat.le_of_ble_eq_true rfl, Nat.le_of_ble_eq_true rfl⟩ (Nat.le_of_ble_eq_true rfl) (fun v1 w1 hp => ?_)
  obtain ⟨rfl, hw9⟩ := hp
  replace hw9 := hw9.symm
  subst hw9
  refine x_if_eq F dX12_isNoAsk_7 rfl (fun h7 => ?_) (fun h7 => ?_)
  · refine x_iconst (v := 1) F dX12_isNoAsk_19 (by decide) ?_
    refine x_goto F dX12_isNoAsk_20 rfl ?_
    refine x_iconst (v := 1) F dX12_isNoAsk_24 (by decide) ?_
    refine x_cVi2 (ci := 7) (C := RX12) (T := TX12) (N := 2) F dX12_isNoAsk_25 (x_gV q401 q402 q640 q5 q403) rfl (m_start1 hM 1 (by decide)) ⟨rfl, rfl, rfl, xd_X12_start, ⟨Nat.le_of_ble_eq_true rfl, Nat.le_of_ble_eq_true rfl⟩, Nat.le_of_ble_eq_true rfl, Nat.le_of_ble_eq_true rfl⟩ rfl hM.1 (Nat.le_of_ble_eq_true rfl) (fun v1 w1 hp => ?_)
    obtain ⟨rfl, hw9⟩ := hp
    refine x_iret F rfl rfl dX12_isNoAsk_28 (Nat.le_of_ble_eq_true rfl) (Nat.le_of_ble_eq_true rfl) ?_
    exact ⟨_, rfl, rfl, hw9⟩
  · refine x_aload_n F dX12_isNoAsk_10 rfl rfl ?_
    refine x_iload_n F dX12_isNoAsk_11 rfl rfl ?_
    refine x_iload_n F dX12_isNoAsk_12 rfl rfl ?_
    refine x_cVi2 (ci := 7) (C := RX12) (T := TX12) (N := 2) F dX12_isNoAsk_13 (x_gV q480 q481 q647 q5 q482) rfl (m_isNo hM _ _) ⟨rfl, rfl, rfl, xd_X12_isNo, ⟨Nat.le_of_ble_eq_true rfl, Nat.le_of_ble_eq_true rfl⟩, Nat.le_of_ble_eq_true rfl, Nat.le_of_ble_eq_true rfl⟩ rfl hM.1 (Nat.le_of_ble_eq_true rfl) (fun v1 w1 hp => ?_)
    obtain ⟨rfl, hw9⟩ := hp
    replace hw9 := hw9.symm
    subst hw9
    refine x_if_eq F dX12_isNoAsk_16 rfl (fun hc => absurd hc (by decide)) (fun _ => ?_)
    refine x_iconst (v := 1) F dX12_isNoAsk_19 (by decide) ?_
    refine x_goto F dX12_isNoAsk_20 rfl ?_
    refine x_iconst (v := 1) F dX12_isNoAsk_24 (by decide) ?_
    refine x_cVi2 (ci := 7) (C := RX12) (T := TX12) (N := 2) F dX12_isNoAsk_25 (x_gV q401 q402 q640 q5 q403) rfl (m_start1 hM 1 (by decide)) ⟨rfl, rfl, rfl, xd_X12_start, ⟨Nat.le_of_ble_eq_true rfl, Nat.le_of_ble_eq_true rfl⟩, Nat.le_of_ble_eq_true rfl, Nat.le_of_ble_eq_true rfl⟩ rfl hM.1 (Nat.le_of_ble_eq_true rfl) (fun v1 w1 hp => ?_)
    obtain ⟨rfl, hw9⟩ := hp
    refine x_iret F rfl rfl dX12_isNoAsk_28 (Nat.le_of_ble_eq_true rfl) (Nat.le_of_ble_eq_true rfl) ?_
    exact ⟨_, rfl, rfl, hw9⟩
set_option maxRecDepth 100000 in
set_option maxHeartbeats 4000000 in
theorem m_publish (hM : MR w (dA 99) mo re fa cl ad ca t n) (x1 x2 x3 : Int32) : Ci l D dA B yX12_publish wX12_publish 5 [.ref mo, .int x1, .int x2, .int x3] w (fun v w1 => v = .int 0 ∧ w1 = x_set w mo (oM 1 re)) := by
  refine x_Ct.of (cc := cX12_publish) (maxL := 8) (by decide) rfl (Nat.le_of_ble_eq_true rfl) ?_
  intro p e s m below meth c F
  refine x_aload_n F dX12_publish_0 rfl rfl ?_
  refine x_aload_n F dX12_publish_1 rfl rfl ?_
  refine x_iload_n F dX12_publish_2 rfl rfl ?_
  refine x_cVi1 (ci := 7) (C := RX12) (T := TX12) (N := 2) F dX12_publish_3 (x_gV q430 q431 q645 q5 q432) rfl (m_isNoFace hM _) ⟨rfl, rfl, rfl, xd_X12_isNoFace, ⟨Nat.le_of_ble_eq_true rfl, Nat.le_of_ble_eq_true rfl⟩, Nat.le_of_ble_eq_true rfl, Nat.le_of_ble_eq_true rfl⟩ rfl hM.1 (Nat.le_of_ble_eq_true rfl) (fun v1 w1 hp => ?_)
  obtain ⟨rfl, hw9⟩ := hp
  replace hw9 := hw9.symm
  subst hw9
  refine x_iconst (v := 1) F dX12_publish_6 (by decide) ?_
  refine x_cVi2 (ci := 7) (C := RX12) (T := TX12) (N := 2) F dX12_publish_7 (x_gV q401 q402 q640 q5 q403) rfl (m_start1 hM 1 (by decide)) ⟨rfl, rfl, rfl, xd_X12_start, ⟨Nat.le_of_ble_eq_true rfl, Nat.le_of_ble_eq_true rfl⟩, Nat.le_of_ble_eq_true rfl, Nat.le_of_ble_eq_true rfl⟩ rfl hM.1 (Nat.le_of_ble_eq_true rfl) (fun v1 w1 hp => ?_)
  obtain ⟨rfl, hw9⟩ := hp
  refine x_if_ne F dX12_publish_10 rfl (fun _ => ?_) (fun hc => absurd hc (by decide))
  refine x_iconst (v := 0) F dX12_publish_61 (by decide) ?_
  refine x_iret F rfl rfl dX12_publish_62 (Nat.le_of_ble_eq_true rfl) (Nat.le_of_ble_eq_true rfl) ?_
  exact ⟨_, rfl, rfl, hw9⟩
set_option maxRecDepth 100000 in
set_option maxHeartbeats 4000000 in
theorem m_ofVersion (hM : MR w (dA 99) mo re fa cl ad ca t n) (x1 x2 x3 : Int32) : Ci l D dA B yX12_ofVersion wX12_ofVersion 5 [.ref mo, .int x1, .int x2, .int x3] w (fun v w1 => v = .int 0 ∧ w1 = x_set w mo (oM 1 re)) := by
  refine x_Ct.of (cc := cX12_ofVersion) (maxL := 4) (by decide) rfl (Nat.le_of_ble_eq_true rfl) ?_
  intro p e s m below meth c F
  refine x_aload_n F dX12_ofVersion_0 rfl rfl ?_
  refine x_iload_n F dX12_ofVersion_1 rfl rfl ?_
  refine x_iload_n F dX12_ofVersion_2 rfl rfl ?_
  refine x_cVi2 (ci := 7) (C := RX12) (T := TX12) (N := 2) F dX12_ofVersion_3 (x_gV q477 q478 q646 q5 q479) rfl (m_isNoVersion hM _ _) ⟨rfl, rfl, rfl, xd_X12_isNoVersion, ⟨Nat.le_of_ble_eq_true rfl, Nat.le_of_ble_eq_true rfl⟩, Nat.le_of_ble_eq_true rfl, Nat.le_of_ble_eq_true rfl⟩ rfl hM.1 (Nat.le_of_ble_eq_true rfl) (fun v1 w1 hp => ?_)
  obtain ⟨rfl, hw9⟩ := hp
  refine x_if_ne F dX12_ofVersion_6 rfl (fun _ => ?_) (fun hc => absurd hc (by decide))
  refine x_iconst (v := 0) F dX12_ofVersion_32 (by decide) ?_
  refine x_goto F dX12_ofVersion_33 rfl ?_
  refine x_iret F rfl rfl dX12_ofVersion_43 (Nat.le_of_ble_eq_true rfl) (Nat.le_of_ble_eq_true rfl) ?_
  exact ⟨_, rfl, rfl, hw9⟩
set_option maxRecDepth 100000 in
set_option maxHeartbeats 4000000 in
theorem m_isCompatible (hM : MR w (dA 99) mo re fa cl ad ca t n) (x1 x2 x3 : Int32) : Ci l D dA B yX12_isCompatible wX12_isCompatible 5 [.ref mo, .int x1, .int x2, .int x3] w (fun v w1 => v = .int 0 ∧ w1 = x_set w mo (oM 1 re)) := by
  refine x_Ct.of (cc := cX12_isCompatible) (maxL := 4) (by decide) rfl (Nat.le_of_ble_eq_true rfl) ?_
  intro p e s m below meth c F
  refine x_aload_n F dX12_isCompatible_0 rfl rfl ?_
  refine x_iload_n F dX12_isCompatible_1 rfl rfl ?_
  refine x_iload_n F dX12_isCompatible_2 rfl rfl ?_
  refine x_cVi2 (ci := 7) (C := RX12) (T := TX12) (N := 2) F dX12_isCompatible_3 (x_gV q477 q478 q646 q5 q479) rfl (m_isNoVersion hM _ _) ⟨rfl, rfl, rfl, xd_X12_isNoVersion, ⟨Nat.le_of_ble_eq_true rfl, Nat.le_of_ble_eq_true rfl⟩, Nat.le_of_ble_eq_true rfl, Nat.le_of_ble_eq_true rfl⟩ rfl hM.1 (Nat.le_of_ble_eq_true rfl) (fun v1 w1 hp => ?_)
  obtain ⟨rfl, hw9⟩ := hp
  refine x_if_ne F dX12_isCompatible_6 rfl (fun _ => ?_) (fun hc => absurd hc (by decide))
  refine x_iconst (v := 0) F dX12_isCompatible_45 (by decide) ?_
  refine x_iret F rfl rfl dX12_isCompatible_46 (Nat.le_of_ble_eq_true rfl) (Nat.le_of_ble_eq_true rfl) ?_
  exact ⟨_, rfl, rfl, hw9⟩
set_option maxRecDepth 100000 in
set_option maxHeartbeats 4000000 in
theorem m_client (hM : MR w (dA 99) mo re fa cl ad ca t n) (x1 x2 x3 x4 : Int32) : Ci l D dA B yX12_client wX12_client 5 [.ref mo, .int x1, .int x2, .int x3, .int x4] w (fun v w1 => v = .int 0 ∧ w1 = x_set w mo (oM 1 re)) := by
  refine x_Ct.of (cc := cX12_client) (maxL := 5) (by decide) rfl (Nat.le_of_ble_eq_true rfl) ?_
  intro p e s m below meth c F
  refine x_aload_n F dX12_client_0 rfl rfl ?_
  refine x_iload_n F dX12_client_1 rfl rfl ?_
  refine x_iload_n F dX12_client_2 rfl rfl ?_
  refine x_cVi2 (ci := 7) (C := RX12) (T := TX12) (N := 2) F dX12_client_3 (x_gV q477 q478 q646 q5 q479) rfl (m_isNoVersion hM _ _) ⟨rfl, rfl, rfl, xd_X12_isNoVersion, ⟨Nat.le_of_ble_eq_true rfl, Nat.le_of_ble_eq_true rfl⟩, Nat.le_of_ble_eq_true rfl, Nat.le_of_ble_eq_true rfl⟩ rfl hM.1 (Nat.le_of_ble_eq_true rfl) (fun v1 w1 hp => ?_)
  obtain ⟨rfl, hw9⟩ := hp
  refine x_if_ne F dX12_client_6 rfl (fun _ => ?_) (fun hc => absurd hc (by decide))
  refine x_iconst (v := 0) F dX12_client_93 (by decide) ?_
  refine x_iret F rfl rfl dX12_client_94 (Nat.le_of_ble_eq_true rfl) (Nat.le_of_ble_eq_true rfl) ?_
  exact ⟨_, rfl, rfl, hw9⟩
set_option maxRecDepth 100000 in
set_option maxHeartbeats 4000000 in
theorem m_again (hM : MR w (dA 99) mo re fa cl ad ca t n) (x1 x2 : Int32) : Ci l D dA B yX12_again wX12_again 5 [.ref mo, .int x1, .int x2] w (fun v w1 => v = .int 0 ∧ w1 = x_set w mo (oM 1 re)) := by
  refine x_Ct.of (cc := cX12_again) (maxL := 4) (by decide) rfl (Nat.le_of_ble_eq_true rfl) ?_
  intro p e s m below meth c F
  refine x_aload_n F dX12_again_0 rfl rfl ?_
  refine x_iload_n F dX12_again_1 rfl rfl ?_
  refine x_iload_n F dX12_again_2 rfl rfl ?_
  refine x_cVi2 (ci := 7) (C := RX12) (T := TX12) (N := 2) F dX12_again_3 (x_gV q511 q512 q648 q5 q513) rfl (m_isNoPair hM _ _) ⟨rfl, rfl, rfl, xd_X12_isNoPair, ⟨Nat.le_of_ble_eq_true rfl, Nat.le_of_ble_eq_true rfl⟩, Nat.le_of_ble_eq_true rfl, Nat.le_of_ble_eq_true rfl⟩ rfl hM.1 (Nat.le_of_ble_eq_true rfl) (fun v1 w1 hp => ?_)
  obtain ⟨rfl, hw9⟩ := hp
  refine x_if_ne F dX12_again_6 rfl (fun _ => ?_) (fun hc => absurd hc (by decide))
  refine x_iconst (v := 0) F dX12_again_50 (by decide) ?_
  refine x_iret F rfl rfl dX12_again_51 (Nat.le_of_ble_eq_true rfl) (Nat.le_of_ble_eq_true rfl) ?_
  exact ⟨_, rfl, rfl, hw9⟩
set_option maxRecDepth 100000 in
set_option maxHeartbeats 4000000 in
theorem m_adapter (hM : MR w (dA 99) mo re fa cl ad ca t n) (x1 x2 x3 x4 x5 : Int32) : Ci l D dA B yX12_adapter wX12_adapter 5 [.ref mo, .int x1, .int x2, .int x3, .int x4, .int x5] w (fun v w1 => v = .int 0 ∧ w1 = x_set w mo (oM 1 re)) := by
  refine x_Ct.of (cc := cX12_adapter) (maxL := 6) (by decide) rfl (Nat.le_of_ble_eq_true rfl) ?_
  intro p e s m below meth c F
  refine x_aload_n F dX12_adapter_0 rfl rfl ?_
  refine x_aload_n F dX12_adapter_1 rfl rfl ?_
  refine x_iload_n F dX12_adapter_2 rfl rfl ?_
  refine x_iload_n F dX12_adapter_3 rfl rfl ?_
  refine x_cVi2 (ci := 7) (C := RX12) (T := TX12) (N := 2) F dX12_adapter_4 (x_gV q480 q481 q647 q5 q482) rfl (m_isNo hM _ _) ⟨rfl, rfl, rfl, xd_X12_isNo, ⟨Nat.le_of_ble_eq_true rfl, Nat.le_of_ble_eq_true rfl⟩, Nat.le_of_ble_eq_true rfl, Nat.le_of_ble_eq_true rfl⟩ rfl hM.1 (Nat.le_of_ble_eq_true rfl) (fun v1 w1 hp => ?_)
  obtain ⟨rfl, hw9⟩ := hp
  replace hw9 := hw9.symm
  subst hw9
  refine x_if_ne F dX12_adapter_7 rfl (fun _ => ?_) (fun hc => absurd hc (by decide))
  refine x_iconst (v := 1) F dX12_adapter_19 (by decide) ?_
  refine x_goto F dX12_adapter_20 rfl ?_
  refine x_iconst (v := 1) F dX12_adapter_24 (by decide) ?_
  refine x_cVi2 (ci := 7) (C := RX12) (T := TX12) (N := 2) F dX12_adapter_25 (x_gV q401 q402 q640 q5 q403) rfl (m_start1 hM 1 (by decide)) ⟨rfl, rfl, rfl, xd_X12_start, ⟨Nat.le_of_ble_eq_true rfl, Nat.le_of_ble_eq_true rfl⟩, Nat.le_of_ble_eq_true rfl, Nat.le_of_ble_eq_true rfl⟩ rfl hM.1 (Nat.le_of_ble_eq_true rfl) (fun v1 w1 hp => ?_)
  obtain ⟨rfl, hw9⟩ := hp
  refine x_if_ne F dX12_adapter_28 rfl (fun _ => ?_) (fun hc => absurd hc (by decide))
  refine x_iconst (v := 0) F dX12_adapter_93 (by decide) ?_
  refine x_iret F rfl rfl dX12_adapter_94 (Nat.le_of_ble_eq_true rfl) (Nat.le_of_ble_eq_true rfl) ?_
  exact ⟨_, rfl, rfl, hw9⟩
set_option maxRecDepth 100000 in
set_option maxHeartbeats 4000000 in
theorem m_ofClient (hM : MR w (dA 99) mo re fa cl ad ca t n) (x1 x2 : Int32) : Ci l D dA B yX12_ofClient wX12_ofClient 5 [.ref mo, .int x1, .int x2] w (fun v w1 => v = .int 0 ∧ w1 = x_set w mo (oM 1 re)) := by
  refine x_Ct.of (cc := cX12_ofClient) (maxL := 3) (by decide) rfl (Nat.le_of_ble_eq_true rfl) ?_
  intro p e s m below meth c F
  refine x_aload_n F dX12_ofClient_0 rfl rfl ?_
  refine x_iload_n F dX12_ofClient_1 rfl rfl ?_
  refine x_cVi1 (ci := 7) (C := RX12) (T := TX12) (N := 2) F dX12_ofClient_2 (x_gV q531 q532 q650 q5 q533) rfl (m_isNoClient hM _) ⟨rfl, rfl, rfl, xd_X12_isNoClient, ⟨Nat.le_of_ble_eq_true rfl, Nat.le_of_ble_eq_true rfl⟩, Nat.le_of_ble_eq_true rfl, Nat.le_of_ble_eq_true rfl⟩ rfl hM.1 (Nat.le_of_ble_eq_true rfl) (fun v1 w1 hp => ?_)
  obtain ⟨rfl, hw9⟩ := hp
  refine x_if_ne F dX12_ofClient_5 rfl (fun _ => ?_) (fun hc => absurd hc (by decide))
  refine x_iconst (v := 0) F dX12_ofClient_31 (by decide) ?_
  refine x_goto F dX12_ofClient_32 rfl ?_
  refine x_iret F rfl rfl dX12_ofClient_41 (Nat.le_of_ble_eq_true rfl) (Nat.le_of_ble_eq_true rfl) ?_
  exact ⟨_, rfl, rfl, hw9⟩
set_option maxRecDepth 100000 in
set_option maxHeartbeats 4000000 in
theorem m_routed (hM : MR w (dA 99) mo re fa cl ad ca t n) (x1 x2 : Int32) : Ci l D dA B yX12_routed wX12_routed 5 [.ref mo, .int x1, .int x2] w (fun v w1 => v = .int 0 ∧ w1 = x_set w mo (oM 1 re)) := by
  refine x_Ct.of (cc := cX12_routed) (maxL := 4) (by decide) rfl (Nat.le_of_ble_eq_true rfl) ?_
  intro p e s m below meth c F
  refine x_aload_n F dX12_routed_0 rfl rfl ?_
  refine x_iload_n F dX12_routed_1 rfl rfl ?_
  refine x_cVi1 (ci := 7) (C := RX12) (T := TX12) (N := 2) F dX12_routed_2 (x_gV q531 q532 q650 q5 q533) rfl (m_isNoClient hM _) ⟨rfl, rfl, rfl, xd_X12_isNoClient, ⟨Nat.le_of_ble_eq_true rfl, Nat.le_of_ble_eq_true rfl⟩, Nat.le_of_ble_eq_true rfl, Nat.le_of_ble_eq_true rfl⟩ rfl hM.1 (Nat.le_of_ble_eq_true rfl) (fun v1 w1 hp => ?_)
  obtain ⟨rfl, hw9⟩ := hp
  refine x_if_eq F dX12_routed_5 rfl (fun hc => absurd hc (by decide)) (fun _ => ?_)
  refine x_iconst (v := 0) F dX12_routed_8 (by decide) ?_
  refine x_iret F rfl rfl dX12_routed_9 (Nat.le_of_ble_eq_true rfl) (Nat.le_of_ble_eq_true rfl) ?_
  exact ⟨_, rfl, rfl, hw9⟩
set_option maxRecDepth 100000 in
set_option maxHeartbeats 4000000 in
theorem m_call (hM : MR w (dA 99) mo re fa cl ad ca t n) (x1 x2 : Int32) : Ci l D dA B yX12_call wX12_call 5 [.ref mo, .int x1, .int x2] w (fun v w1 => v = .int 0 ∧ w1 = x_set w mo (oM 1 re)) := by
  refine x_Ct.of (cc := cX12_call) (maxL := 5) (by decide) rfl (Nat.le_of_ble_eq_true rfl) ?_
  intro p e s m below meth c F
  refine x_aload_n F dX12_call_0 rfl rfl ?_
  refine x_iload_n F dX12_call_1 rfl rfl ?_
  refine x_cVi1 (ci := 7) (C := RX12) (T := TX12) (N := 2) F dX12_call_2 (x_gV q531 q532 q650 q5 q533) rfl (m_isNoClient hM _) ⟨rfl, rfl, rfl, xd_X12_isNoClient, ⟨Nat.le_of_ble_eq_true rfl, Nat.le_of_ble_eq_true rfl⟩, Nat.le_of_ble_eq_true rfl, Nat.le_of_ble_eq_true rfl⟩ rfl hM.1 (Nat.le_of_ble_eq_true rfl) (fun v1 w1 hp => ?_)
  obtain ⟨rfl, hw9⟩ := hp
  refine x_if_ne F dX12_call_5 rfl (fun _ => ?_) (fun hc => absurd hc (by decide))
  refine x_iconst (v := 0) F dX12_call_31 (by decide) ?_
  refine x_iret F rfl rfl dX12_call_32 (Nat.le_of_ble_eq_true rfl) (Nat.le_of_ble_eq_true rfl) ?_
  exact ⟨_, rfl, rfl, hw9⟩
set_option maxRecDepth 100000 in
set_option maxHeartbeats 4000000 in
theorem m_lastCall (hM : MR w (dA 99) mo re fa cl ad ca t n) (x1 x2 : Int32) : Ci l D dA B yX12_lastCall wX12_lastCall 5 [.ref mo, .int x1, .int x2] w (fun v w1 => v = .int 0 ∧ w1 = x_set w mo (oM 1 re)) := by
  refine x_Ct.of (cc := cX12_lastCall) (maxL := 3) (by decide) rfl (Nat.le_of_ble_eq_true rfl) ?_
  intro p e s m below meth c F
  refine x_aload_n F dX12_lastCall_0 rfl rfl ?_
  refine x_iload_n F dX12_lastCall_1 rfl rfl ?_
  refine x_iload_n F dX12_lastCall_2 rfl rfl ?_
  refine x_cVi2 (ci := 7) (C := RX12) (T := TX12) (N := 2) F dX12_lastCall_3 (x_gV q511 q512 q648 q5 q513) rfl (m_isNoPair hM _ _) ⟨rfl, rfl, rfl, xd_X12_isNoPair, ⟨Nat.le_of_ble_eq_true rfl, Nat.le_of_ble_eq_true rfl⟩, Nat.le_of_ble_eq_true rfl, Nat.le_of_ble_eq_true rfl⟩ rfl hM.1 (Nat.le_of_ble_eq_true rfl) (fun v1 w1 hp => ?_)
  obtain ⟨rfl, hw9⟩ := hp
  refine x_if_eq F dX12_lastCall_6 rfl (fun hc => absurd hc (by decide)) (fun _ => ?_)
  refine x_iconst (v := 0) F dX12_lastCall_9 (by decide) ?_
  refine x_goto F dX12_lastCall_10 rfl ?_
  refine x_iret F rfl rfl dX12_lastCall_22 (Nat.le_of_ble_eq_true rfl) (Nat.le_of_ble_eq_true rfl) ?_
  exact ⟨_, rfl, rfl, hw9⟩
set_option maxRecDepth 100000 in
set_option maxHeartbeats 4000000 in
theorem m_retire (hM : MR w (dA 99) mo re fa cl ad ca t n) (x1 x2 x3 : Int32) : Ci l D dA B yX12_retire wX12_retire 5 [.ref mo, .int x1, .int x2, .int x3] w (fun v w1 => v = .int 0 ∧ w1 = x_set w mo (oM 1 re)) := by
  refine x_Ct.of (cc := cX12_retire) (maxL := 9) (by decide) rfl (Nat.le_of_ble_eq_true rfl) ?_
  intro p e s m below meth c F
  refine x_aload_n F dX12_retire_0 rfl rfl ?_
  refine x_iload_n F dX12_retire_1 rfl rfl ?_
  refine x_iload_n F dX12_retire_2 rfl rfl ?_
  refine x_cVi2 (ci := 7) (C := RX12) (T := TX12) (N := 2) F dX12_retire_3 (x_gV q477 q478 q646 q5 q479) rfl (m_isNoVersion hM _ _) ⟨rfl, rfl, rfl, xd_X12_isNoVersion, ⟨Nat.le_of_ble_eq_true rfl, Nat.le_of_ble_eq_true rfl⟩, Nat.le_of_ble_eq_true rfl, Nat.le_of_ble_eq_true rfl⟩ rfl hM.1 (Nat.le_of_ble_eq_true rfl) (fun v1 w1 hp => ?_)
  obtain ⟨rfl, hw9⟩ := hp
  refine x_if_ne F dX12_retire_6 rfl (fun _ => ?_) (fun hc => absurd hc (by decide))
  refine x_iconst (v := 0) F dX12_retire_57 (by decide) ?_
  refine x_iret F rfl rfl dX12_retire_58 (Nat.le_of_ble_eq_true rfl) (Nat.le_of_ble_eq_true rfl) ?_
  exact ⟨_, rfl, rfl, hw9⟩
set_option maxRecDepth 100000 in
set_option maxHeartbeats 4000000 in
theorem m_answer (hM : MR w (dA 99) mo re fa cl ad ca t n) (x1 x2 x3 : Int32) : Ci l D dA B yX12_answer wX12_answer 5 [.ref mo, .int x1, .int x2, .int x3] w (fun v w1 => v = .int 0 ∧ w1 = x_set w mo (oM 1 re)) := by
  refine x_Ct.of (cc := cX12_answer) (maxL := 5) (by decide) rfl (Nat.le_of_ble_eq_true rfl) ?_
  intro p e s m below meth c F
  refine x_aload_n F dX12_answer_0 rfl rfl ?_
  refine x_iload_n F dX12_answer_1 rfl rfl ?_
  refine x_iload_n F dX12_answer_2 rfl rfl ?_
  refine x_iload_n F dX12_answer_3 rfl rfl ?_
  refine x_cVi3 (ci := 7) (C := RX12) (T := TX12) (N := 2) F dX12_answer_4 (x_gV q570 q571 q651 q5 q572) rfl (m_isNoAsk hM _ _ _) ⟨rfl, rfl, rfl, xd_X12_isNoAsk, ⟨Nat.le_of_ble_eq_true rfl, Nat.le_of_ble_eq_true rfl⟩, Nat.le_of_ble_eq_true rfl, Nat.le_of_ble_eq_true rfl⟩ rfl hM.1 (Nat.le_of_ble_eq_true rfl) (fun v1 w1 hp => ?_)
  obtain ⟨rfl, hw9⟩ := hp
  refine x_if_ne F dX12_answer_7 rfl (fun _ => ?_) (fun hc => absurd hc (by decide))
  refine x_iconst (v := 0) F dX12_answer_51 (by decide) ?_
  refine x_iret F rfl rfl dX12_answer_52 (Nat.le_of_ble_eq_true rfl) (Nat.le_of_ble_eq_true rfl) ?_
  exact ⟨_, rfl, rfl, hw9⟩
set_option maxRecDepth 100000 in
set_option maxHeartbeats 4000000 in
theorem m_recall (hM : MR w (dA 99) mo re fa cl ad ca t n) (x1 x2 : Int32) : Ci l D dA B yX12_recall wX12_recall 5 [.ref mo, .int x1, .int x2] w (fun v w1 => v = .int 0 ∧ w1 = x_set w mo (oM 1 re)) := by
  refine x_Ct.of (cc := cX12_recall) (maxL := 4) (by decide) rfl (Nat.le_of_ble_eq_true rfl) ?_
  intro p e s m below meth c F
  refine x_aload_n F dX12_recall_0 rfl rfl ?_
  refine x_iload_n F dX12_recall_1 rfl rfl ?_
  refine x_iload_n F dX12_recall_2 rfl rfl ?_
  refine x_cVi2 (ci := 7) (C := RX12) (T := TX12) (N := 2) F dX12_recall_3 (x_gV q477 q478 q646 q5 q479) rfl (m_isNoVersion hM _ _) ⟨rfl, rfl, rfl, xd_X12_isNoVersion, ⟨Nat.le_of_ble_eq_true rfl, Nat.le_of_ble_eq_true rfl⟩, Nat.le_of_ble_eq_true rfl, Nat.le_of_ble_eq_true rfl⟩ rfl hM.1 (Nat.le_of_ble_eq_true rfl) (fun v1 w1 hp => ?_)
  obtain ⟨rfl, hw9⟩ := hp
  refine x_if_ne F dX12_recall_6 rfl (fun _ => ?_) (fun hc => absurd hc (by decide))
  refine x_iconst (v := 0) F dX12_recall_35 (by decide) ?_
  refine x_iret F rfl rfl dX12_recall_36 (Nat.le_of_ble_eq_true rfl) (Nat.le_of_ble_eq_true rfl) ?_
  exact ⟨_, rfl, rfl, hw9⟩
set_option maxRecDepth 100000 in
set_option maxHeartbeats 4000000 in
theorem m_asked (hM : MR w (dA 99) mo re fa cl ad ca t n) (x1 x2 x3 : Int32) : Ci l D dA B yX12_asked wX12_asked 5 [.ref mo, .int x1, .int x2, .int x3] w (fun v w1 => v = .int 0 ∧ w1 = x_set w mo (oM 1 re)) := by
  refine x_Ct.of (cc := cX12_asked) (maxL := 4) (by decide) rfl (Nat.le_of_ble_eq_true rfl) ?_
  intro p e s m below meth c F
  refine x_aload_n F dX12_asked_0 rfl rfl ?_
  refine x_iload_n F dX12_asked_1 rfl rfl ?_
  refine x_iload_n F dX12_asked_2 rfl rfl ?_
  refine x_iload_n F dX12_asked_3 rfl rfl ?_
  refine x_cVi3 (ci := 7) (C := RX12) (T := TX12) (N := 2) F dX12_asked_4 (x_gV q570 q571 q651 q5 q572) rfl (m_isNoAsk hM _ _ _) ⟨rfl, rfl, rfl, xd_X12_isNoAsk, ⟨Nat.le_of_ble_eq_true rfl, Nat.le_of_ble_eq_true rfl⟩, Nat.le_of_ble_eq_true rfl, Nat.le_of_ble_eq_true rfl⟩ rfl hM.1 (Nat.le_of_ble_eq_true rfl) (fun v1 w1 hp => ?_)
  obtain ⟨rfl, hw9⟩ := hp
  refine x_if_eq F dX12_asked_7 rfl (fun hc => absurd hc (by decide)) (fun _ => ?_)
  refine x_iconst (v := 0) F dX12_asked_10 (by decide) ?_
  refine x_goto F dX12_asked_11 rfl ?_
  refine x_iret F rfl rfl dX12_asked_21 (Nat.le_of_ble_eq_true rfl) (Nat.le_of_ble_eq_true rfl) ?_
  exact ⟨_, rfl, rfl, hw9⟩
set_option maxRecDepth 100000 in
set_option maxHeartbeats 4000000 in
theorem m_wouldCome (hM : MR w (dA 99) mo re fa cl ad ca t n) (x1 x2 : Int32) : Ci l D dA B yX12_wouldCome wX12_wouldCome 5 [.ref mo, .int x1, .int x2] w (fun v w1 => v = .int 0 ∧ w1 = x_set w mo (oM 1 re)) := by
  refine x_Ct.of (cc := cX12_wouldCome) (maxL := 3) (by decide) rfl (Nat.le_of_ble_eq_true rfl) ?_
  intro p e s m below meth c F
  refine x_aload_n F dX12_wouldCome_0 rfl rfl ?_
  refine x_iload_n F dX12_wouldCome_1 rfl rfl ?_
  refine x_cVi1 (ci := 7) (C := RX12) (T := TX12) (N := 2) F dX12_wouldCome_2 (x_gV q531 q532 q650 q5 q533) rfl (m_isNoClient hM _) ⟨rfl, rfl, rfl, xd_X12_isNoClient, ⟨Nat.le_of_ble_eq_true rfl, Nat.le_of_ble_eq_true rfl⟩, Nat.le_of_ble_eq_true rfl, Nat.le_of_ble_eq_true rfl⟩ rfl hM.1 (Nat.le_of_ble_eq_true rfl) (fun v1 w1 hp => ?_)
  obtain ⟨rfl, hw9⟩ := hp
  refine x_if_ne F dX12_wouldCome_5 rfl (fun _ => ?_) (fun hc => absurd hc (by decide))
  refine x_iconst (v := 0) F dX12_wouldCome_31 (by decide) ?_
  refine x_goto F dX12_wouldCome_32 rfl ?_
  refine x_iret F rfl rfl dX12_wouldCome_41 (Nat.le_of_ble_eq_true rfl) (Nat.le_of_ble_eq_true rfl) ?_
  exact ⟨_, rfl, rfl, hw9⟩
set_option maxRecDepth 100000 in
set_option maxHeartbeats 4000000 in
theorem m_goneIn (hM : MR w (dA 99) mo re fa cl ad ca t n) (x1 x2 : Int32) : Ci l D dA B yX12_goneIn wX12_goneIn 5 [.ref mo, .int x1, .int x2] w (fun v w1 => v = .int 0 ∧ w1 = x_set w mo (oM 1 re)) := by
  refine x_Ct.of (cc := cX12_goneIn) (maxL := 3) (by decide) rfl (Nat.le_of_ble_eq_true rfl) ?_
  intro p e s m below meth c F
  refine x_aload_n F dX12_goneIn_0 rfl rfl ?_
  refine x_iload_n F dX12_goneIn_1 rfl rfl ?_
  refine x_iload_n F dX12_goneIn_2 rfl rfl ?_
  refine x_cVi2 (ci := 7) (C := RX12) (T := TX12) (N := 2) F dX12_goneIn_3 (x_gV q477 q478 q646 q5 q479) rfl (m_isNoVersion hM _ _) ⟨rfl, rfl, rfl, xd_X12_isNoVersion, ⟨Nat.le_of_ble_eq_true rfl, Nat.le_of_ble_eq_true rfl⟩, Nat.le_of_ble_eq_true rfl, Nat.le_of_ble_eq_true rfl⟩ rfl hM.1 (Nat.le_of_ble_eq_true rfl) (fun v1 w1 hp => ?_)
  obtain ⟨rfl, hw9⟩ := hp
  refine x_if_eq F dX12_goneIn_6 rfl (fun hc => absurd hc (by decide)) (fun _ => ?_)
  refine x_iconst (v := 0) F dX12_goneIn_9 (by decide) ?_
  refine x_goto F dX12_goneIn_10 rfl ?_
  refine x_iret F rfl rfl dX12_goneIn_19 (Nat.le_of_ble_eq_true rfl) (Nat.le_of_ble_eq_true rfl) ?_
  exact ⟨_, rfl, rfl, hw9⟩
set_option maxRecDepth 100000 in
set_option maxHeartbeats 4000000 in
theorem m_wouldBreak (hM : MR w (dA 99) mo re fa cl ad ca t n) (x1 x2 x3 : Int32) : Ci l D dA B yX12_wouldBreak wX12_wouldBreak 5 [.ref mo, .int x1, .int x2, .int x3] w (fun v w1 => v = .int 0 ∧ w1 = x_set w mo (oM 1 re)) := by
  refine x_Ct.of (cc := cX12_wouldBreak) (maxL := 8) (by decide) rfl (Nat.le_of_ble_eq_true rfl) ?_
  intro p e s m below meth c F
  refine x_aload_n F dX12_wouldBreak_0 rfl rfl ?_
  refine x_aload_n F dX12_wouldBreak_1 rfl rfl ?_
  refine x_iload_n F dX12_wouldBreak_2 rfl rfl ?_
  refine x_cVi1 (ci := 7) (C := RX12) (T := TX12) (N := 2) F dX12_wouldBreak_3 (x_gV q430 q431 q645 q5 q432) rfl (m_isNoFace hM _) ⟨rfl, rfl, rfl, xd_X12_isNoFace, ⟨Nat.le_of_ble_eq_true rfl, Nat.le_of_ble_eq_true rfl⟩, Nat.le_of_ble_eq_true rfl, Nat.le_of_ble_eq_true rfl⟩ rfl hM.1 (Nat.le_of_ble_eq_true rfl) (fun v1 w1 hp => ?_)
  obtain ⟨rfl, hw9⟩ := hp
  replace hw9 := hw9.symm
  subst hw9
  refine x_iconst (v := 1) F dX12_wouldBreak_6 (by decide) ?_
  refine x_cVi2 (ci := 7) (C := RX12) (T := TX12) (N := 2) F dX12_wouldBreak_7 (x_gV q401 q402 q640 q5 q403) rfl (m_start1 hM 1 (by decide)) ⟨rfl, rfl, rfl, xd_X12_start, ⟨Nat.le_of_ble_eq_true rfl, Nat.le_of_ble_eq_true rfl⟩, Nat.le_of_ble_eq_true rfl, Nat.le_of_ble_eq_true rfl⟩ rfl hM.1 (Nat.le_of_ble_eq_true rfl) (fun v1 w1 hp => ?_)
  obtain ⟨rfl, hw9⟩ := hp
  refine x_if_ne F dX12_wouldBreak_10 rfl (fun _ => ?_) (fun hc => absurd hc (by decide))
  refine x_iconst (v := 0) F dX12_wouldBreak_26 (by decide) ?_
  refine x_iret F rfl rfl dX12_wouldBreak_27 (Nat.le_of_ble_eq_true rfl) (Nat.le_of_ble_eq_true rfl) ?_
  exact ⟨_, rfl, rfl, hw9⟩
set_option maxRecDepth 100000 in
set_option maxHeartbeats 4000000 in
theorem m_target (hM : MR w (dA 99) mo re fa cl ad ca t n) (x1 : Int32) : Ci l D dA B yX12_target wX12_target 5 [.ref mo, .int x1] w (fun v w1 => v = .int 0 ∧ w1 = x_set w mo (oM 1 re)) := by
  refine x_Ct.of (cc := cX12_target) (maxL := 2) (by decide) rfl (Nat.le_of_ble_eq_true rfl) ?_
  intro p e s m below meth c F
  refine x_aload_n F dX12_target_0 rfl rfl ?_
  refine x_iload_n F dX12_target_1 rfl rfl ?_
  refine x_cVi1 (ci := 7) (C := RX12) (T := TX12) (N := 2) F dX12_target_2 (x_gV q531 q532 q650 q5 q533) rfl (m_isNoClient hM _) ⟨rfl, rfl, rfl, xd_X12_isNoClient, ⟨Nat.le_of_ble_eq_true rfl, Nat.le_of_ble_eq_true rfl⟩, Nat.le_of_ble_eq_true rfl, Nat.le_of_ble_eq_true rfl⟩ rfl hM.1 (Nat.le_of_ble_eq_true rfl) (fun v1 w1 hp => ?_)
  obtain ⟨rfl, hw9⟩ := hp
  refine x_if_eq F dX12_target_5 rfl (fun hc => absurd hc (by decide)) (fun _ => ?_)
  refine x_iconst (v := 0) F dX12_target_8 (by decide) ?_
  refine x_goto F dX12_target_9 rfl ?_
  refine x_iret F rfl rfl dX12_target_17 (Nat.le_of_ble_eq_true rfl) (Nat.le_of_ble_eq_true rfl) ?_
  exact ⟨_, rfl, rfl, hw9⟩
set_option maxRecDepth 100000 in
set_option maxHeartbeats 4000000 in
theorem m_goneBy (hM : MR w (dA 99) mo re fa cl ad ca t n) (x1 x2 x3 : Int32) : Ci l D dA B yX12_goneBy wX12_goneBy 5 [.ref mo, .int x1, .int x2, .int x3] w (fun v w1 => v = .int 0 ∧ w1 = x_set w mo (oM 1 re)) := by
  refine x_Ct.of (cc := cX12_goneBy) (maxL := 5) (by decide) rfl (Nat.le_of_ble_eq_true rfl) ?_
  intro p e s m below meth c F
  refine x_aload_n F dX12_goneBy_0 rfl rfl ?_
  refine x_iload_n F dX12_goneBy_1 rfl rfl ?_
  refine x_iload_n F dX12_goneBy_2 rfl rfl ?_
  refine x_cVi2 (ci := 7) (C := RX12) (T := TX12) (N := 2) F dX12_goneBy_3 (x_gV q477 q478 q646 q5 q479) rfl (m_isNoVersion hM _ _) ⟨rfl, rfl, rfl, xd_X12_isNoVersion, ⟨Nat.le_of_ble_eq_true rfl, Nat.le_of_ble_eq_true rfl⟩, Nat.le_of_ble_eq_true rfl, Nat.le_of_ble_eq_true rfl⟩ rfl hM.1 (Nat.le_of_ble_eq_true rfl) (fun v1 w1 hp => ?_)
  obtain ⟨rfl, hw9⟩ := hp
  refine x_if_ne F dX12_goneBy_6 rfl (fun _ => ?_) (fun hc => absurd hc (by decide))
  refine x_iconst (v := 0) F dX12_goneBy_57 (by decide) ?_
  refine x_iret F rfl rfl dX12_goneBy_58 (Nat.le_of_ble_eq_true rfl) (Nat.le_of_ble_eq_true rfl) ?_
  exact ⟨_, rfl, rfl, hw9⟩
end MDL
