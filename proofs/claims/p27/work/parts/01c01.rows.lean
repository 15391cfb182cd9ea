theorem dX6_open_0 : decode cX6_open 0 = .ok (.aload_n 0, 1) := by decide +kernel
theorem dX6_open_1 : decode cX6_open 1 = .ok (.getfield 41, 3) := by decide +kernel
theorem dX6_open_4 : decode cX6_open 4 = .ok (.ifCond .lt 15, 3) := by decide +kernel
theorem dX6_open_7 : decode cX6_open 7 = .ok (.aload_n 0, 1) := by decide +kernel
theorem dX6_open_8 : decode cX6_open 8 = .ok (.getfield 41, 3) := by decide +kernel
theorem dX6_open_11 : decode cX6_open 11 = .ok (.aload_n 0, 1) := by decide +kernel
theorem dX6_open_12 : decode cX6_open 12 = .ok (.getfield 11, 3) := by decide +kernel
theorem dX6_open_15 : decode cX6_open 15 = .ok (.arraylength, 1) := by decide +kernel
theorem dX6_open_16 : decode cX6_open 16 = .ok (.if_icmp .lt 13, 3) := by decide +kernel
theorem dX6_open_19 : decode cX6_open 19 = .ok (.new 45, 3) := by decide +kernel
theorem dX6_open_22 : decode cX6_open 22 = .ok (.dup, 1) := by decide +kernel
theorem dX6_open_23 : decode cX6_open 23 = .ok (.ldc 47, 2) := by decide +kernel
theorem dX6_open_25 : decode cX6_open 25 = .ok (.invokespecial 49, 3) := by decide +kernel
theorem dX6_open_28 : decode cX6_open 28 = .ok (.athrow, 1) := by decide +kernel
theorem dX6_open_29 : decode cX6_open 29 = .ok (.aload_n 0, 1) := by decide +kernel
theorem dX6_open_30 : decode cX6_open 30 = .ok (.getfield 11, 3) := by decide +kernel
theorem dX6_open_33 : decode cX6_open 33 = .ok (.aload_n 0, 1) := by decide +kernel
theorem dX6_open_34 : decode cX6_open 34 = .ok (.getfield 41, 3) := by decide +kernel
theorem dX6_open_37 : decode cX6_open 37 = .ok (.new 9, 3) := by decide +kernel
theorem dX6_open_40 : decode cX6_open 40 = .ok (.dup, 1) := by decide +kernel
theorem dX6_open_41 : decode cX6_open 41 = .ok (.aload_n 0, 1) := by decide +kernel
theorem dX6_open_42 : decode cX6_open 42 = .ok (.getfield 41, 3) := by decide +kernel
theorem dX6_open_45 : decode cX6_open 45 = .ok (.invokespecial 52, 3) := by decide +kernel
theorem dX6_open_48 : decode cX6_open 48 = .ok (.aastore, 1) := by decide +kernel
theorem dX6_open_49 : decode cX6_open 49 = .ok (.aload_n 0, 1) := by decide +kernel
theorem dX6_open_50 : decode cX6_open 50 = .ok (.dup, 1) := by decide +kernel
theorem dX6_open_51 : decode cX6_open 51 = .ok (.getfield 41, 3) := by decide +kernel
theorem dX6_open_54 : decode cX6_open 54 = .ok (.dup_x1, 1) := by decide +kernel
theorem dX6_open_55 : decode cX6_open 55 = .ok (.iconst 1, 1) := by decide +kernel
theorem dX6_open_56 : decode cX6_open 56 = .ok (.iadd, 1) := by decide +kernel
theorem dX6_open_57 : decode cX6_open 57 = .ok (.putfield 41, 3) := by decide +kernel
theorem dX6_open_60 : decode cX6_open 60 = .ok (.ireturn, 1) := by decide +kernel
theorem dX6_publish_0 : decode cX6_publish 0 = .ok (.aload_n 0, 1) := by decide +kernel
theorem dX6_publish_1 : decode cX6_publish 1 = .ok (.iload_n 1, 1) := by decide +kernel
theorem dX6_publish_2 : decode cX6_publish 2 = .ok (.invokevirtual 55, 3) := by decide +kernel
theorem dX6_publish_5 : decode cX6_publish 5 = .ok (.astore 4, 2) := by decide +kernel
theorem dX6_publish_7 : decode cX6_publish 7 = .ok (.aload 4, 2) := by decide +kernel
theorem dX6_publish_9 : decode cX6_publish 9 = .ok (.ifnonnull 13, 3) := by decide +kernel
theorem dX6_publish_12 : decode cX6_publish 12 = .ok (.new 59, 3) := by decide +kernel
theorem dX6_publish_15 : decode cX6_publish 15 = .ok (.dup, 1) := by decide +kernel
theorem dX6_publish_16 : decode cX6_publish 16 = .ok (.ldc 61, 2) := by decide +kernel
theorem dX6_publish_18 : decode cX6_publish 18 = .ok (.invokespecial 63, 3) := by decide +kernel
theorem dX6_publish_21 : decode cX6_publish 21 = .ok (.athrow, 1) := by decide +kernel
theorem dX6_publish_22 : decode cX6_publish 22 = .ok (.iload_n 2, 1) := by decide +kernel
theorem dX6_publish_23 : decode cX6_publish 23 = .ok (.iload_n 3, 1) := by decide +kernel
theorem dX6_publish_24 : decode cX6_publish 24 = .ok (.invokestatic 64, 3) := by decide +kernel
theorem dX6_publish_27 : decode cX6_publish 27 = .ok (.ifCond .ne 13, 3) := by decide +kernel
theorem dX6_publish_30 : decode cX6_publish 30 = .ok (.new 68, 3) := by decide +kernel
theorem dX6_publish_33 : decode cX6_publish 33 = .ok (.dup, 1) := by decide +kernel
theorem dX6_publish_34 : decode cX6_publish 34 = .ok (.ldc 70, 2) := by decide +kernel
theorem dX6_publish_36 : decode cX6_publish 36 = .ok (.invokespecial 72, 3) := by decide +kernel
theorem dX6_publish_39 : decode cX6_publish 39 = .ok (.athrow, 1) := by decide +kernel
theorem dX6_publish_40 : decode cX6_publish 40 = .ok (.aload 4, 2) := by decide +kernel
theorem dX6_publish_42 : decode cX6_publish 42 = .ok (.getfield 73, 3) := by decide +kernel
theorem dX6_publish_45 : decode cX6_publish 45 = .ok (.istore 5, 2) := by decide +kernel
theorem dX6_publish_47 : decode cX6_publish 47 = .ok (.iload 5, 2) := by decide +kernel
theorem dX6_publish_49 : decode cX6_publish 49 = .ok (.ifCond .lt 14, 3) := by decide +kernel
theorem dX6_publish_52 : decode cX6_publish 52 = .ok (.iload 5, 2) := by decide +kernel
theorem dX6_publish_54 : decode cX6_publish 54 = .ok (.aload 4, 2) := by decide +kernel
theorem dX6_publish_56 : decode cX6_publish 56 = .ok (.getfield 76, 3) := by decide +kernel
theorem dX6_publish_59 : decode cX6_publish 59 = .ok (.arraylength, 1) := by decide +kernel
theorem dX6_publish_60 : decode cX6_publish 60 = .ok (.if_icmp .lt 13, 3) := by decide +kernel
theorem dX6_publish_63 : decode cX6_publish 63 = .ok (.new 45, 3) := by decide +kernel
theorem dX6_publish_66 : decode cX6_publish 66 = .ok (.dup, 1) := by decide +kernel
theorem dX6_publish_67 : decode cX6_publish 67 = .ok (.ldc 80, 2) := by decide +kernel
theorem dX6_publish_69 : decode cX6_publish 69 = .ok (.invokespecial 49, 3) := by decide +kernel
theorem dX6_publish_72 : decode cX6_publish 72 = .ok (.athrow, 1) := by decide +kernel
theorem dX6_publish_73 : decode cX6_publish 73 = .ok (.new 82, 3) := by decide +kernel
theorem dX6_publish_76 : decode cX6_publish 76 = .ok (.dup, 1) := by decide +kernel
theorem dX6_publish_77 : decode cX6_publish 77 = .ok (.aload 4, 2) := by decide +kernel
theorem dX6_publish_79 : decode cX6_publish 79 = .ok (.iload 5, 2) := by decide +kernel
theorem dX6_publish_81 : decode cX6_publish 81 = .ok (.iload_n 2, 1) := by decide +kernel
theorem dX6_publish_82 : decode cX6_publish 82 = .ok (.iload_n 3, 1) := by decide +kernel
theorem dX6_publish_83 : decode cX6_publish 83 = .ok (.invokespecial 84, 3) := by decide +kernel
theorem dX6_publish_86 : decode cX6_publish 86 = .ok (.astore 6, 2) := by decide +kernel
theorem dX6_publish_88 : decode cX6_publish 88 = .ok (.aload 6, 2) := by decide +kernel
theorem dX6_publish_90 : decode cX6_publish 90 = .ok (.invokestatic 87, 3) := by decide +kernel
theorem dX6_publish_93 : decode cX6_publish 93 = .ok (.istore 7, 2) := by decide +kernel
theorem dX6_publish_95 : decode cX6_publish 95 = .ok (.aload 4, 2) := by decide +kernel
theorem dX6_publish_97 : decode cX6_publish 97 = .ok (.getfield 76, 3) := by decide +kernel
theorem dX6_publish_100 : decode cX6_publish 100 = .ok (.iload 5, 2) := by decide +kernel
theorem dX6_publish_102 : decode cX6_publish 102 = .ok (.aload 6, 2) := by decide +kernel
theorem dX6_publish_104 : decode cX6_publish 104 = .ok (.aastore, 1) := by decide +kernel
theorem dX6_publish_105 : decode cX6_publish 105 = .ok (.aload 4, 2) := by decide +kernel
theorem dX6_publish_107 : decode cX6_publish 107 = .ok (.iload 5, 2) := by decide +kernel
theorem dX6_publish_109 : decode cX6_publish 109 = .ok (.iconst 1, 1) := by decide +kernel
theorem dX6_publish_110 : decode cX6_publish 110 = .ok (.iadd, 1) := by decide +kernel
theorem dX6_publish_111 : decode cX6_publish 111 = .ok (.putfield 73, 3) := by decide +kernel
theorem dX6_publish_114 : decode cX6_publish 114 = .ok (.iload 7, 2) := by decide +kernel
theorem dX6_publish_116 : decode cX6_publish 116 = .ok (.ireturn, 1) := by decide +kernel
theorem dX6_ofVersion_0 : decode cX6_ofVersion 0 = .ok (.aload_n 0, 1) := by decide +kernel
theorem dX6_ofVersion_1 : decode cX6_ofVersion 1 = .ok (.iload_n 1, 1) := by decide +kernel
theorem dX6_ofVersion_2 : decode cX6_ofVersion 2 = .ok (.iload_n 2, 1) := by decide +kernel
theorem dX6_ofVersion_3 : decode cX6_ofVersion 3 = .ok (.invokevirtual 91, 3) := by decide +kernel
theorem dX6_ofVersion_6 : decode cX6_ofVersion 6 = .ok (.astore 4, 2) := by decide +kernel
theorem dX6_ofVersion_8 : decode cX6_ofVersion 8 = .ok (.aload 4, 2) := by decide +kernel
theorem dX6_ofVersion_10 : decode cX6_ofVersion 10 = .ok (.ifnonnull 13, 3) := by decide +kernel
theorem dX6_ofVersion_13 : decode cX6_ofVersion 13 = .ok (.new 59, 3) := by decide +kernel
theorem dX6_ofVersion_16 : decode cX6_ofVersion 16 = .ok (.dup, 1) := by decide +kernel
theorem dX6_ofVersion_17 : decode cX6_ofVersion 17 = .ok (.ldc 95, 2) := by decide +kernel
theorem dX6_ofVersion_19 : decode cX6_ofVersion 19 = .ok (.invokespecial 63, 3) := by decide +kernel
theorem dX6_ofVersion_22 : decode cX6_ofVersion 22 = .ok (.athrow, 1) := by decide +kernel
theorem dX6_ofVersion_23 : decode cX6_ofVersion 23 = .ok (.iload_n 3, 1) := by decide +kernel
theorem dX6_ofVersion_24 : decode cX6_ofVersion 24 = .ok (.ifCond .lt 9, 3) := by decide +kernel
theorem dX6_ofVersion_27 : decode cX6_ofVersion 27 = .ok (.iload_n 3, 1) := by decide +kernel
theorem dX6_ofVersion_28 : decode cX6_ofVersion 28 = .ok (.bipush 10, 2) := by decide +kernel
theorem dX6_ofVersion_30 : decode cX6_ofVersion 30 = .ok (.if_icmp .le 13, 3) := by decide +kernel
theorem dX6_ofVersion_33 : decode cX6_ofVersion 33 = .ok (.new 68, 3) := by decide +kernel
theorem dX6_ofVersion_36 : decode cX6_ofVersion 36 = .ok (.dup, 1) := by decide +kernel
theorem dX6_ofVersion_37 : decode cX6_ofVersion 37 = .ok (.ldc 97, 2) := by decide +kernel
theorem dX6_ofVersion_39 : decode cX6_ofVersion 39 = .ok (.invokespecial 72, 3) := by decide +kernel
theorem dX6_ofVersion_42 : decode cX6_ofVersion 42 = .ok (.athrow, 1) := by decide +kernel
theorem dX6_ofVersion_43 : decode cX6_ofVersion 43 = .ok (.aload_n 0, 1) := by decide +kernel
theorem dX6_ofVersion_44 : decode cX6_ofVersion 44 = .ok (.aload 4, 2) := by decide +kernel
theorem dX6_ofVersion_46 : decode cX6_ofVersion 46 = .ok (.iload_n 3, 1) := by decide +kernel
theorem dX6_ofVersion_47 : decode cX6_ofVersion 47 = .ok (.invokevirtual 99, 3) := by decide +kernel
theorem dX6_ofVersion_50 : decode cX6_ofVersion 50 = .ok (.ireturn, 1) := by decide +kernel
theorem dX6_isCompatible_0 : decode cX6_isCompatible 0 = .ok (.aload_n 0, 1) := by decide +kernel
theorem dX6_isCompatible_1 : decode cX6_isCompatible 1 = .ok (.iload_n 1, 1) := by decide +kernel
theorem dX6_isCompatible_2 : decode cX6_isCompatible 2 = .ok (.iload_n 2, 1) := by decide +kernel
theorem dX6_isCompatible_3 : decode cX6_isCompatible 3 = .ok (.invokevirtual 91, 3) := by decide +kernel
theorem dX6_isCompatible_6 : decode cX6_isCompatible 6 = .ok (.astore 4, 2) := by decide +kernel
theorem dX6_isCompatible_8 : decode cX6_isCompatible 8 = .ok (.aload_n 0, 1) := by decide +kernel
theorem dX6_isCompatible_9 : decode cX6_isCompatible 9 = .ok (.iload_n 1, 1) := by decide +kernel
theorem dX6_isCompatible_10 : decode cX6_isCompatible 10 = .ok (.iload_n 3, 1) := by decide +kernel
theorem dX6_isCompatible_11 : decode cX6_isCompatible 11 = .ok (.invokevirtual 91, 3) := by decide +kernel
theorem dX6_isCompatible_14 : decode cX6_isCompatible 14 = .ok (.astore 5, 2) := by decide +kernel
theorem dX6_isCompatible_16 : decode cX6_isCompatible 16 = .ok (.aload 4, 2) := by decide +kernel
theorem dX6_isCompatible_18 : decode cX6_isCompatible 18 = .ok (.ifnull 8, 3) := by decide +kernel
theorem dX6_isCompatible_21 : decode cX6_isCompatible 21 = .ok (.aload 5, 2) := by decide +kernel
theorem dX6_isCompatible_23 : decode cX6_isCompatible 23 = .ok (.ifnonnull 13, 3) := by decide +kernel
theorem dX6_isCompatible_26 : decode cX6_isCompatible 26 = .ok (.new 59, 3) := by decide +kernel
theorem dX6_isCompatible_29 : decode cX6_isCompatible 29 = .ok (.dup, 1) := by decide +kernel
theorem dX6_isCompatible_30 : decode cX6_isCompatible 30 = .ok (.ldc 95, 2) := by decide +kernel
theorem dX6_isCompatible_32 : decode cX6_isCompatible 32 = .ok (.invokespecial 63, 3) := by decide +kernel
theorem dX6_isCompatible_35 : decode cX6_isCompatible 35 = .ok (.athrow, 1) := by decide +kernel
theorem dX6_isCompatible_36 : decode cX6_isCompatible 36 = .ok (.aload 4, 2) := by decide +kernel
theorem dX6_isCompatible_38 : decode cX6_isCompatible 38 = .ok (.aload 5, 2) := by decide +kernel
theorem dX6_isCompatible_40 : decode cX6_isCompatible 40 = .ok (.invokevirtual 103, 3) := by decide +kernel
theorem dX6_isCompatible_43 : decode cX6_isCompatible 43 = .ok (.ireturn, 1) := by decide +kernel
theorem dX6_client_0 : decode cX6_client 0 = .ok (.aload_n 0, 1) := by decide +kernel
theorem dX6_client_1 : decode cX6_client 1 = .ok (.iload_n 2, 1) := by decide +kernel
theorem dX6_client_2 : decode cX6_client 2 = .ok (.iload_n 3, 1) := by decide +kernel
theorem dX6_client_3 : decode cX6_client 3 = .ok (.invokevirtual 91, 3) := by decide +kernel
theorem dX6_client_6 : decode cX6_client 6 = .ok (.astore 5, 2) := by decide +kernel
theorem dX6_client_8 : decode cX6_client 8 = .ok (.aload 5, 2) := by decide +kernel
theorem dX6_client_10 : decode cX6_client 10 = .ok (.ifnonnull 13, 3) := by decide +kernel
theorem dX6_client_13 : decode cX6_client 13 = .ok (.new 59, 3) := by decide +kernel
theorem dX6_client_16 : decode cX6_client 16 = .ok (.dup, 1) := by decide +kernel
theorem dX6_client_17 : decode cX6_client 17 = .ok (.ldc 95, 2) := by decide +kernel
theorem dX6_client_19 : decode cX6_client 19 = .ok (.invokespecial 63, 3) := by decide +kernel
theorem dX6_client_22 : decode cX6_client 22 = .ok (.athrow, 1) := by decide +kernel
theorem dX6_client_23 : decode cX6_client 23 = .ok (.iload_n 1, 1) := by decide +kernel
theorem dX6_client_24 : decode cX6_client 24 = .ok (.invokestatic 107, 3) := by decide +kernel
theorem dX6_client_27 : decode cX6_client 27 = .ok (.ifCond .eq 29, 3) := by decide +kernel
theorem dX6_client_30 : decode cX6_client 30 = .ok (.iload 4, 2) := by decide +kernel
theorem dX6_client_32 : decode cX6_client 32 = .ok (.invokestatic 111, 3) := by decide +kernel
theorem dX6_client_35 : decode cX6_client 35 = .ok (.ifCond .eq 21, 3) := by decide +kernel
theorem dX6_client_38 : decode cX6_client 38 = .ok (.iload 4, 2) := by decide +kernel
theorem dX6_client_40 : decode cX6_client 40 = .ok (.aload 5, 2) := by decide +kernel
theorem dX6_client_42 : decode cX6_client 42 = .ok (.getfield 114, 3) := by decide +kernel
theorem dX6_client_45 : decode cX6_client 45 = .ok (.aload 5, 2) := by decide +kernel
theorem dX6_client_47 : decode cX6_client 47 = .ok (.getfield 117, 3) := by decide +kernel
theorem dX6_client_50 : decode cX6_client 50 = .ok (.invokestatic 120, 3) := by decide +kernel
theorem dX6_client_53 : decode cX6_client 53 = .ok (.ifCond .ne 13, 3) := by decide +kernel
theorem dX6_client_56 : decode cX6_client 56 = .ok (.new 68, 3) := by decide +kernel
theorem dX6_client_59 : decode cX6_client 59 = .ok (.dup, 1) := by decide +kernel
theorem dX6_client_60 : decode cX6_client 60 = .ok (.ldc 124, 2) := by decide +kernel
theorem dX6_client_62 : decode cX6_client 62 = .ok (.invokespecial 72, 3) := by decide +kernel
theorem dX6_client_65 : decode cX6_client 65 = .ok (.athrow, 1) := by decide +kernel
theorem dX6_client_66 : decode cX6_client 66 = .ok (.aload_n 0, 1) := by decide +kernel
theorem dX6_client_67 : decode cX6_client 67 = .ok (.getfield 126, 3) := by decide +kernel
theorem dX6_client_70 : decode cX6_client 70 = .ok (.ifCond .lt 23, 3) := by decide +kernel
theorem dX6_client_73 : decode cX6_client 73 = .ok (.aload_n 0, 1) := by decide +kernel
theorem dX6_client_74 : decode cX6_client 74 = .ok (.getfield 126, 3) := by decide +kernel
theorem dX6_client_77 : decode cX6_client 77 = .ok (.aload_n 0, 1) := by decide +kernel
theorem dX6_client_78 : decode cX6_client 78 = .ok (.getfield 17, 3) := by decide +kernel
theorem dX6_client_81 : decode cX6_client 81 = .ok (.arraylength, 1) := by decide +kernel
theorem dX6_client_82 : decode cX6_client 82 = .ok (.if_icmp .ge 11, 3) := by decide +kernel
theorem dX6_client_85 : decode cX6_client 85 = .ok (.aload 5, 2) := by decide +kernel
theorem dX6_client_87 : decode cX6_client 87 = .ok (.getfield 129, 3) := by decide +kernel
theorem dX6_client_90 : decode cX6_client 90 = .ok (.ifCond .eq 13, 3) := by decide +kernel
theorem dX6_client_93 : decode cX6_client 93 = .ok (.new 45, 3) := by decide +kernel
theorem dX6_client_96 : decode cX6_client 96 = .ok (.dup, 1) := by decide +kernel
theorem dX6_client_97 : decode cX6_client 97 = .ok (.ldc 132, 2) := by decide +kernel
theorem dX6_client_99 : decode cX6_client 99 = .ok (.invokespecial 49, 3) := by decide +kernel
theorem dX6_client_102 : decode cX6_client 102 = .ok (.athrow, 1) := by decide +kernel
theorem dX6_client_103 : decode cX6_client 103 = .ok (.aload_n 0, 1) := by decide +kernel
theorem dX6_client_104 : decode cX6_client 104 = .ok (.getfield 17, 3) := by decide +kernel
theorem dX6_client_107 : decode cX6_client 107 = .ok (.aload_n 0, 1) := by decide +kernel
theorem dX6_client_108 : decode cX6_client 108 = .ok (.getfield 126, 3) := by decide +kernel
theorem dX6_client_111 : decode cX6_client 111 = .ok (.new 15, 3) := by decide +kernel
theorem dX6_client_114 : decode cX6_client 114 = .ok (.dup, 1) := by decide +kernel
theorem dX6_client_115 : decode cX6_client 115 = .ok (.iload_n 1, 1) := by decide +kernel
theorem dX6_client_116 : decode cX6_client 116 = .ok (.aload 5, 2) := by decide +kernel
theorem dX6_client_118 : decode cX6_client 118 = .ok (.iload 4, 2) := by decide +kernel
theorem dX6_client_120 : decode cX6_client 120 = .ok (.invokespecial 134, 3) := by decide +kernel
theorem dX6_client_123 : decode cX6_client 123 = .ok (.aastore, 1) := by decide +kernel
theorem dX6_client_124 : decode cX6_client 124 = .ok (.aload_n 0, 1) := by decide +kernel
theorem dX6_client_125 : decode cX6_client 125 = .ok (.dup, 1) := by decide +kernel
theorem dX6_client_126 : decode cX6_client 126 = .ok (.getfield 126, 3) := by decide +kernel
theorem dX6_client_129 : decode cX6_client 129 = .ok (.dup_x1, 1) := by decide +kernel
theorem dX6_client_130 : decode cX6_client 130 = .ok (.iconst 1, 1) := by decide +kernel
theorem dX6_client_131 : decode cX6_client 131 = .ok (.iadd, 1) := by decide +kernel
theorem dX6_client_132 : decode cX6_client 132 = .ok (.putfield 126, 3) := by decide +kernel
theorem dX6_client_135 : decode cX6_client 135 = .ok (.ireturn, 1) := by decide +kernel
theorem dX6_again_0 : decode cX6_again 0 = .ok (.aload_n 0, 1) := by decide +kernel
theorem dX6_again_1 : decode cX6_again 1 = .ok (.iload_n 1, 1) := by decide +kernel
theorem dX6_again_2 : decode cX6_again 2 = .ok (.invokevirtual 137, 3) := by decide +kernel
theorem dX6_again_5 : decode cX6_again 5 = .ok (.astore_n 3, 1) := by decide +kernel
theorem dX6_again_6 : decode cX6_again 6 = .ok (.aload_n 3, 1) := by decide +kernel
theorem dX6_again_7 : decode cX6_again 7 = .ok (.ifnonnull 7, 3) := by decide +kernel
theorem dX6_again_10 : decode cX6_again 10 = .ok (.aconst_null, 1) := by decide +kernel
theorem dX6_again_11 : decode cX6_again 11 = .ok (.goto 11, 3) := by decide +kernel
theorem dX6_again_14 : decode cX6_again 14 = .ok (.aload_n 3, 1) := by decide +kernel
theorem dX6_again_15 : decode cX6_again 15 = .ok (.getfield 141, 3) := by decide +kernel
theorem dX6_again_18 : decode cX6_again 18 = .ok (.iload_n 2, 1) := by decide +kernel
theorem dX6_again_19 : decode cX6_again 19 = .ok (.invokevirtual 145, 3) := by decide +kernel
theorem dX6_again_22 : decode cX6_again 22 = .ok (.astore 4, 2) := by decide +kernel
theorem dX6_again_24 : decode cX6_again 24 = .ok (.aload_n 3, 1) := by decide +kernel
theorem dX6_again_25 : decode cX6_again 25 = .ok (.ifnull 8, 3) := by decide +kernel
theorem dX6_again_28 : decode cX6_again 28 = .ok (.aload 4, 2) := by decide +kernel
theorem dX6_again_30 : decode cX6_again 30 = .ok (.ifnonnull 13, 3) := by decide +kernel
theorem dX6_again_33 : decode cX6_again 33 = .ok (.new 59, 3) := by decide +kernel
theorem dX6_again_36 : decode cX6_again 36 = .ok (.dup, 1) := by decide +kernel
theorem dX6_again_37 : decode cX6_again 37 = .ok (.ldc 148, 2) := by decide +kernel
theorem dX6_again_39 : decode cX6_again 39 = .ok (.invokespecial 63, 3) := by decide +kernel
theorem dX6_again_42 : decode cX6_again 42 = .ok (.athrow, 1) := by decide +kernel
theorem dX6_again_43 : decode cX6_again 43 = .ok (.aload 4, 2) := by decide +kernel
theorem dX6_again_45 : decode cX6_again 45 = .ok (.getfield 129, 3) := by decide +kernel
theorem dX6_again_48 : decode cX6_again 48 = .ok (.ifCond .eq 13, 3) := by decide +kernel
theorem dX6_again_51 : decode cX6_again 51 = .ok (.new 45, 3) := by decide +kernel
theorem dX6_again_54 : decode cX6_again 54 = .ok (.dup, 1) := by decide +kernel
theorem dX6_again_55 : decode cX6_again 55 = .ok (.ldc 150, 2) := by decide +kernel
theorem dX6_again_57 : decode cX6_again 57 = .ok (.invokespecial 49, 3) := by decide +kernel
theorem dX6_again_60 : decode cX6_again 60 = .ok (.athrow, 1) := by decide +kernel
theorem dX6_again_61 : decode cX6_again 61 = .ok (.aload_n 3, 1) := by decide +kernel
theorem dX6_again_62 : decode cX6_again 62 = .ok (.aload 4, 2) := by decide +kernel
theorem dX6_again_64 : decode cX6_again 64 = .ok (.aload_n 3, 1) := by decide +kernel
theorem dX6_again_65 : decode cX6_again 65 = .ok (.getfield 152, 3) := by decide +kernel
theorem dX6_again_68 : decode cX6_again 68 = .ok (.invokevirtual 155, 3) := by decide +kernel
theorem dX6_again_71 : decode cX6_again 71 = .ok (.putfield 152, 3) := by decide +kernel
theorem dX6_again_74 : decode cX6_again 74 = .ok (.aload_n 3, 1) := by decide +kernel
theorem dX6_again_75 : decode cX6_again 75 = .ok (.aload 4, 2) := by decide +kernel
theorem dX6_again_77 : decode cX6_again 77 = .ok (.putfield 159, 3) := by decide +kernel
theorem dX6_again_80 : decode cX6_again 80 = .ok (.aload_n 3, 1) := by decide +kernel
theorem dX6_again_81 : decode cX6_again 81 = .ok (.getfield 152, 3) := by decide +kernel
theorem dX6_again_84 : decode cX6_again 84 = .ok (.ireturn, 1) := by decide +kernel
theorem dX6_adapter_0 : decode cX6_adapter 0 = .ok (.aload_n 0, 1) := by decide +kernel
theorem dX6_adapter_1 : decode cX6_adapter 1 = .ok (.iload_n 1, 1) := by decide +kernel
theorem dX6_adapter_2 : decode cX6_adapter 2 = .ok (.iload_n 2, 1) := by decide +kernel
theorem dX6_adapter_3 : decode cX6_adapter 3 = .ok (.invokevirtual 91, 3) := by decide +kernel
theorem dX6_adapter_6 : decode cX6_adapter 6 = .ok (.astore 6, 2) := by decide +kernel
theorem dX6_adapter_8 : decode cX6_adapter 8 = .ok (.aload_n 0, 1) := by decide +kernel
theorem dX6_adapter_9 : decode cX6_adapter 9 = .ok (.iload_n 1, 1) := by decide +kernel
theorem dX6_adapter_10 : decode cX6_adapter 10 = .ok (.iload_n 3, 1) := by decide +kernel
theorem dX6_adapter_11 : decode cX6_adapter 11 = .ok (.invokevirtual 91, 3) := by decide +kernel
theorem dX6_adapter_14 : decode cX6_adapter 14 = .ok (.astore 7, 2) := by decide +kernel
theorem dX6_adapter_16 : decode cX6_adapter 16 = .ok (.aload 6, 2) := by decide +kernel
theorem dX6_adapter_18 : decode cX6_adapter 18 = .ok (.ifnull 8, 3) := by decide +kernel
theorem dX6_adapter_21 : decode cX6_adapter 21 = .ok (.aload 7, 2) := by decide +kernel
theorem dX6_adapter_23 : decode cX6_adapter 23 = .ok (.ifnonnull 13, 3) := by decide +kernel
theorem dX6_adapter_26 : decode cX6_adapter 26 = .ok (.new 59, 3) := by decide +kernel
theorem dX6_adapter_29 : decode cX6_adapter 29 = .ok (.dup, 1) := by decide +kernel
theorem dX6_adapter_30 : decode cX6_adapter 30 = .ok (.ldc 95, 2) := by decide +kernel
theorem dX6_adapter_32 : decode cX6_adapter 32 = .ok (.invokespecial 63, 3) := by decide +kernel
theorem dX6_adapter_35 : decode cX6_adapter 35 = .ok (.athrow, 1) := by decide +kernel
theorem dX6_adapter_36 : decode cX6_adapter 36 = .ok (.aload 6, 2) := by decide +kernel
theorem dX6_adapter_38 : decode cX6_adapter 38 = .ok (.aload 7, 2) := by decide +kernel
theorem dX6_adapter_40 : decode cX6_adapter 40 = .ok (.if_acmp .eq 19, 3) := by decide +kernel
theorem dX6_adapter_43 : decode cX6_adapter 43 = .ok (.iload 4, 2) := by decide +kernel
theorem dX6_adapter_45 : decode cX6_adapter 45 = .ok (.invokestatic 111, 3) := by decide +kernel
theorem dX6_adapter_48 : decode cX6_adapter 48 = .ok (.ifCond .eq 11, 3) := by decide +kernel
theorem dX6_adapter_51 : decode cX6_adapter 51 = .ok (.iload 5, 2) := by decide +kernel
theorem dX6_adapter_53 : decode cX6_adapter 53 = .ok (.invokestatic 111, 3) := by decide +kernel
theorem dX6_adapter_56 : decode cX6_adapter 56 = .ok (.ifCond .ne 13, 3) := by decide +kernel
theorem dX6_adapter_59 : decode cX6_adapter 59 = .ok (.new 68, 3) := by decide +kernel
theorem dX6_adapter_62 : decode cX6_adapter 62 = .ok (.dup, 1) := by decide +kernel
theorem dX6_adapter_63 : decode cX6_adapter 63 = .ok (.ldc 163, 2) := by decide +kernel
theorem dX6_adapter_65 : decode cX6_adapter 65 = .ok (.invokespecial 72, 3) := by decide +kernel
theorem dX6_adapter_68 : decode cX6_adapter 68 = .ok (.athrow, 1) := by decide +kernel
theorem dX6_adapter_69 : decode cX6_adapter 69 = .ok (.aload_n 0, 1) := by decide +kernel
theorem dX6_adapter_70 : decode cX6_adapter 70 = .ok (.getfield 165, 3) := by decide +kernel
theorem dX6_adapter_73 : decode cX6_adapter 73 = .ok (.ifCond .lt 15, 3) := by decide +kernel
theorem dX6_adapter_76 : decode cX6_adapter 76 = .ok (.aload_n 0, 1) := by decide +kernel
theorem dX6_adapter_77 : decode cX6_adapter 77 = .ok (.getfield 165, 3) := by decide +kernel
theorem dX6_adapter_80 : decode cX6_adapter 80 = .ok (.aload_n 0, 1) := by decide +kernel
theorem dX6_adapter_81 : decode cX6_adapter 81 = .ok (.getfield 23, 3) := by decide +kernel
theorem dX6_adapter_84 : decode cX6_adapter 84 = .ok (.arraylength, 1) := by decide +kernel
theorem dX6_adapter_85 : decode cX6_adapter 85 = .ok (.if_icmp .lt 13, 3) := by decide +kernel
theorem dX6_adapter_88 : decode cX6_adapter 88 = .ok (.new 45, 3) := by decide +kernel
theorem dX6_adapter_91 : decode cX6_adapter 91 = .ok (.dup, 1) := by decide +kernel
theorem dX6_adapter_92 : decode cX6_adapter 92 = .ok (.ldc 168, 2) := by decide +kernel
theorem dX6_adapter_94 : decode cX6_adapter 94 = .ok (.invokespecial 49, 3) := by decide +kernel
theorem dX6_adapter_97 : decode cX6_adapter 97 = .ok (.athrow, 1) := by decide +kernel
theorem dX6_adapter_98 : decode cX6_adapter 98 = .ok (.aload_n 0, 1) := by decide +kernel
theorem dX6_adapter_99 : decode cX6_adapter 99 = .ok (.getfield 23, 3) := by decide +kernel
theorem dX6_adapter_102 : decode cX6_adapter 102 = .ok (.aload_n 0, 1) := by decide +kernel
theorem dX6_adapter_103 : decode cX6_adapter 103 = .ok (.getfield 165, 3) := by decide +kernel
theorem dX6_adapter_106 : decode cX6_adapter 106 = .ok (.new 21, 3) := by decide +kernel
theorem dX6_adapter_109 : decode cX6_adapter 109 = .ok (.dup, 1) := by decide +kernel
theorem dX6_adapter_110 : decode cX6_adapter 110 = .ok (.aload 6, 2) := by decide +kernel
theorem dX6_adapter_112 : decode cX6_adapter 112 = .ok (.aload 7, 2) := by decide +kernel
theorem dX6_adapter_114 : decode cX6_adapter 114 = .ok (.iload 4, 2) := by decide +kernel
theorem dX6_adapter_116 : decode cX6_adapter 116 = .ok (.iload 5, 2) := by decide +kernel
theorem dX6_adapter_118 : decode cX6_adapter 118 = .ok (.invokespecial 170, 3) := by decide +kernel
theorem dX6_adapter_121 : decode cX6_adapter 121 = .ok (.aastore, 1) := by decide +kernel
theorem dX6_adapter_122 : decode cX6_adapter 122 = .ok (.aload_n 0, 1) := by decide +kernel
theorem dX6_adapter_123 : decode cX6_adapter 123 = .ok (.dup, 1) := by decide +kernel
theorem dX6_adapter_124 : decode cX6_adapter 124 = .ok (.getfield 165, 3) := by decide +kernel
theorem dX6_adapter_127 : decode cX6_adapter 127 = .ok (.dup_x1, 1) := by decide +kernel
theorem dX6_adapter_128 : decode cX6_adapter 128 = .ok (.iconst 1, 1) := by decide +kernel
theorem dX6_adapter_129 : decode cX6_adapter 129 = .ok (.iadd, 1) := by decide +kernel
theorem dX6_adapter_130 : decode cX6_adapter 130 = .ok (.putfield 165, 3) := by decide +kernel
theorem dX6_adapter_133 : decode cX6_adapter 133 = .ok (.ireturn, 1) := by decide +kernel
theorem dX6_ofClient_0 : decode cX6_ofClient 0 = .ok (.aload_n 0, 1) := by decide +kernel
theorem dX6_ofClient_1 : decode cX6_ofClient 1 = .ok (.iload_n 1, 1) := by decide +kernel
theorem dX6_ofClient_2 : decode cX6_ofClient 2 = .ok (.invokevirtual 137, 3) := by decide +kernel
theorem dX6_ofClient_5 : decode cX6_ofClient 5 = .ok (.astore_n 3, 1) := by decide +kernel
theorem dX6_ofClient_6 : decode cX6_ofClient 6 = .ok (.aload_n 3, 1) := by decide +kernel
theorem dX6_ofClient_7 : decode cX6_ofClient 7 = .ok (.ifnonnull 13, 3) := by decide +kernel
theorem dX6_ofClient_10 : decode cX6_ofClient 10 = .ok (.new 59, 3) := by decide +kernel
theorem dX6_ofClient_13 : decode cX6_ofClient 13 = .ok (.dup, 1) := by decide +kernel
theorem dX6_ofClient_14 : decode cX6_ofClient 14 = .ok (.ldc 173, 2) := by decide +kernel
theorem dX6_ofClient_16 : decode cX6_ofClient 16 = .ok (.invokespecial 63, 3) := by decide +kernel
theorem dX6_ofClient_19 : decode cX6_ofClient 19 = .ok (.athrow, 1) := by decide +kernel
theorem dX6_ofClient_20 : decode cX6_ofClient 20 = .ok (.iload_n 2, 1) := by decide +kernel
theorem dX6_ofClient_21 : decode cX6_ofClient 21 = .ok (.ifCond .lt 9, 3) := by decide +kernel
theorem dX6_ofClient_24 : decode cX6_ofClient 24 = .ok (.iload_n 2, 1) := by decide +kernel
theorem dX6_ofClient_25 : decode cX6_ofClient 25 = .ok (.bipush 8, 2) := by decide +kernel
theorem dX6_ofClient_27 : decode cX6_ofClient 27 = .ok (.if_icmp .le 13, 3) := by decide +kernel
theorem dX6_ofClient_30 : decode cX6_ofClient 30 = .ok (.new 68, 3) := by decide +kernel
theorem dX6_ofClient_33 : decode cX6_ofClient 33 = .ok (.dup, 1) := by decide +kernel
theorem dX6_ofClient_34 : decode cX6_ofClient 34 = .ok (.ldc 175, 2) := by decide +kernel
theorem dX6_ofClient_36 : decode cX6_ofClient 36 = .ok (.invokespecial 72, 3) := by decide +kernel
theorem dX6_ofClient_39 : decode cX6_ofClient 39 = .ok (.athrow, 1) := by decide +kernel
theorem dX6_ofClient_40 : decode cX6_ofClient 40 = .ok (.aload_n 0, 1) := by decide +kernel
theorem dX6_ofClient_41 : decode cX6_ofClient 41 = .ok (.aload_n 3, 1) := by decide +kernel
theorem dX6_ofClient_42 : decode cX6_ofClient 42 = .ok (.iload_n 2, 1) := by decide +kernel
theorem dX6_ofClient_43 : decode cX6_ofClient 43 = .ok (.invokevirtual 177, 3) := by decide +kernel
theorem dX6_ofClient_46 : decode cX6_ofClient 46 = .ok (.ireturn, 1) := by decide +kernel
theorem dX6_call_0 : decode cX6_call 0 = .ok (.aload_n 0, 1) := by decide +kernel
theorem dX6_call_1 : decode cX6_call 1 = .ok (.iload_n 1, 1) := by decide +kernel
theorem dX6_call_2 : decode cX6_call 2 = .ok (.invokevirtual 137, 3) := by decide +kernel
theorem dX6_call_5 : decode cX6_call 5 = .ok (.astore_n 3, 1) := by decide +kernel
theorem dX6_call_6 : decode cX6_call 6 = .ok (.aload_n 3, 1) := by decide +kernel
theorem dX6_call_7 : decode cX6_call 7 = .ok (.ifnonnull 13, 3) := by decide +kernel
theorem dX6_call_10 : decode cX6_call 10 = .ok (.new 59, 3) := by decide +kernel
theorem dX6_call_13 : decode cX6_call 13 = .ok (.dup, 1) := by decide +kernel
theorem dX6_call_14 : decode cX6_call 14 = .ok (.ldc 173, 2) := by decide +kernel
theorem dX6_call_16 : decode cX6_call 16 = .ok (.invokespecial 63, 3) := by decide +kernel
theorem dX6_call_19 : decode cX6_call 19 = .ok (.athrow, 1) := by decide +kernel
theorem dX6_call_20 : decode cX6_call 20 = .ok (.iload_n 2, 1) := by decide +kernel
theorem dX6_call_21 : decode cX6_call 21 = .ok (.iconst 1, 1) := by decide +kernel
theorem dX6_call_22 : decode cX6_call 22 = .ok (.if_icmp .lt 9, 3) := by decide +kernel
theorem dX6_call_25 : decode cX6_call 25 = .ok (.iload_n 2, 1) := by decide +kernel
theorem dX6_call_26 : decode cX6_call 26 = .ok (.bipush 20, 2) := by decide +kernel
theorem dX6_call_28 : decode cX6_call 28 = .ok (.if_icmp .le 13, 3) := by decide +kernel
theorem dX6_call_31 : decode cX6_call 31 = .ok (.new 68, 3) := by decide +kernel
theorem dX6_call_34 : decode cX6_call 34 = .ok (.dup, 1) := by decide +kernel
theorem dX6_call_35 : decode cX6_call 35 = .ok (.ldc 194, 2) := by decide +kernel
theorem dX6_call_37 : decode cX6_call 37 = .ok (.invokespecial 72, 3) := by decide +kernel
theorem dX6_call_40 : decode cX6_call 40 = .ok (.athrow, 1) := by decide +kernel
theorem dX6_call_41 : decode cX6_call 41 = .ok (.iconst 0, 1) := by decide +kernel
theorem dX6_call_42 : decode cX6_call 42 = .ok (.istore 4, 2) := by decide +kernel
theorem dX6_call_44 : decode cX6_call 44 = .ok (.iconst 0, 1) := by decide +kernel
theorem dX6_call_45 : decode cX6_call 45 = .ok (.istore 5, 2) := by decide +kernel
theorem dX6_call_47 : decode cX6_call 47 = .ok (.iload 5, 2) := by decide +kernel
theorem dX6_call_49 : decode cX6_call 49 = .ok (.iload_n 2, 1) := by decide +kernel
theorem dX6_call_50 : decode cX6_call 50 = .ok (.if_icmp .ge 20, 3) := by decide +kernel
theorem dX6_call_53 : decode cX6_call 53 = .ok (.aload_n 0, 1) := by decide +kernel
theorem dX6_call_54 : decode cX6_call 54 = .ok (.aload_n 3, 1) := by decide +kernel
theorem dX6_call_55 : decode cX6_call 55 = .ok (.invokevirtual 196, 3) := by decide +kernel
theorem dX6_call_58 : decode cX6_call 58 = .ok (.ifCond .eq 6, 3) := by decide +kernel
theorem dX6_call_61 : decode cX6_call 61 = .ok (.iinc 4 1, 3) := by decide +kernel
theorem dX6_call_64 : decode cX6_call 64 = .ok (.iinc 5 1, 3) := by decide +kernel
theorem dX6_call_67 : decode cX6_call 67 = .ok (.goto (-20), 3) := by decide +kernel
theorem dX6_call_70 : decode cX6_call 70 = .ok (.iload 4, 2) := by decide +kernel
theorem dX6_call_72 : decode cX6_call 72 = .ok (.ireturn, 1) := by decide +kernel
theorem dX6_pass_0 : decode cX6_pass 0 = .ok (.iload_n 1, 1) := by decide +kernel
theorem dX6_pass_1 : decode cX6_pass 1 = .ok (.iconst 1, 1) := by decide +kernel
theorem dX6_pass_2 : decode cX6_pass 2 = .ok (.if_icmp .lt 9, 3) := by decide +kernel
theorem dX6_pass_5 : decode cX6_pass 5 = .ok (.iload_n 1, 1) := by decide +kernel
theorem dX6_pass_6 : decode cX6_pass 6 = .ok (.bipush 100, 2) := by decide +kernel
theorem dX6_pass_8 : decode cX6_pass 8 = .ok (.if_icmp .le 13, 3) := by decide +kernel
theorem dX6_pass_11 : decode cX6_pass 11 = .ok (.new 68, 3) := by decide +kernel
theorem dX6_pass_14 : decode cX6_pass 14 = .ok (.dup, 1) := by decide +kernel
theorem dX6_pass_15 : decode cX6_pass 15 = .ok (.ldc 199, 2) := by decide +kernel
theorem dX6_pass_17 : decode cX6_pass 17 = .ok (.invokespecial 72, 3) := by decide +kernel
theorem dX6_pass_20 : decode cX6_pass 20 = .ok (.athrow, 1) := by decide +kernel
theorem dX6_pass_21 : decode cX6_pass 21 = .ok (.iconst 0, 1) := by decide +kernel
theorem dX6_pass_22 : decode cX6_pass 22 = .ok (.istore_n 2, 1) := by decide +kernel
theorem dX6_pass_23 : decode cX6_pass 23 = .ok (.iconst 0, 1) := by decide +kernel
theorem dX6_pass_24 : decode cX6_pass 24 = .ok (.istore_n 3, 1) := by decide +kernel
theorem dX6_pass_25 : decode cX6_pass 25 = .ok (.iload_n 3, 1) := by decide +kernel
theorem dX6_pass_26 : decode cX6_pass 26 = .ok (.iload_n 1, 1) := by decide +kernel
theorem dX6_pass_27 : decode cX6_pass 27 = .ok (.if_icmp .ge 16, 3) := by decide +kernel
theorem dX6_pass_30 : decode cX6_pass 30 = .ok (.iload_n 2, 1) := by decide +kernel
theorem dX6_pass_31 : decode cX6_pass 31 = .ok (.aload_n 0, 1) := by decide +kernel
theorem dX6_pass_32 : decode cX6_pass 32 = .ok (.invokevirtual 201, 3) := by decide +kernel
theorem dX6_pass_35 : decode cX6_pass 35 = .ok (.iadd, 1) := by decide +kernel
theorem dX6_pass_36 : decode cX6_pass 36 = .ok (.istore_n 2, 1) := by decide +kernel
theorem dX6_pass_37 : decode cX6_pass 37 = .ok (.iinc 3 1, 3) := by decide +kernel
theorem dX6_pass_40 : decode cX6_pass 40 = .ok (.goto (-15), 3) := by decide +kernel
theorem dX6_pass_43 : decode cX6_pass 43 = .ok (.iload_n 2, 1) := by decide +kernel
theorem dX6_pass_44 : decode cX6_pass 44 = .ok (.ireturn, 1) := by decide +kernel
theorem dX6_lastCall_0 : decode cX6_lastCall 0 = .ok (.aload_n 0, 1) := by decide +kernel
theorem dX6_lastCall_1 : decode cX6_lastCall 1 = .ok (.iload_n 1, 1) := by decide +kernel
theorem dX6_lastCall_2 : decode cX6_lastCall 2 = .ok (.invokevirtual 137, 3) := by decide +kernel
theorem dX6_lastCall_5 : decode cX6_lastCall 5 = .ok (.astore_n 3, 1) := by decide +kernel
theorem dX6_lastCall_6 : decode cX6_lastCall 6 = .ok (.aload_n 3, 1) := by decide +kernel
theorem dX6_lastCall_7 : decode cX6_lastCall 7 = .ok (.ifnonnull 7, 3) := by decide +kernel
theorem dX6_lastCall_10 : decode cX6_lastCall 10 = .ok (.aconst_null, 1) := by decide +kernel
theorem dX6_lastCall_11 : decode cX6_lastCall 11 = .ok (.goto 11, 3) := by decide +kernel
theorem dX6_lastCall_14 : decode cX6_lastCall 14 = .ok (.aload_n 3, 1) := by decide +kernel
theorem dX6_lastCall_15 : decode cX6_lastCall 15 = .ok (.getfield 141, 3) := by decide +kernel
theorem dX6_lastCall_18 : decode cX6_lastCall 18 = .ok (.iload_n 2, 1) := by decide +kernel
theorem dX6_lastCall_19 : decode cX6_lastCall 19 = .ok (.invokevirtual 145, 3) := by decide +kernel
theorem dX6_lastCall_22 : decode cX6_lastCall 22 = .ok (.astore 4, 2) := by decide +kernel
theorem dX6_lastCall_24 : decode cX6_lastCall 24 = .ok (.aload_n 3, 1) := by decide +kernel
theorem dX6_lastCall_25 : decode cX6_lastCall 25 = .ok (.ifnull 8, 3) := by decide +kernel
theorem dX6_lastCall_28 : decode cX6_lastCall 28 = .ok (.aload 4, 2) := by decide +kernel
theorem dX6_lastCall_30 : decode cX6_lastCall 30 = .ok (.ifnonnull 13, 3) := by decide +kernel
theorem dX6_lastCall_33 : decode cX6_lastCall 33 = .ok (.new 59, 3) := by decide +kernel
theorem dX6_lastCall_36 : decode cX6_lastCall 36 = .ok (.dup, 1) := by decide +kernel
theorem dX6_lastCall_37 : decode cX6_lastCall 37 = .ok (.ldc 148, 2) := by decide +kernel
theorem dX6_lastCall_39 : decode cX6_lastCall 39 = .ok (.invokespecial 63, 3) := by decide +kernel
theorem dX6_lastCall_42 : decode cX6_lastCall 42 = .ok (.athrow, 1) := by decide +kernel
theorem dX6_lastCall_43 : decode cX6_lastCall 43 = .ok (.aload_n 0, 1) := by decide +kernel
theorem dX6_lastCall_44 : decode cX6_lastCall 44 = .ok (.aload_n 3, 1) := by decide +kernel
theorem dX6_lastCall_45 : decode cX6_lastCall 45 = .ok (.aload 4, 2) := by decide +kernel
theorem dX6_lastCall_47 : decode cX6_lastCall 47 = .ok (.invokevirtual 205, 3) := by decide +kernel
theorem dX6_lastCall_50 : decode cX6_lastCall 50 = .ok (.ireturn, 1) := by decide +kernel
