theorem dX6_countOf_0 : decode cX6_countOf 0 = .ok (.iload_n 1, 1) := by decide +kernel
theorem dX6_countOf_1 : decode cX6_countOf 1 = .ok (.tableswitch 121 0 9 #[55, 60, 78, 84, 90, 96, 101, 106, 111, 116], 55) := by decide +kernel
theorem dX6_countOf_56 : decode cX6_countOf 56 = .ok (.aload_n 0, 1) := by decide +kernel
theorem dX6_countOf_57 : decode cX6_countOf 57 = .ok (.getfield 41, 3) := by decide +kernel
theorem dX6_countOf_60 : decode cX6_countOf 60 = .ok (.ireturn, 1) := by decide +kernel
theorem dX6_countOf_61 : decode cX6_countOf 61 = .ok (.aload_n 0, 1) := by decide +kernel
theorem dX6_countOf_62 : decode cX6_countOf 62 = .ok (.iconst 0, 1) := by decide +kernel
theorem dX6_countOf_63 : decode cX6_countOf 63 = .ok (.invokevirtual 317, 3) := by decide +kernel
theorem dX6_countOf_66 : decode cX6_countOf 66 = .ok (.aload_n 0, 1) := by decide +kernel
theorem dX6_countOf_67 : decode cX6_countOf 67 = .ok (.iconst 1, 1) := by decide +kernel
theorem dX6_countOf_68 : decode cX6_countOf 68 = .ok (.invokevirtual 317, 3) := by decide +kernel
theorem dX6_countOf_71 : decode cX6_countOf 71 = .ok (.iadd, 1) := by decide +kernel
theorem dX6_countOf_72 : decode cX6_countOf 72 = .ok (.aload_n 0, 1) := by decide +kernel
theorem dX6_countOf_73 : decode cX6_countOf 73 = .ok (.iconst 2, 1) := by decide +kernel
theorem dX6_countOf_74 : decode cX6_countOf 74 = .ok (.invokevirtual 317, 3) := by decide +kernel
theorem dX6_countOf_77 : decode cX6_countOf 77 = .ok (.iadd, 1) := by decide +kernel
theorem dX6_countOf_78 : decode cX6_countOf 78 = .ok (.ireturn, 1) := by decide +kernel
theorem dX6_countOf_79 : decode cX6_countOf 79 = .ok (.aload_n 0, 1) := by decide +kernel
theorem dX6_countOf_80 : decode cX6_countOf 80 = .ok (.iconst 0, 1) := by decide +kernel
theorem dX6_countOf_81 : decode cX6_countOf 81 = .ok (.invokevirtual 317, 3) := by decide +kernel
theorem dX6_countOf_84 : decode cX6_countOf 84 = .ok (.ireturn, 1) := by decide +kernel
theorem dX6_countOf_85 : decode cX6_countOf 85 = .ok (.aload_n 0, 1) := by decide +kernel
theorem dX6_countOf_86 : decode cX6_countOf 86 = .ok (.iconst 1, 1) := by decide +kernel
theorem dX6_countOf_87 : decode cX6_countOf 87 = .ok (.invokevirtual 317, 3) := by decide +kernel
theorem dX6_countOf_90 : decode cX6_countOf 90 = .ok (.ireturn, 1) := by decide +kernel
theorem dX6_countOf_91 : decode cX6_countOf 91 = .ok (.aload_n 0, 1) := by decide +kernel
theorem dX6_countOf_92 : decode cX6_countOf 92 = .ok (.iconst 2, 1) := by decide +kernel
theorem dX6_countOf_93 : decode cX6_countOf 93 = .ok (.invokevirtual 317, 3) := by decide +kernel
theorem dX6_countOf_96 : decode cX6_countOf 96 = .ok (.ireturn, 1) := by decide +kernel
theorem dX6_countOf_97 : decode cX6_countOf 97 = .ok (.aload_n 0, 1) := by decide +kernel
theorem dX6_countOf_98 : decode cX6_countOf 98 = .ok (.getfield 126, 3) := by decide +kernel
theorem dX6_countOf_101 : decode cX6_countOf 101 = .ok (.ireturn, 1) := by decide +kernel
theorem dX6_countOf_102 : decode cX6_countOf 102 = .ok (.aload_n 0, 1) := by decide +kernel
theorem dX6_countOf_103 : decode cX6_countOf 103 = .ok (.getfield 165, 3) := by decide +kernel
theorem dX6_countOf_106 : decode cX6_countOf 106 = .ok (.ireturn, 1) := by decide +kernel
theorem dX6_countOf_107 : decode cX6_countOf 107 = .ok (.aload_n 0, 1) := by decide +kernel
theorem dX6_countOf_108 : decode cX6_countOf 108 = .ok (.getfield 249, 3) := by decide +kernel
theorem dX6_countOf_111 : decode cX6_countOf 111 = .ok (.ireturn, 1) := by decide +kernel
theorem dX6_countOf_112 : decode cX6_countOf 112 = .ok (.aload_n 0, 1) := by decide +kernel
theorem dX6_countOf_113 : decode cX6_countOf 113 = .ok (.getfield 252, 3) := by decide +kernel
theorem dX6_countOf_116 : decode cX6_countOf 116 = .ok (.ireturn, 1) := by decide +kernel
theorem dX6_countOf_117 : decode cX6_countOf 117 = .ok (.aload_n 0, 1) := by decide +kernel
theorem dX6_countOf_118 : decode cX6_countOf 118 = .ok (.getfield 320, 3) := by decide +kernel
theorem dX6_countOf_121 : decode cX6_countOf 121 = .ok (.ireturn, 1) := by decide +kernel
theorem dX6_countOf_122 : decode cX6_countOf 122 = .ok (.aload_n 0, 1) := by decide +kernel
theorem dX6_countOf_123 : decode cX6_countOf 123 = .ok (.getfield 225, 3) := by decide +kernel
theorem dX6_countOf_126 : decode cX6_countOf 126 = .ok (.ireturn, 1) := by decide +kernel
theorem dX6_countVersions_0 : decode cX6_countVersions 0 = .ok (.iconst 0, 1) := by decide +kernel
theorem dX6_countVersions_1 : decode cX6_countVersions 1 = .ok (.istore_n 2, 1) := by decide +kernel
theorem dX6_countVersions_2 : decode cX6_countVersions 2 = .ok (.iconst 0, 1) := by decide +kernel
theorem dX6_countVersions_3 : decode cX6_countVersions 3 = .ok (.istore_n 3, 1) := by decide +kernel
theorem dX6_countVersions_4 : decode cX6_countVersions 4 = .ok (.iload_n 3, 1) := by decide +kernel
theorem dX6_countVersions_5 : decode cX6_countVersions 5 = .ok (.iconst 4, 1) := by decide +kernel
theorem dX6_countVersions_6 : decode cX6_countVersions 6 = .ok (.if_icmp .ge 51, 3) := by decide +kernel
theorem dX6_countVersions_9 : decode cX6_countVersions 9 = .ok (.iconst 0, 1) := by decide +kernel
theorem dX6_countVersions_10 : decode cX6_countVersions 10 = .ok (.istore 4, 2) := by decide +kernel
theorem dX6_countVersions_12 : decode cX6_countVersions 12 = .ok (.iload 4, 2) := by decide +kernel
theorem dX6_countVersions_14 : decode cX6_countVersions 14 = .ok (.bipush 6, 2) := by decide +kernel
theorem dX6_countVersions_16 : decode cX6_countVersions 16 = .ok (.if_icmp .ge 35, 3) := by decide +kernel
theorem dX6_countVersions_19 : decode cX6_countVersions 19 = .ok (.aload_n 0, 1) := by decide +kernel
theorem dX6_countVersions_20 : decode cX6_countVersions 20 = .ok (.iload_n 3, 1) := by decide +kernel
theorem dX6_countVersions_21 : decode cX6_countVersions 21 = .ok (.iload 4, 2) := by decide +kernel
theorem dX6_countVersions_23 : decode cX6_countVersions 23 = .ok (.invokevirtual 91, 3) := by decide +kernel
theorem dX6_countVersions_26 : decode cX6_countVersions 26 = .ok (.astore 5, 2) := by decide +kernel
theorem dX6_countVersions_28 : decode cX6_countVersions 28 = .ok (.aload 5, 2) := by decide +kernel
theorem dX6_countVersions_30 : decode cX6_countVersions 30 = .ok (.ifnull 15, 3) := by decide +kernel
theorem dX6_countVersions_33 : decode cX6_countVersions 33 = .ok (.aload 5, 2) := by decide +kernel
theorem dX6_countVersions_35 : decode cX6_countVersions 35 = .ok (.getfield 129, 3) := by decide +kernel
theorem dX6_countVersions_38 : decode cX6_countVersions 38 = .ok (.iload_n 1, 1) := by decide +kernel
theorem dX6_countVersions_39 : decode cX6_countVersions 39 = .ok (.if_icmp .ne 6, 3) := by decide +kernel
theorem dX6_countVersions_42 : decode cX6_countVersions 42 = .ok (.iinc 2 1, 3) := by decide +kernel
theorem dX6_countVersions_45 : decode cX6_countVersions 45 = .ok (.iinc 4 1, 3) := by decide +kernel
theorem dX6_countVersions_48 : decode cX6_countVersions 48 = .ok (.goto (-36), 3) := by decide +kernel
theorem dX6_countVersions_51 : decode cX6_countVersions 51 = .ok (.iinc 3 1, 3) := by decide +kernel
theorem dX6_countVersions_54 : decode cX6_countVersions 54 = .ok (.goto (-50), 3) := by decide +kernel
theorem dX6_countVersions_57 : decode cX6_countVersions 57 = .ok (.iload_n 2, 1) := by decide +kernel
theorem dX6_countVersions_58 : decode cX6_countVersions 58 = .ok (.ireturn, 1) := by decide +kernel
theorem dX6_countCallers_0 : decode cX6_countCallers 0 = .ok (.iconst 0, 1) := by decide +kernel
theorem dX6_countCallers_1 : decode cX6_countCallers 1 = .ok (.istore_n 2, 1) := by decide +kernel
theorem dX6_countCallers_2 : decode cX6_countCallers 2 = .ok (.iconst 0, 1) := by decide +kernel
theorem dX6_countCallers_3 : decode cX6_countCallers 3 = .ok (.istore_n 3, 1) := by decide +kernel
theorem dX6_countCallers_4 : decode cX6_countCallers 4 = .ok (.iload_n 3, 1) := by decide +kernel
theorem dX6_countCallers_5 : decode cX6_countCallers 5 = .ok (.aload_n 0, 1) := by decide +kernel
theorem dX6_countCallers_6 : decode cX6_countCallers 6 = .ok (.getfield 17, 3) := by decide +kernel
theorem dX6_countCallers_9 : decode cX6_countCallers 9 = .ok (.arraylength, 1) := by decide +kernel
theorem dX6_countCallers_10 : decode cX6_countCallers 10 = .ok (.if_icmp .ge 38, 3) := by decide +kernel
theorem dX6_countCallers_13 : decode cX6_countCallers 13 = .ok (.aload_n 0, 1) := by decide +kernel
theorem dX6_countCallers_14 : decode cX6_countCallers 14 = .ok (.getfield 17, 3) := by decide +kernel
theorem dX6_countCallers_17 : decode cX6_countCallers 17 = .ok (.iload_n 3, 1) := by decide +kernel
theorem dX6_countCallers_18 : decode cX6_countCallers 18 = .ok (.aaload, 1) := by decide +kernel
theorem dX6_countCallers_19 : decode cX6_countCallers 19 = .ok (.astore 4, 2) := by decide +kernel
theorem dX6_countCallers_21 : decode cX6_countCallers 21 = .ok (.aload 4, 2) := by decide +kernel
theorem dX6_countCallers_23 : decode cX6_countCallers 23 = .ok (.ifnull 19, 3) := by decide +kernel
theorem dX6_countCallers_26 : decode cX6_countCallers 26 = .ok (.aload 4, 2) := by decide +kernel
theorem dX6_countCallers_28 : decode cX6_countCallers 28 = .ok (.aload_n 1, 1) := by decide +kernel
theorem dX6_countCallers_29 : decode cX6_countCallers 29 = .ok (.aload_n 0, 1) := by decide +kernel
theorem dX6_countCallers_30 : decode cX6_countCallers 30 = .ok (.getfield 225, 3) := by decide +kernel
theorem dX6_countCallers_33 : decode cX6_countCallers 33 = .ok (.invokevirtual 323, 3) := by decide +kernel
theorem dX6_countCallers_36 : decode cX6_countCallers 36 = .ok (.ifCond .eq 6, 3) := by decide +kernel
theorem dX6_countCallers_39 : decode cX6_countCallers 39 = .ok (.iinc 2 1, 3) := by decide +kernel
theorem dX6_countCallers_42 : decode cX6_countCallers 42 = .ok (.iinc 3 1, 3) := by decide +kernel
theorem dX6_countCallers_45 : decode cX6_countCallers 45 = .ok (.goto (-41), 3) := by decide +kernel
theorem dX6_countCallers_48 : decode cX6_countCallers 48 = .ok (.iload_n 2, 1) := by decide +kernel
theorem dX6_countCallers_49 : decode cX6_countCallers 49 = .ok (.ireturn, 1) := by decide +kernel
theorem dX6_countGeneratedFor_0 : decode cX6_countGeneratedFor 0 = .ok (.iconst 0, 1) := by decide +kernel
theorem dX6_countGeneratedFor_1 : decode cX6_countGeneratedFor 1 = .ok (.istore_n 2, 1) := by decide +kernel
theorem dX6_countGeneratedFor_2 : decode cX6_countGeneratedFor 2 = .ok (.iconst 0, 1) := by decide +kernel
theorem dX6_countGeneratedFor_3 : decode cX6_countGeneratedFor 3 = .ok (.istore_n 3, 1) := by decide +kernel
theorem dX6_countGeneratedFor_4 : decode cX6_countGeneratedFor 4 = .ok (.iload_n 3, 1) := by decide +kernel
theorem dX6_countGeneratedFor_5 : decode cX6_countGeneratedFor 5 = .ok (.aload_n 0, 1) := by decide +kernel
theorem dX6_countGeneratedFor_6 : decode cX6_countGeneratedFor 6 = .ok (.getfield 17, 3) := by decide +kernel
theorem dX6_countGeneratedFor_9 : decode cX6_countGeneratedFor 9 = .ok (.arraylength, 1) := by decide +kernel
theorem dX6_countGeneratedFor_10 : decode cX6_countGeneratedFor 10 = .ok (.if_icmp .ge 34, 3) := by decide +kernel
theorem dX6_countGeneratedFor_13 : decode cX6_countGeneratedFor 13 = .ok (.aload_n 0, 1) := by decide +kernel
theorem dX6_countGeneratedFor_14 : decode cX6_countGeneratedFor 14 = .ok (.getfield 17, 3) := by decide +kernel
theorem dX6_countGeneratedFor_17 : decode cX6_countGeneratedFor 17 = .ok (.iload_n 3, 1) := by decide +kernel
theorem dX6_countGeneratedFor_18 : decode cX6_countGeneratedFor 18 = .ok (.aaload, 1) := by decide +kernel
theorem dX6_countGeneratedFor_19 : decode cX6_countGeneratedFor 19 = .ok (.astore 4, 2) := by decide +kernel
theorem dX6_countGeneratedFor_21 : decode cX6_countGeneratedFor 21 = .ok (.aload 4, 2) := by decide +kernel
theorem dX6_countGeneratedFor_23 : decode cX6_countGeneratedFor 23 = .ok (.ifnull 15, 3) := by decide +kernel
theorem dX6_countGeneratedFor_26 : decode cX6_countGeneratedFor 26 = .ok (.aload 4, 2) := by decide +kernel
theorem dX6_countGeneratedFor_28 : decode cX6_countGeneratedFor 28 = .ok (.getfield 159, 3) := by decide +kernel
theorem dX6_countGeneratedFor_31 : decode cX6_countGeneratedFor 31 = .ok (.aload_n 1, 1) := by decide +kernel
theorem dX6_countGeneratedFor_32 : decode cX6_countGeneratedFor 32 = .ok (.if_acmp .ne 6, 3) := by decide +kernel
theorem dX6_countGeneratedFor_35 : decode cX6_countGeneratedFor 35 = .ok (.iinc 2 1, 3) := by decide +kernel
theorem dX6_countGeneratedFor_38 : decode cX6_countGeneratedFor 38 = .ok (.iinc 3 1, 3) := by decide +kernel
theorem dX6_countGeneratedFor_41 : decode cX6_countGeneratedFor 41 = .ok (.goto (-37), 3) := by decide +kernel
theorem dX6_countGeneratedFor_44 : decode cX6_countGeneratedFor 44 = .ok (.iload_n 2, 1) := by decide +kernel
theorem dX6_countGeneratedFor_45 : decode cX6_countGeneratedFor 45 = .ok (.ireturn, 1) := by decide +kernel
theorem dX6_hoursSinceCall_0 : decode cX6_hoursSinceCall 0 = .ok (.aload_n 1, 1) := by decide +kernel
theorem dX6_hoursSinceCall_1 : decode cX6_hoursSinceCall 1 = .ok (.aload_n 2, 1) := by decide +kernel
theorem dX6_hoursSinceCall_2 : decode cX6_hoursSinceCall 2 = .ok (.invokevirtual 327, 3) := by decide +kernel
theorem dX6_hoursSinceCall_5 : decode cX6_hoursSinceCall 5 = .ok (.istore_n 3, 1) := by decide +kernel
theorem dX6_hoursSinceCall_6 : decode cX6_hoursSinceCall 6 = .ok (.iload_n 3, 1) := by decide +kernel
theorem dX6_hoursSinceCall_7 : decode cX6_hoursSinceCall 7 = .ok (.iconst (-1), 1) := by decide +kernel
theorem dX6_hoursSinceCall_8 : decode cX6_hoursSinceCall 8 = .ok (.if_icmp .ne 7, 3) := by decide +kernel
theorem dX6_hoursSinceCall_11 : decode cX6_hoursSinceCall 11 = .ok (.iconst (-1), 1) := by decide +kernel
theorem dX6_hoursSinceCall_12 : decode cX6_hoursSinceCall 12 = .ok (.goto 9, 3) := by decide +kernel
theorem dX6_hoursSinceCall_15 : decode cX6_hoursSinceCall 15 = .ok (.aload_n 0, 1) := by decide +kernel
theorem dX6_hoursSinceCall_16 : decode cX6_hoursSinceCall 16 = .ok (.getfield 225, 3) := by decide +kernel
theorem dX6_hoursSinceCall_19 : decode cX6_hoursSinceCall 19 = .ok (.iload_n 3, 1) := by decide +kernel
theorem dX6_hoursSinceCall_20 : decode cX6_hoursSinceCall 20 = .ok (.isub, 1) := by decide +kernel
theorem dX6_hoursSinceCall_21 : decode cX6_hoursSinceCall 21 = .ok (.ireturn, 1) := by decide +kernel
theorem dX6_askedState_0 : decode cX6_askedState 0 = .ok (.aload_n 2, 1) := by decide +kernel
theorem dX6_askedState_1 : decode cX6_askedState 1 = .ok (.getfield 211, 3) := by decide +kernel
theorem dX6_askedState_4 : decode cX6_askedState 4 = .ok (.astore_n 3, 1) := by decide +kernel
theorem dX6_askedState_5 : decode cX6_askedState 5 = .ok (.aload_n 2, 1) := by decide +kernel
theorem dX6_askedState_6 : decode cX6_askedState 6 = .ok (.getfield 129, 3) := by decide +kernel
theorem dX6_askedState_9 : decode cX6_askedState 9 = .ok (.iconst 1, 1) := by decide +kernel
theorem dX6_askedState_10 : decode cX6_askedState 10 = .ok (.if_icmp .ne 12, 3) := by decide +kernel
theorem dX6_askedState_13 : decode cX6_askedState 13 = .ok (.aload_n 3, 1) := by decide +kernel
theorem dX6_askedState_14 : decode cX6_askedState 14 = .ok (.iload_n 1, 1) := by decide +kernel
theorem dX6_askedState_15 : decode cX6_askedState 15 = .ok (.invokevirtual 220, 3) := by decide +kernel
theorem dX6_askedState_18 : decode cX6_askedState 18 = .ok (.iconst (-1), 1) := by decide +kernel
theorem dX6_askedState_19 : decode cX6_askedState 19 = .ok (.if_icmp .ne 5, 3) := by decide +kernel
theorem dX6_askedState_22 : decode cX6_askedState 22 = .ok (.iconst 0, 1) := by decide +kernel
theorem dX6_askedState_23 : decode cX6_askedState 23 = .ok (.ireturn, 1) := by decide +kernel
theorem dX6_askedState_24 : decode cX6_askedState 24 = .ok (.aload_n 3, 1) := by decide +kernel
theorem dX6_askedState_25 : decode cX6_askedState 25 = .ok (.iload_n 1, 1) := by decide +kernel
theorem dX6_askedState_26 : decode cX6_askedState 26 = .ok (.invokevirtual 330, 3) := by decide +kernel
theorem dX6_askedState_29 : decode cX6_askedState 29 = .ok (.ifCond .eq 5, 3) := by decide +kernel
theorem dX6_askedState_32 : decode cX6_askedState 32 = .ok (.iconst 3, 1) := by decide +kernel
theorem dX6_askedState_33 : decode cX6_askedState 33 = .ok (.ireturn, 1) := by decide +kernel
theorem dX6_askedState_34 : decode cX6_askedState 34 = .ok (.aload_n 3, 1) := by decide +kernel
theorem dX6_askedState_35 : decode cX6_askedState 35 = .ok (.iload_n 1, 1) := by decide +kernel
theorem dX6_askedState_36 : decode cX6_askedState 36 = .ok (.aload_n 0, 1) := by decide +kernel
theorem dX6_askedState_37 : decode cX6_askedState 37 = .ok (.getfield 225, 3) := by decide +kernel
theorem dX6_askedState_40 : decode cX6_askedState 40 = .ok (.invokevirtual 228, 3) := by decide +kernel
theorem dX6_askedState_43 : decode cX6_askedState 43 = .ok (.ifCond .eq 7, 3) := by decide +kernel
theorem dX6_askedState_46 : decode cX6_askedState 46 = .ok (.iconst 2, 1) := by decide +kernel
theorem dX6_askedState_47 : decode cX6_askedState 47 = .ok (.goto 4, 3) := by decide +kernel
theorem dX6_askedState_50 : decode cX6_askedState 50 = .ok (.iconst 1, 1) := by decide +kernel
theorem dX6_askedState_51 : decode cX6_askedState 51 = .ok (.ireturn, 1) := by decide +kernel
theorem dX6_nearestOpen_0 : decode cX6_nearestOpen 0 = .ok (.iconst (-1), 1) := by decide +kernel
theorem dX6_nearestOpen_1 : decode cX6_nearestOpen 1 = .ok (.istore_n 2, 1) := by decide +kernel
theorem dX6_nearestOpen_2 : decode cX6_nearestOpen 2 = .ok (.iconst 0, 1) := by decide +kernel
theorem dX6_nearestOpen_3 : decode cX6_nearestOpen 3 = .ok (.istore_n 3, 1) := by decide +kernel
theorem dX6_nearestOpen_4 : decode cX6_nearestOpen 4 = .ok (.iconst 0, 1) := by decide +kernel
theorem dX6_nearestOpen_5 : decode cX6_nearestOpen 5 = .ok (.istore 4, 2) := by decide +kernel
theorem dX6_nearestOpen_7 : decode cX6_nearestOpen 7 = .ok (.iload 4, 2) := by decide +kernel
theorem dX6_nearestOpen_9 : decode cX6_nearestOpen 9 = .ok (.bipush 6, 2) := by decide +kernel
theorem dX6_nearestOpen_11 : decode cX6_nearestOpen 11 = .ok (.if_icmp .ge 69, 3) := by decide +kernel
theorem dX6_nearestOpen_14 : decode cX6_nearestOpen 14 = .ok (.aload_n 1, 1) := by decide +kernel
theorem dX6_nearestOpen_15 : decode cX6_nearestOpen 15 = .ok (.getfield 141, 3) := by decide +kernel
theorem dX6_nearestOpen_18 : decode cX6_nearestOpen 18 = .ok (.iload 4, 2) := by decide +kernel
theorem dX6_nearestOpen_20 : decode cX6_nearestOpen 20 = .ok (.invokevirtual 145, 3) := by decide +kernel
theorem dX6_nearestOpen_23 : decode cX6_nearestOpen 23 = .ok (.astore 5, 2) := by decide +kernel
theorem dX6_nearestOpen_25 : decode cX6_nearestOpen 25 = .ok (.aload 5, 2) := by decide +kernel
theorem dX6_nearestOpen_27 : decode cX6_nearestOpen 27 = .ok (.ifnull 47, 3) := by decide +kernel
theorem dX6_nearestOpen_30 : decode cX6_nearestOpen 30 = .ok (.aload 5, 2) := by decide +kernel
theorem dX6_nearestOpen_32 : decode cX6_nearestOpen 32 = .ok (.getfield 129, 3) := by decide +kernel
theorem dX6_nearestOpen_35 : decode cX6_nearestOpen 35 = .ok (.ifCond .ne 39, 3) := by decide +kernel
theorem dX6_nearestOpen_38 : decode cX6_nearestOpen 38 = .ok (.aload 5, 2) := by decide +kernel
theorem dX6_nearestOpen_40 : decode cX6_nearestOpen 40 = .ok (.aload_n 1, 1) := by decide +kernel
theorem dX6_nearestOpen_41 : decode cX6_nearestOpen 41 = .ok (.getfield 152, 3) := by decide +kernel
theorem dX6_nearestOpen_44 : decode cX6_nearestOpen 44 = .ok (.invokevirtual 155, 3) := by decide +kernel
theorem dX6_nearestOpen_47 : decode cX6_nearestOpen 47 = .ok (.aload_n 1, 1) := by decide +kernel
theorem dX6_nearestOpen_48 : decode cX6_nearestOpen 48 = .ok (.getfield 152, 3) := by decide +kernel
theorem dX6_nearestOpen_51 : decode cX6_nearestOpen 51 = .ok (.ixor, 1) := by decide +kernel
theorem dX6_nearestOpen_52 : decode cX6_nearestOpen 52 = .ok (.invokestatic 333, 3) := by decide +kernel
theorem dX6_nearestOpen_55 : decode cX6_nearestOpen 55 = .ok (.istore 6, 2) := by decide +kernel
theorem dX6_nearestOpen_57 : decode cX6_nearestOpen 57 = .ok (.iload_n 2, 1) := by decide +kernel
theorem dX6_nearestOpen_58 : decode cX6_nearestOpen 58 = .ok (.iconst (-1), 1) := by decide +kernel
theorem dX6_nearestOpen_59 : decode cX6_nearestOpen 59 = .ok (.if_icmp .eq 9, 3) := by decide +kernel
theorem dX6_nearestOpen_62 : decode cX6_nearestOpen 62 = .ok (.iload 6, 2) := by decide +kernel
theorem dX6_nearestOpen_64 : decode cX6_nearestOpen 64 = .ok (.iload_n 3, 1) := by decide +kernel
theorem dX6_nearestOpen_65 : decode cX6_nearestOpen 65 = .ok (.if_icmp .gt 9, 3) := by decide +kernel
theorem dX6_nearestOpen_68 : decode cX6_nearestOpen 68 = .ok (.iload 4, 2) := by decide +kernel
theorem dX6_nearestOpen_70 : decode cX6_nearestOpen 70 = .ok (.istore_n 2, 1) := by decide +kernel
theorem dX6_nearestOpen_71 : decode cX6_nearestOpen 71 = .ok (.iload 6, 2) := by decide +kernel
theorem dX6_nearestOpen_73 : decode cX6_nearestOpen 73 = .ok (.istore_n 3, 1) := by decide +kernel
theorem dX6_nearestOpen_74 : decode cX6_nearestOpen 74 = .ok (.iinc 4 1, 3) := by decide +kernel
theorem dX6_nearestOpen_77 : decode cX6_nearestOpen 77 = .ok (.goto (-70), 3) := by decide +kernel
theorem dX6_nearestOpen_80 : decode cX6_nearestOpen 80 = .ok (.iload_n 2, 1) := by decide +kernel
theorem dX6_nearestOpen_81 : decode cX6_nearestOpen 81 = .ok (.ireturn, 1) := by decide +kernel
theorem dX6_findOwnRoute_0 : decode cX6_findOwnRoute 0 = .ok (.aload_n 0, 1) := by decide +kernel
theorem dX6_findOwnRoute_1 : decode cX6_findOwnRoute 1 = .ok (.aload_n 1, 1) := by decide +kernel
theorem dX6_findOwnRoute_2 : decode cX6_findOwnRoute 2 = .ok (.aload_n 1, 1) := by decide +kernel
theorem dX6_findOwnRoute_3 : decode cX6_findOwnRoute 3 = .ok (.getfield 159, 3) := by decide +kernel
theorem dX6_findOwnRoute_6 : decode cX6_findOwnRoute 6 = .ok (.aconst_null, 1) := by decide +kernel
theorem dX6_findOwnRoute_7 : decode cX6_findOwnRoute 7 = .ok (.invokevirtual 338, 3) := by decide +kernel
theorem dX6_findOwnRoute_10 : decode cX6_findOwnRoute 10 = .ok (.ireturn, 1) := by decide +kernel
theorem dX6_findRoute_0 : decode cX6_findRoute 0 = .ok (.aload_n 0, 1) := by decide +kernel
theorem dX6_findRoute_1 : decode cX6_findRoute 1 = .ok (.getfield 30, 3) := by decide +kernel
theorem dX6_findRoute_4 : decode cX6_findRoute 4 = .ok (.aload_n 3, 1) := by decide +kernel
theorem dX6_findRoute_5 : decode cX6_findRoute 5 = .ok (.putfield 342, 3) := by decide +kernel
theorem dX6_findRoute_8 : decode cX6_findRoute 8 = .ok (.iconst 1, 1) := by decide +kernel
theorem dX6_findRoute_9 : decode cX6_findRoute 9 = .ok (.istore 4, 2) := by decide +kernel
theorem dX6_findRoute_11 : decode cX6_findRoute 11 = .ok (.iload 4, 2) := by decide +kernel
theorem dX6_findRoute_13 : decode cX6_findRoute 13 = .ok (.iconst 3, 1) := by decide +kernel
theorem dX6_findRoute_14 : decode cX6_findRoute 14 = .ok (.if_icmp .gt 40, 3) := by decide +kernel
theorem dX6_findRoute_17 : decode cX6_findRoute 17 = .ok (.aload_n 0, 1) := by decide +kernel
theorem dX6_findRoute_18 : decode cX6_findRoute 18 = .ok (.getfield 30, 3) := by decide +kernel
theorem dX6_findRoute_21 : decode cX6_findRoute 21 = .ok (.iload 4, 2) := by decide +kernel
theorem dX6_findRoute_23 : decode cX6_findRoute 23 = .ok (.putfield 185, 3) := by decide +kernel
theorem dX6_findRoute_26 : decode cX6_findRoute 26 = .ok (.aload_n 0, 1) := by decide +kernel
theorem dX6_findRoute_27 : decode cX6_findRoute 27 = .ok (.getfield 30, 3) := by decide +kernel
theorem dX6_findRoute_30 : decode cX6_findRoute 30 = .ok (.aload_n 0, 1) := by decide +kernel
theorem dX6_findRoute_31 : decode cX6_findRoute 31 = .ok (.getfield 23, 3) := by decide +kernel
theorem dX6_findRoute_34 : decode cX6_findRoute 34 = .ok (.aload_n 2, 1) := by decide +kernel
theorem dX6_findRoute_35 : decode cX6_findRoute 35 = .ok (.aload_n 1, 1) := by decide +kernel
theorem dX6_findRoute_36 : decode cX6_findRoute 36 = .ok (.getfield 152, 3) := by decide +kernel
theorem dX6_findRoute_39 : decode cX6_findRoute 39 = .ok (.iconst 0, 1) := by decide +kernel
theorem dX6_findRoute_40 : decode cX6_findRoute 40 = .ok (.invokestatic 345, 3) := by decide +kernel
theorem dX6_findRoute_43 : decode cX6_findRoute 43 = .ok (.ifCond .eq 5, 3) := by decide +kernel
theorem dX6_findRoute_46 : decode cX6_findRoute 46 = .ok (.iconst 1, 1) := by decide +kernel
theorem dX6_findRoute_47 : decode cX6_findRoute 47 = .ok (.ireturn, 1) := by decide +kernel
theorem dX6_findRoute_48 : decode cX6_findRoute 48 = .ok (.iinc 4 1, 3) := by decide +kernel
theorem dX6_findRoute_51 : decode cX6_findRoute 51 = .ok (.goto (-40), 3) := by decide +kernel
theorem dX6_findRoute_54 : decode cX6_findRoute 54 = .ok (.aload_n 0, 1) := by decide +kernel
theorem dX6_findRoute_55 : decode cX6_findRoute 55 = .ok (.getfield 30, 3) := by decide +kernel
theorem dX6_findRoute_58 : decode cX6_findRoute 58 = .ok (.iconst 0, 1) := by decide +kernel
theorem dX6_findRoute_59 : decode cX6_findRoute 59 = .ok (.putfield 185, 3) := by decide +kernel
theorem dX6_findRoute_62 : decode cX6_findRoute 62 = .ok (.iconst 0, 1) := by decide +kernel
theorem dX6_findRoute_63 : decode cX6_findRoute 63 = .ok (.ireturn, 1) := by decide +kernel
theorem dX6_completes_0 : decode cX6_completes 0 = .ok (.iload 4, 2) := by decide +kernel
theorem dX6_completes_2 : decode cX6_completes 2 = .ok (.ifCond .lt 9, 3) := by decide +kernel
theorem dX6_completes_5 : decode cX6_completes 5 = .ok (.iload 4, 2) := by decide +kernel
theorem dX6_completes_7 : decode cX6_completes 7 = .ok (.iconst 3, 1) := by decide +kernel
theorem dX6_completes_8 : decode cX6_completes 8 = .ok (.if_icmp .le 5, 3) := by decide +kernel
theorem dX6_completes_11 : decode cX6_completes 11 = .ok (.iconst 0, 1) := by decide +kernel
theorem dX6_completes_12 : decode cX6_completes 12 = .ok (.ireturn, 1) := by decide +kernel
theorem dX6_completes_13 : decode cX6_completes 13 = .ok (.iload 4, 2) := by decide +kernel
theorem dX6_completes_15 : decode cX6_completes 15 = .ok (.aload_n 0, 1) := by decide +kernel
theorem dX6_completes_16 : decode cX6_completes 16 = .ok (.getfield 185, 3) := by decide +kernel
theorem dX6_completes_19 : decode cX6_completes 19 = .ok (.if_icmp .ge 13, 3) := by decide +kernel
theorem dX6_completes_22 : decode cX6_completes 22 = .ok (.iload 4, 2) := by decide +kernel
theorem dX6_completes_24 : decode cX6_completes 24 = .ok (.aload_n 0, 1) := by decide +kernel
theorem dX6_completes_25 : decode cX6_completes 25 = .ok (.getfield 188, 3) := by decide +kernel
theorem dX6_completes_28 : decode cX6_completes 28 = .ok (.arraylength, 1) := by decide +kernel
theorem dX6_completes_29 : decode cX6_completes 29 = .ok (.if_icmp .lt 52, 3) := by decide +kernel
theorem dX6_completes_32 : decode cX6_completes 32 = .ok (.aload_n 0, 1) := by decide +kernel
theorem dX6_completes_33 : decode cX6_completes 33 = .ok (.aload_n 2, 1) := by decide +kernel
theorem dX6_completes_34 : decode cX6_completes 34 = .ok (.getfield 283, 3) := by decide +kernel
theorem dX6_completes_37 : decode cX6_completes 37 = .ok (.putfield 311, 3) := by decide +kernel
theorem dX6_completes_40 : decode cX6_completes 40 = .ok (.aload_n 0, 1) := by decide +kernel
theorem dX6_completes_41 : decode cX6_completes 41 = .ok (.iload_n 3, 1) := by decide +kernel
theorem dX6_completes_42 : decode cX6_completes 42 = .ok (.putfield 314, 3) := by decide +kernel
theorem dX6_completes_45 : decode cX6_completes 45 = .ok (.aload_n 2, 1) := by decide +kernel
theorem dX6_completes_46 : decode cX6_completes 46 = .ok (.getfield 129, 3) := by decide +kernel
theorem dX6_completes_49 : decode cX6_completes 49 = .ok (.ifCond .ne 30, 3) := by decide +kernel
theorem dX6_completes_52 : decode cX6_completes 52 = .ok (.aload_n 2, 1) := by decide +kernel
theorem dX6_completes_53 : decode cX6_completes 53 = .ok (.aload_n 0, 1) := by decide +kernel
theorem dX6_completes_54 : decode cX6_completes 54 = .ok (.getfield 342, 3) := by decide +kernel
theorem dX6_completes_57 : decode cX6_completes 57 = .ok (.if_acmp .eq 22, 3) := by decide +kernel
theorem dX6_completes_60 : decode cX6_completes 60 = .ok (.iload_n 3, 1) := by decide +kernel
theorem dX6_completes_61 : decode cX6_completes 61 = .ok (.aload_n 2, 1) := by decide +kernel
theorem dX6_completes_62 : decode cX6_completes 62 = .ok (.getfield 114, 3) := by decide +kernel
theorem dX6_completes_65 : decode cX6_completes 65 = .ok (.aload_n 2, 1) := by decide +kernel
theorem dX6_completes_66 : decode cX6_completes 66 = .ok (.getfield 117, 3) := by decide +kernel
theorem dX6_completes_69 : decode cX6_completes 69 = .ok (.invokestatic 120, 3) := by decide +kernel
theorem dX6_completes_72 : decode cX6_completes 72 = .ok (.ifCond .eq 7, 3) := by decide +kernel
theorem dX6_completes_75 : decode cX6_completes 75 = .ok (.iconst 1, 1) := by decide +kernel
theorem dX6_completes_76 : decode cX6_completes 76 = .ok (.goto 4, 3) := by decide +kernel
theorem dX6_completes_79 : decode cX6_completes 79 = .ok (.iconst 0, 1) := by decide +kernel
theorem dX6_completes_80 : decode cX6_completes 80 = .ok (.ireturn, 1) := by decide +kernel
theorem dX6_completes_81 : decode cX6_completes 81 = .ok (.iconst 0, 1) := by decide +kernel
theorem dX6_completes_82 : decode cX6_completes 82 = .ok (.istore 5, 2) := by decide +kernel
theorem dX6_completes_84 : decode cX6_completes 84 = .ok (.iload 5, 2) := by decide +kernel
theorem dX6_completes_86 : decode cX6_completes 86 = .ok (.aload_n 1, 1) := by decide +kernel
theorem dX6_completes_87 : decode cX6_completes 87 = .ok (.arraylength, 1) := by decide +kernel
theorem dX6_completes_88 : decode cX6_completes 88 = .ok (.if_icmp .ge 63, 3) := by decide +kernel
theorem dX6_completes_91 : decode cX6_completes 91 = .ok (.aload_n 1, 1) := by decide +kernel
theorem dX6_completes_92 : decode cX6_completes 92 = .ok (.iload 5, 2) := by decide +kernel
theorem dX6_completes_94 : decode cX6_completes 94 = .ok (.aaload, 1) := by decide +kernel
theorem dX6_completes_95 : decode cX6_completes 95 = .ok (.astore 6, 2) := by decide +kernel
theorem dX6_completes_97 : decode cX6_completes 97 = .ok (.aload 6, 2) := by decide +kernel
theorem dX6_completes_99 : decode cX6_completes 99 = .ok (.ifnull 46, 3) := by decide +kernel
theorem dX6_completes_102 : decode cX6_completes 102 = .ok (.aload 6, 2) := by decide +kernel
theorem dX6_completes_104 : decode cX6_completes 104 = .ok (.getfield 349, 3) := by decide +kernel
theorem dX6_completes_107 : decode cX6_completes 107 = .ok (.aload_n 2, 1) := by decide +kernel
theorem dX6_completes_108 : decode cX6_completes 108 = .ok (.if_acmp .ne 37, 3) := by decide +kernel
theorem dX6_completes_111 : decode cX6_completes 111 = .ok (.aload_n 0, 1) := by decide +kernel
theorem dX6_completes_112 : decode cX6_completes 112 = .ok (.getfield 188, 3) := by decide +kernel
theorem dX6_completes_115 : decode cX6_completes 115 = .ok (.iload 4, 2) := by decide +kernel
theorem dX6_completes_117 : decode cX6_completes 117 = .ok (.iload 5, 2) := by decide +kernel
theorem dX6_completes_119 : decode cX6_completes 119 = .ok (.iastore, 1) := by decide +kernel
theorem dX6_completes_120 : decode cX6_completes 120 = .ok (.aload_n 0, 1) := by decide +kernel
theorem dX6_completes_121 : decode cX6_completes 121 = .ok (.aload_n 1, 1) := by decide +kernel
theorem dX6_completes_122 : decode cX6_completes 122 = .ok (.aload 6, 2) := by decide +kernel
theorem dX6_completes_124 : decode cX6_completes 124 = .ok (.getfield 352, 3) := by decide +kernel
theorem dX6_completes_127 : decode cX6_completes 127 = .ok (.aload 6, 2) := by decide +kernel
theorem dX6_completes_129 : decode cX6_completes 129 = .ok (.iload_n 3, 1) := by decide +kernel
theorem dX6_completes_130 : decode cX6_completes 130 = .ok (.invokevirtual 355, 3) := by decide +kernel
theorem dX6_completes_133 : decode cX6_completes 133 = .ok (.iload 4, 2) := by decide +kernel
theorem dX6_completes_135 : decode cX6_completes 135 = .ok (.iconst 1, 1) := by decide +kernel
theorem dX6_completes_136 : decode cX6_completes 136 = .ok (.iadd, 1) := by decide +kernel
theorem dX6_completes_137 : decode cX6_completes 137 = .ok (.invokestatic 345, 3) := by decide +kernel
theorem dX6_completes_140 : decode cX6_completes 140 = .ok (.ifCond .eq 5, 3) := by decide +kernel
theorem dX6_completes_143 : decode cX6_completes 143 = .ok (.iconst 1, 1) := by decide +kernel
theorem dX6_completes_144 : decode cX6_completes 144 = .ok (.ireturn, 1) := by decide +kernel
theorem dX6_completes_145 : decode cX6_completes 145 = .ok (.iinc 5 1, 3) := by decide +kernel
theorem dX6_completes_148 : decode cX6_completes 148 = .ok (.goto (-64), 3) := by decide +kernel
theorem dX6_completes_151 : decode cX6_completes 151 = .ok (.iconst 0, 1) := by decide +kernel
theorem dX6_completes_152 : decode cX6_completes 152 = .ok (.ireturn, 1) := by decide +kernel
theorem dX6_isServedCall_0 : decode cX6_isServedCall 0 = .ok (.aload_n 1, 1) := by decide +kernel
theorem dX6_isServedCall_1 : decode cX6_isServedCall 1 = .ok (.getfield 159, 3) := by decide +kernel
theorem dX6_isServedCall_4 : decode cX6_isServedCall 4 = .ok (.astore_n 2, 1) := by decide +kernel
theorem dX6_isServedCall_5 : decode cX6_isServedCall 5 = .ok (.aload_n 2, 1) := by decide +kernel
theorem dX6_isServedCall_6 : decode cX6_isServedCall 6 = .ok (.getfield 129, 3) := by decide +kernel
theorem dX6_isServedCall_9 : decode cX6_isServedCall 9 = .ok (.iconst 1, 1) := by decide +kernel
theorem dX6_isServedCall_10 : decode cX6_isServedCall 10 = .ok (.if_icmp .ne 19, 3) := by decide +kernel
theorem dX6_isServedCall_13 : decode cX6_isServedCall 13 = .ok (.aload_n 2, 1) := by decide +kernel
theorem dX6_isServedCall_14 : decode cX6_isServedCall 14 = .ok (.getfield 211, 3) := by decide +kernel
theorem dX6_isServedCall_17 : decode cX6_isServedCall 17 = .ok (.aload_n 1, 1) := by decide +kernel
theorem dX6_isServedCall_18 : decode cX6_isServedCall 18 = .ok (.getfield 305, 3) := by decide +kernel
theorem dX6_isServedCall_21 : decode cX6_isServedCall 21 = .ok (.aload_n 0, 1) := by decide +kernel
theorem dX6_isServedCall_22 : decode cX6_isServedCall 22 = .ok (.getfield 225, 3) := by decide +kernel
theorem dX6_isServedCall_25 : decode cX6_isServedCall 25 = .ok (.invokevirtual 358, 3) := by decide +kernel
theorem dX6_isServedCall_28 : decode cX6_isServedCall 28 = .ok (.pop, 1) := by decide +kernel
theorem dX6_isServedCall_29 : decode cX6_isServedCall 29 = .ok (.aload_n 0, 1) := by decide +kernel
theorem dX6_isServedCall_30 : decode cX6_isServedCall 30 = .ok (.aload_n 1, 1) := by decide +kernel
theorem dX6_isServedCall_31 : decode cX6_isServedCall 31 = .ok (.aload_n 2, 1) := by decide +kernel
theorem dX6_isServedCall_32 : decode cX6_isServedCall 32 = .ok (.getfield 129, 3) := by decide +kernel
theorem dX6_isServedCall_35 : decode cX6_isServedCall 35 = .ok (.aload_n 0, 1) := by decide +kernel
theorem dX6_isServedCall_36 : decode cX6_isServedCall 36 = .ok (.getfield 225, 3) := by decide +kernel
theorem dX6_isServedCall_39 : decode cX6_isServedCall 39 = .ok (.aload_n 1, 1) := by decide +kernel
theorem dX6_isServedCall_40 : decode cX6_isServedCall 40 = .ok (.aload_n 2, 1) := by decide +kernel
theorem dX6_isServedCall_41 : decode cX6_isServedCall 41 = .ok (.invokevirtual 361, 3) := by decide +kernel
theorem dX6_isServedCall_44 : decode cX6_isServedCall 44 = .ok (.invokevirtual 364, 3) := by decide +kernel
theorem dX6_isServedCall_47 : decode cX6_isServedCall 47 = .ok (.istore_n 3, 1) := by decide +kernel
theorem dX6_isServedCall_48 : decode cX6_isServedCall 48 = .ok (.iload_n 3, 1) := by decide +kernel
theorem dX6_isServedCall_49 : decode cX6_isServedCall 49 = .ok (.ifCond .eq 8, 3) := by decide +kernel
theorem dX6_isServedCall_52 : decode cX6_isServedCall 52 = .ok (.iload_n 3, 1) := by decide +kernel
theorem dX6_isServedCall_53 : decode cX6_isServedCall 53 = .ok (.iconst 1, 1) := by decide +kernel
theorem dX6_isServedCall_54 : decode cX6_isServedCall 54 = .ok (.if_icmp .ne 7, 3) := by decide +kernel
theorem dX6_isServedCall_57 : decode cX6_isServedCall 57 = .ok (.iconst 1, 1) := by decide +kernel
theorem dX6_isServedCall_58 : decode cX6_isServedCall 58 = .ok (.goto 4, 3) := by decide +kernel
theorem dX6_isServedCall_61 : decode cX6_isServedCall 61 = .ok (.iconst 0, 1) := by decide +kernel
theorem dX6_isServedCall_62 : decode cX6_isServedCall 62 = .ok (.istore 4, 2) := by decide +kernel
theorem dX6_isServedCall_64 : decode cX6_isServedCall 64 = .ok (.aload_n 1, 1) := by decide +kernel
theorem dX6_isServedCall_65 : decode cX6_isServedCall 65 = .ok (.aload_n 0, 1) := by decide +kernel
theorem dX6_isServedCall_66 : decode cX6_isServedCall 66 = .ok (.getfield 225, 3) := by decide +kernel
theorem dX6_isServedCall_69 : decode cX6_isServedCall 69 = .ok (.iload 4, 2) := by decide +kernel
theorem dX6_isServedCall_71 : decode cX6_isServedCall 71 = .ok (.invokevirtual 368, 3) := by decide +kernel
theorem dX6_isServedCall_74 : decode cX6_isServedCall 74 = .ok (.aload_n 2, 1) := by decide +kernel
theorem dX6_isServedCall_75 : decode cX6_isServedCall 75 = .ok (.dup, 1) := by decide +kernel
theorem dX6_isServedCall_76 : decode cX6_isServedCall 76 = .ok (.getfield 300, 3) := by decide +kernel
theorem dX6_isServedCall_79 : decode cX6_isServedCall 79 = .ok (.iconst 1, 1) := by decide +kernel
theorem dX6_isServedCall_80 : decode cX6_isServedCall 80 = .ok (.iadd, 1) := by decide +kernel
theorem dX6_isServedCall_81 : decode cX6_isServedCall 81 = .ok (.putfield 300, 3) := by decide +kernel
theorem dX6_isServedCall_84 : decode cX6_isServedCall 84 = .ok (.aload_n 0, 1) := by decide +kernel
theorem dX6_isServedCall_85 : decode cX6_isServedCall 85 = .ok (.dup, 1) := by decide +kernel
theorem dX6_isServedCall_86 : decode cX6_isServedCall 86 = .ok (.getfield 249, 3) := by decide +kernel
theorem dX6_isServedCall_89 : decode cX6_isServedCall 89 = .ok (.iconst 1, 1) := by decide +kernel
theorem dX6_isServedCall_90 : decode cX6_isServedCall 90 = .ok (.iadd, 1) := by decide +kernel
theorem dX6_isServedCall_91 : decode cX6_isServedCall 91 = .ok (.putfield 249, 3) := by decide +kernel
theorem dX6_isServedCall_94 : decode cX6_isServedCall 94 = .ok (.iload 4, 2) := by decide +kernel
theorem dX6_isServedCall_96 : decode cX6_isServedCall 96 = .ok (.ifCond .ne 23, 3) := by decide +kernel
theorem dX6_isServedCall_99 : decode cX6_isServedCall 99 = .ok (.aload_n 2, 1) := by decide +kernel
theorem dX6_isServedCall_100 : decode cX6_isServedCall 100 = .ok (.dup, 1) := by decide +kernel
theorem dX6_isServedCall_101 : decode cX6_isServedCall 101 = .ok (.getfield 301, 3) := by decide +kernel
theorem dX6_isServedCall_104 : decode cX6_isServedCall 104 = .ok (.iconst 1, 1) := by decide +kernel
theorem dX6_isServedCall_105 : decode cX6_isServedCall 105 = .ok (.iadd, 1) := by decide +kernel
theorem dX6_isServedCall_106 : decode cX6_isServedCall 106 = .ok (.putfield 301, 3) := by decide +kernel
theorem dX6_isServedCall_109 : decode cX6_isServedCall 109 = .ok (.aload_n 0, 1) := by decide +kernel
theorem dX6_isServedCall_110 : decode cX6_isServedCall 110 = .ok (.dup, 1) := by decide +kernel
theorem dX6_isServedCall_111 : decode cX6_isServedCall 111 = .ok (.getfield 252, 3) := by decide +kernel
theorem dX6_isServedCall_114 : decode cX6_isServedCall 114 = .ok (.iconst 1, 1) := by decide +kernel
theorem dX6_isServedCall_115 : decode cX6_isServedCall 115 = .ok (.iadd, 1) := by decide +kernel
theorem dX6_isServedCall_116 : decode cX6_isServedCall 116 = .ok (.putfield 252, 3) := by decide +kernel
theorem dX6_isServedCall_119 : decode cX6_isServedCall 119 = .ok (.iload_n 3, 1) := by decide +kernel
theorem dX6_isServedCall_120 : decode cX6_isServedCall 120 = .ok (.iconst 1, 1) := by decide +kernel
theorem dX6_isServedCall_121 : decode cX6_isServedCall 121 = .ok (.if_icmp .ne 13, 3) := by decide +kernel
theorem dX6_isServedCall_124 : decode cX6_isServedCall 124 = .ok (.aload_n 0, 1) := by decide +kernel
theorem dX6_isServedCall_125 : decode cX6_isServedCall 125 = .ok (.dup, 1) := by decide +kernel
theorem dX6_isServedCall_126 : decode cX6_isServedCall 126 = .ok (.getfield 320, 3) := by decide +kernel
theorem dX6_isServedCall_129 : decode cX6_isServedCall 129 = .ok (.iconst 1, 1) := by decide +kernel
theorem dX6_isServedCall_130 : decode cX6_isServedCall 130 = .ok (.iadd, 1) := by decide +kernel
theorem dX6_isServedCall_131 : decode cX6_isServedCall 131 = .ok (.putfield 320, 3) := by decide +kernel
theorem dX6_isServedCall_134 : decode cX6_isServedCall 134 = .ok (.iload 4, 2) := by decide +kernel
theorem dX6_isServedCall_136 : decode cX6_isServedCall 136 = .ok (.ireturn, 1) := by decide +kernel
theorem dX6_outcomeOf_0 : decode cX6_outcomeOf 0 = .ok (.aload_n 1, 1) := by decide +kernel
theorem dX6_outcomeOf_1 : decode cX6_outcomeOf 1 = .ok (.getfield 159, 3) := by decide +kernel
theorem dX6_outcomeOf_4 : decode cX6_outcomeOf 4 = .ok (.astore 5, 2) := by decide +kernel
theorem dX6_outcomeOf_6 : decode cX6_outcomeOf 6 = .ok (.iload_n 2, 1) := by decide +kernel
theorem dX6_outcomeOf_7 : decode cX6_outcomeOf 7 = .ok (.ifCond .ne 5, 3) := by decide +kernel
theorem dX6_outcomeOf_10 : decode cX6_outcomeOf 10 = .ok (.iconst 0, 1) := by decide +kernel
theorem dX6_outcomeOf_11 : decode cX6_outcomeOf 11 = .ok (.ireturn, 1) := by decide +kernel
theorem dX6_outcomeOf_12 : decode cX6_outcomeOf 12 = .ok (.iload_n 2, 1) := by decide +kernel
theorem dX6_outcomeOf_13 : decode cX6_outcomeOf 13 = .ok (.iconst 2, 1) := by decide +kernel
theorem dX6_outcomeOf_14 : decode cX6_outcomeOf 14 = .ok (.if_icmp .ne 21, 3) := by decide +kernel
theorem dX6_outcomeOf_17 : decode cX6_outcomeOf 17 = .ok (.aload_n 0, 1) := by decide +kernel
theorem dX6_outcomeOf_18 : decode cX6_outcomeOf 18 = .ok (.aload_n 1, 1) := by decide +kernel
theorem dX6_outcomeOf_19 : decode cX6_outcomeOf 19 = .ok (.aload 5, 2) := by decide +kernel
theorem dX6_outcomeOf_21 : decode cX6_outcomeOf 21 = .ok (.aload 5, 2) := by decide +kernel
theorem dX6_outcomeOf_23 : decode cX6_outcomeOf 23 = .ok (.invokevirtual 338, 3) := by decide +kernel
theorem dX6_outcomeOf_26 : decode cX6_outcomeOf 26 = .ok (.ifCond .eq 7, 3) := by decide +kernel
theorem dX6_outcomeOf_29 : decode cX6_outcomeOf 29 = .ok (.iconst 1, 1) := by decide +kernel
theorem dX6_outcomeOf_30 : decode cX6_outcomeOf 30 = .ok (.goto 4, 3) := by decide +kernel
theorem dX6_outcomeOf_33 : decode cX6_outcomeOf 33 = .ok (.iconst 4, 1) := by decide +kernel
theorem dX6_outcomeOf_34 : decode cX6_outcomeOf 34 = .ok (.ireturn, 1) := by decide +kernel
theorem dX6_outcomeOf_35 : decode cX6_outcomeOf 35 = .ok (.aload 5, 2) := by decide +kernel
theorem dX6_outcomeOf_37 : decode cX6_outcomeOf 37 = .ok (.getfield 211, 3) := by decide +kernel
theorem dX6_outcomeOf_40 : decode cX6_outcomeOf 40 = .ok (.iload_n 3, 1) := by decide +kernel
theorem dX6_outcomeOf_41 : decode cX6_outcomeOf 41 = .ok (.invokevirtual 372, 3) := by decide +kernel
theorem dX6_outcomeOf_44 : decode cX6_outcomeOf 44 = .ok (.ifCond .eq 5, 3) := by decide +kernel
theorem dX6_outcomeOf_47 : decode cX6_outcomeOf 47 = .ok (.iconst 2, 1) := by decide +kernel
theorem dX6_outcomeOf_48 : decode cX6_outcomeOf 48 = .ok (.ireturn, 1) := by decide +kernel
theorem dX6_outcomeOf_49 : decode cX6_outcomeOf 49 = .ok (.iload 4, 2) := by decide +kernel
theorem dX6_outcomeOf_51 : decode cX6_outcomeOf 51 = .ok (.aload 5, 2) := by decide +kernel
theorem dX6_outcomeOf_53 : decode cX6_outcomeOf 53 = .ok (.getfield 211, 3) := by decide +kernel
theorem dX6_outcomeOf_56 : decode cX6_outcomeOf 56 = .ok (.iload_n 3, 1) := by decide +kernel
theorem dX6_outcomeOf_57 : decode cX6_outcomeOf 57 = .ok (.invokevirtual 375, 3) := by decide +kernel
theorem dX6_outcomeOf_60 : decode cX6_outcomeOf 60 = .ok (.if_icmp .lt 7, 3) := by decide +kernel
theorem dX6_outcomeOf_63 : decode cX6_outcomeOf 63 = .ok (.iconst 3, 1) := by decide +kernel
theorem dX6_outcomeOf_64 : decode cX6_outcomeOf 64 = .ok (.goto 4, 3) := by decide +kernel
theorem dX6_outcomeOf_67 : decode cX6_outcomeOf 67 = .ok (.iconst 0, 1) := by decide +kernel
theorem dX6_outcomeOf_68 : decode cX6_outcomeOf 68 = .ok (.ireturn, 1) := by decide +kernel
