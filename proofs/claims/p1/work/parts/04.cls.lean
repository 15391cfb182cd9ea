theorem dX6_faceAt_0 : decode cX6_faceAt 0 = .ok (.iload_n 1, 1) := by decide +kernel
theorem dX6_faceAt_1 : decode cX6_faceAt 1 = .ok (.ifCond .lt 21, 3) := by decide +kernel
theorem dX6_faceAt_22 : decode cX6_faceAt 22 = .ok (.aconst_null, 1) := by decide +kernel
theorem dX6_faceAt_23 : decode cX6_faceAt 23 = .ok (.areturn, 1) := by decide +kernel
theorem dX6_faceAt_4 : decode cX6_faceAt 4 = .ok (.iload_n 1, 1) := by decide +kernel
theorem dX6_faceAt_5 : decode cX6_faceAt 5 = .ok (.aload_n 0, 1) := by decide +kernel
theorem dX6_faceAt_6 : decode cX6_faceAt 6 = .ok (.getfield 11, 3) := by decide +kernel
theorem dX6_faceAt_9 : decode cX6_faceAt 9 = .ok (.arraylength, 1) := by decide +kernel
theorem dX6_faceAt_10 : decode cX6_faceAt 10 = .ok (.if_icmp .ge 12, 3) := by decide +kernel
theorem dX6_faceAt_13 : decode cX6_faceAt 13 = .ok (.aload_n 0, 1) := by decide +kernel
theorem dX6_faceAt_14 : decode cX6_faceAt 14 = .ok (.getfield 11, 3) := by decide +kernel
theorem dX6_faceAt_17 : decode cX6_faceAt 17 = .ok (.iload_n 1, 1) := by decide +kernel
theorem dX6_faceAt_18 : decode cX6_faceAt 18 = .ok (.aaload, 1) := by decide +kernel
theorem dX6_faceAt_19 : decode cX6_faceAt 19 = .ok (.goto 4, 3) := by decide +kernel
theorem dX6_versionAt_0 : decode cX6_versionAt 0 = .ok (.aload_n 0, 1) := by decide +kernel
theorem dX6_versionAt_1 : decode cX6_versionAt 1 = .ok (.iload_n 1, 1) := by decide +kernel
theorem dX6_versionAt_2 : decode cX6_versionAt 2 = .ok (.invokevirtual 55, 3) := by decide +kernel
theorem dX6_versionAt_5 : decode cX6_versionAt 5 = .ok (.astore_n 3, 1) := by decide +kernel
theorem dX6_versionAt_6 : decode cX6_versionAt 6 = .ok (.aload_n 3, 1) := by decide +kernel
theorem dX6_versionAt_7 : decode cX6_versionAt 7 = .ok (.ifnonnull 7, 3) := by decide +kernel
theorem dX6_versionAt_10 : decode cX6_versionAt 10 = .ok (.aconst_null, 1) := by decide +kernel
theorem dX6_versionAt_11 : decode cX6_versionAt 11 = .ok (.goto 8, 3) := by decide +kernel
theorem dX6_versionAt_19 : decode cX6_versionAt 19 = .ok (.areturn, 1) := by decide +kernel
theorem dX6_clientAt_0 : decode cX6_clientAt 0 = .ok (.iload_n 1, 1) := by decide +kernel
theorem dX6_clientAt_1 : decode cX6_clientAt 1 = .ok (.ifCond .lt 21, 3) := by decide +kernel
theorem dX6_clientAt_22 : decode cX6_clientAt 22 = .ok (.aconst_null, 1) := by decide +kernel
theorem dX6_clientAt_23 : decode cX6_clientAt 23 = .ok (.areturn, 1) := by decide +kernel
theorem dX6_clientAt_4 : decode cX6_clientAt 4 = .ok (.iload_n 1, 1) := by decide +kernel
theorem dX6_clientAt_5 : decode cX6_clientAt 5 = .ok (.aload_n 0, 1) := by decide +kernel
theorem dX6_clientAt_6 : decode cX6_clientAt 6 = .ok (.getfield 17, 3) := by decide +kernel
theorem dX6_clientAt_9 : decode cX6_clientAt 9 = .ok (.arraylength, 1) := by decide +kernel
theorem dX6_clientAt_10 : decode cX6_clientAt 10 = .ok (.if_icmp .ge 12, 3) := by decide +kernel
theorem dX6_clientAt_13 : decode cX6_clientAt 13 = .ok (.aload_n 0, 1) := by decide +kernel
theorem dX6_clientAt_14 : decode cX6_clientAt 14 = .ok (.getfield 17, 3) := by decide +kernel
theorem dX6_clientAt_17 : decode cX6_clientAt 17 = .ok (.iload_n 1, 1) := by decide +kernel
theorem dX6_clientAt_18 : decode cX6_clientAt 18 = .ok (.aaload, 1) := by decide +kernel
theorem dX6_clientAt_19 : decode cX6_clientAt 19 = .ok (.goto 4, 3) := by decide +kernel
theorem dX6_countVersions_4 : decode cX6_countVersions 4 = .ok (.iload_n 3, 1) := by decide +kernel
theorem dX6_countVersions_5 : decode cX6_countVersions 5 = .ok (.iconst 4, 1) := by decide +kernel
theorem dX6_countVersions_6 : decode cX6_countVersions 6 = .ok (.if_icmp .ge 51, 3) := by decide +kernel
theorem dX6_countVersions_57 : decode cX6_countVersions 57 = .ok (.iload_n 2, 1) := by decide +kernel
theorem dX6_countVersions_58 : decode cX6_countVersions 58 = .ok (.ireturn, 1) := by decide +kernel
theorem dX6_countVersions_12 : decode cX6_countVersions 12 = .ok (.iload 4, 2) := by decide +kernel
theorem dX6_countVersions_14 : decode cX6_countVersions 14 = .ok (.bipush 6, 2) := by decide +kernel
theorem dX6_countVersions_16 : decode cX6_countVersions 16 = .ok (.if_icmp .ge 35, 3) := by decide +kernel
theorem dX6_countVersions_51 : decode cX6_countVersions 51 = .ok (.iinc 3 1, 3) := by decide +kernel
theorem dX6_countVersions_54 : decode cX6_countVersions 54 = .ok (.goto (-50), 3) := by decide +kernel
theorem dX6_countVersions_19 : decode cX6_countVersions 19 = .ok (.aload_n 0, 1) := by decide +kernel
theorem dX6_countVersions_20 : decode cX6_countVersions 20 = .ok (.iload_n 3, 1) := by decide +kernel
theorem dX6_countVersions_21 : decode cX6_countVersions 21 = .ok (.iload 4, 2) := by decide +kernel
theorem dX6_countVersions_23 : decode cX6_countVersions 23 = .ok (.invokevirtual 91, 3) := by decide +kernel
theorem dX6_countVersions_26 : decode cX6_countVersions 26 = .ok (.astore 5, 2) := by decide +kernel
theorem dX6_countVersions_28 : decode cX6_countVersions 28 = .ok (.aload 5, 2) := by decide +kernel
theorem dX6_countVersions_30 : decode cX6_countVersions 30 = .ok (.ifnull 15, 3) := by decide +kernel
theorem dX6_countVersions_45 : decode cX6_countVersions 45 = .ok (.iinc 4 1, 3) := by decide +kernel
theorem dX6_countVersions_48 : decode cX6_countVersions 48 = .ok (.goto (-36), 3) := by decide +kernel
theorem dX6_countVersions_9 : decode cX6_countVersions 9 = .ok (.iconst 0, 1) := by decide +kernel
theorem dX6_countVersions_10 : decode cX6_countVersions 10 = .ok (.istore 4, 2) := by decide +kernel
theorem dX6_countVersions_0 : decode cX6_countVersions 0 = .ok (.iconst 0, 1) := by decide +kernel
theorem dX6_countVersions_1 : decode cX6_countVersions 1 = .ok (.istore_n 2, 1) := by decide +kernel
theorem dX6_countVersions_2 : decode cX6_countVersions 2 = .ok (.iconst 0, 1) := by decide +kernel
theorem dX6_countVersions_3 : decode cX6_countVersions 3 = .ok (.istore_n 3, 1) := by decide +kernel
theorem dX6_countOf_0 : decode cX6_countOf 0 = .ok (.iload_n 1, 1) := by decide +kernel
theorem dX6_countOf_1 : decode cX6_countOf 1 = .ok (.tableswitch 121 0 9 #[55, 60, 78, 84, 90, 96, 101, 106, 111, 116], 55) := by decide +kernel
theorem dX6_countOf_56 : decode cX6_countOf 56 = .ok (.aload_n 0, 1) := by decide +kernel
theorem dX6_countOf_57 : decode cX6_countOf 57 = .ok (.getfield 41, 3) := by decide +kernel
theorem dX6_countOf_60 : decode cX6_countOf 60 = .ok (.ireturn, 1) := by decide +kernel
theorem dX6_countOf_61 : decode cX6_countOf 61 = .ok (.aload_n 0, 1) := by decide +kernel
theorem dX6_countOf_62 : decode cX6_countOf 62 = .ok (.iconst 0, 1) := by decide +kernel
theorem dX6_countOf_63 : decode cX6_countOf 63 = .ok (.invokevirtual 317, 3) := by decide +kernel
theorem dX6_countOf_66 : decode cX6_countOf 66 = .ok (.aload_n 0, 1) := by decide +kernel
theorem dX6_countOf_67 : decode cX6_countOf 67 = .ok (.iconst 1, 1) := by decide +kernel
theorem dX6_countOf_68 : decode cX6_countOf 68 = .ok (.invokevirtual 317, 3) := by decide +kernel
theorem dX6_countOf_71 : decode cX6_countOf 71 = .ok (.iadd, 1) := by decide +kernel
theorem dX6_countOf_72 : decode cX6_countOf 72 = .ok (.aload_n 0, 1) := by decide +kernel
theorem dX6_countOf_73 : decode cX6_countOf 73 = .ok (.iconst 2, 1) := by decide +kernel
theorem dX6_countOf_74 : decode cX6_countOf 74 = .ok (.invokevirtual 317, 3) := by decide +kernel
theorem dX6_countOf_77 : decode cX6_countOf 77 = .ok (.iadd, 1) := by decide +kernel
theorem dX6_countOf_78 : decode cX6_countOf 78 = .ok (.ireturn, 1) := by decide +kernel
theorem dX6_countOf_79 : decode cX6_countOf 79 = .ok (.aload_n 0, 1) := by decide +kernel
theorem dX6_countOf_80 : decode cX6_countOf 80 = .ok (.iconst 0, 1) := by decide +kernel
theorem dX6_countOf_81 : decode cX6_countOf 81 = .ok (.invokevirtual 317, 3) := by decide +kernel
theorem dX6_countOf_84 : decode cX6_countOf 84 = .ok (.ireturn, 1) := by decide +kernel
theorem dX6_countOf_85 : decode cX6_countOf 85 = .ok (.aload_n 0, 1) := by decide +kernel
theorem dX6_countOf_86 : decode cX6_countOf 86 = .ok (.iconst 1, 1) := by decide +kernel
theorem dX6_countOf_87 : decode cX6_countOf 87 = .ok (.invokevirtual 317, 3) := by decide +kernel
theorem dX6_countOf_90 : decode cX6_countOf 90 = .ok (.ireturn, 1) := by decide +kernel
theorem dX6_countOf_91 : decode cX6_countOf 91 = .ok (.aload_n 0, 1) := by decide +kernel
theorem dX6_countOf_92 : decode cX6_countOf 92 = .ok (.iconst 2, 1) := by decide +kernel
theorem dX6_countOf_93 : decode cX6_countOf 93 = .ok (.invokevirtual 317, 3) := by decide +kernel
theorem dX6_countOf_96 : decode cX6_countOf 96 = .ok (.ireturn, 1) := by decide +kernel
theorem dX6_countOf_97 : decode cX6_countOf 97 = .ok (.aload_n 0, 1) := by decide +kernel
theorem dX6_countOf_98 : decode cX6_countOf 98 = .ok (.getfield 126, 3) := by decide +kernel
theorem dX6_countOf_101 : decode cX6_countOf 101 = .ok (.ireturn, 1) := by decide +kernel
theorem dX6_countOf_102 : decode cX6_countOf 102 = .ok (.aload_n 0, 1) := by decide +kernel
theorem dX6_countOf_103 : decode cX6_countOf 103 = .ok (.getfield 165, 3) := by decide +kernel
theorem dX6_countOf_106 : decode cX6_countOf 106 = .ok (.ireturn, 1) := by decide +kernel
theorem dX6_countOf_107 : decode cX6_countOf 107 = .ok (.aload_n 0, 1) := by decide +kernel
theorem dX6_countOf_108 : decode cX6_countOf 108 = .ok (.getfield 249, 3) := by decide +kernel
theorem dX6_countOf_111 : decode cX6_countOf 111 = .ok (.ireturn, 1) := by decide +kernel
theorem dX6_countOf_112 : decode cX6_countOf 112 = .ok (.aload_n 0, 1) := by decide +kernel
theorem dX6_countOf_113 : decode cX6_countOf 113 = .ok (.getfield 252, 3) := by decide +kernel
theorem dX6_countOf_116 : decode cX6_countOf 116 = .ok (.ireturn, 1) := by decide +kernel
theorem dX6_countOf_117 : decode cX6_countOf 117 = .ok (.aload_n 0, 1) := by decide +kernel
theorem dX6_countOf_118 : decode cX6_countOf 118 = .ok (.getfield 320, 3) := by decide +kernel
theorem dX6_countOf_121 : decode cX6_countOf 121 = .ok (.ireturn, 1) := by decide +kernel
theorem dX6_countOf_122 : decode cX6_countOf 122 = .ok (.aload_n 0, 1) := by decide +kernel
theorem dX6_countOf_123 : decode cX6_countOf 123 = .ok (.getfield 225, 3) := by decide +kernel
theorem dX6_countOf_126 : decode cX6_countOf 126 = .ok (.ireturn, 1) := by decide +kernel
theorem dX6_digest_84 : decode cX6_digest 84 = .ok (.iload_n 3, 1) := by decide +kernel
theorem dX6_digest_85 : decode cX6_digest 85 = .ok (.aload_n 0, 1) := by decide +kernel
theorem dX6_digest_86 : decode cX6_digest 86 = .ok (.getfield 17, 3) := by decide +kernel
theorem dX6_digest_89 : decode cX6_digest 89 = .ok (.arraylength, 1) := by decide +kernel
theorem dX6_digest_90 : decode cX6_digest 90 = .ok (.if_icmp .ge 30, 3) := by decide +kernel
theorem dX6_digest_120 : decode cX6_digest 120 = .ok (.lload_n 1, 1) := by decide +kernel
theorem dX6_digest_121 : decode cX6_digest 121 = .ok (.lreturn, 1) := by decide +kernel
theorem dX6_digest_93 : decode cX6_digest 93 = .ok (.aload_n 0, 1) := by decide +kernel
theorem dX6_digest_94 : decode cX6_digest 94 = .ok (.getfield 17, 3) := by decide +kernel
theorem dX6_digest_97 : decode cX6_digest 97 = .ok (.iload_n 3, 1) := by decide +kernel
theorem dX6_digest_98 : decode cX6_digest 98 = .ok (.aaload, 1) := by decide +kernel
theorem dX6_digest_99 : decode cX6_digest 99 = .ok (.astore 4, 2) := by decide +kernel
theorem dX6_digest_101 : decode cX6_digest 101 = .ok (.aload 4, 2) := by decide +kernel
theorem dX6_digest_103 : decode cX6_digest 103 = .ok (.ifnull 11, 3) := by decide +kernel
theorem dX6_digest_114 : decode cX6_digest 114 = .ok (.iinc 3 1, 3) := by decide +kernel
theorem dX6_digest_117 : decode cX6_digest 117 = .ok (.goto (-33), 3) := by decide +kernel
theorem dX6_digest_33 : decode cX6_digest 33 = .ok (.iload_n 3, 1) := by decide +kernel
theorem dX6_digest_34 : decode cX6_digest 34 = .ok (.iconst 4, 1) := by decide +kernel
theorem dX6_digest_35 : decode cX6_digest 35 = .ok (.if_icmp .ge 47, 3) := by decide +kernel
theorem dX6_digest_82 : decode cX6_digest 82 = .ok (.iconst 0, 1) := by decide +kernel
theorem dX6_digest_83 : decode cX6_digest 83 = .ok (.istore_n 3, 1) := by decide +kernel
theorem dX6_digest_41 : decode cX6_digest 41 = .ok (.iload 4, 2) := by decide +kernel
theorem dX6_digest_43 : decode cX6_digest 43 = .ok (.bipush 6, 2) := by decide +kernel
theorem dX6_digest_45 : decode cX6_digest 45 = .ok (.if_icmp .ge 31, 3) := by decide +kernel
theorem dX6_digest_76 : decode cX6_digest 76 = .ok (.iinc 3 1, 3) := by decide +kernel
theorem dX6_digest_79 : decode cX6_digest 79 = .ok (.goto (-46), 3) := by decide +kernel
theorem dX6_digest_48 : decode cX6_digest 48 = .ok (.aload_n 0, 1) := by decide +kernel
theorem dX6_digest_49 : decode cX6_digest 49 = .ok (.iload_n 3, 1) := by decide +kernel
theorem dX6_digest_50 : decode cX6_digest 50 = .ok (.iload 4, 2) := by decide +kernel
theorem dX6_digest_52 : decode cX6_digest 52 = .ok (.invokevirtual 91, 3) := by decide +kernel
theorem dX6_digest_55 : decode cX6_digest 55 = .ok (.astore 5, 2) := by decide +kernel
theorem dX6_digest_57 : decode cX6_digest 57 = .ok (.aload 5, 2) := by decide +kernel
theorem dX6_digest_59 : decode cX6_digest 59 = .ok (.ifnull 11, 3) := by decide +kernel
theorem dX6_digest_70 : decode cX6_digest 70 = .ok (.iinc 4 1, 3) := by decide +kernel
theorem dX6_digest_73 : decode cX6_digest 73 = .ok (.goto (-32), 3) := by decide +kernel
theorem dX6_digest_38 : decode cX6_digest 38 = .ok (.iconst 0, 1) := by decide +kernel
theorem dX6_digest_39 : decode cX6_digest 39 = .ok (.istore 4, 2) := by decide +kernel
theorem dX6_digest_6 : decode cX6_digest 6 = .ok (.iload_n 3, 1) := by decide +kernel
theorem dX6_digest_7 : decode cX6_digest 7 = .ok (.bipush 10, 2) := by decide +kernel
theorem dX6_digest_9 : decode cX6_digest 9 = .ok (.if_icmp .gt 22, 3) := by decide +kernel
theorem dX6_digest_31 : decode cX6_digest 31 = .ok (.iconst 0, 1) := by decide +kernel
theorem dX6_digest_32 : decode cX6_digest 32 = .ok (.istore_n 3, 1) := by decide +kernel
theorem dX6_digest_12 : decode cX6_digest 12 = .ok (.lload_n 1, 1) := by decide +kernel
theorem dX6_digest_13 : decode cX6_digest 13 = .ok (.ldc2_w 273, 3) := by decide +kernel
theorem dX6_digest_16 : decode cX6_digest 16 = .ok (.lmul, 1) := by decide +kernel
theorem dX6_digest_17 : decode cX6_digest 17 = .ok (.aload_n 0, 1) := by decide +kernel
theorem dX6_digest_18 : decode cX6_digest 18 = .ok (.iload_n 3, 1) := by decide +kernel
theorem dX6_digest_19 : decode cX6_digest 19 = .ok (.invokevirtual 246, 3) := by decide +kernel
theorem dX6_digest_22 : decode cX6_digest 22 = .ok (.i2l, 1) := by decide +kernel
theorem dX6_digest_23 : decode cX6_digest 23 = .ok (.ladd, 1) := by decide +kernel
theorem dX6_digest_24 : decode cX6_digest 24 = .ok (.lstore_n 1, 1) := by decide +kernel
theorem dX6_digest_25 : decode cX6_digest 25 = .ok (.iinc 3 1, 3) := by decide +kernel
theorem dX6_digest_28 : decode cX6_digest 28 = .ok (.goto (-22), 3) := by decide +kernel
theorem dX6_digest_0 : decode cX6_digest 0 = .ok (.ldc2_w 271, 3) := by decide +kernel
theorem dX6_digest_3 : decode cX6_digest 3 = .ok (.lstore_n 1, 1) := by decide +kernel
theorem dX6_digest_4 : decode cX6_digest 4 = .ok (.iconst 0, 1) := by decide +kernel
theorem dX6_digest_5 : decode cX6_digest 5 = .ok (.istore_n 3, 1) := by decide +kernel
/-! ===== the class: a new registry is asked ===== -/
section CLS
variable {l : Launch} {D : va_G} {dA : Nat → ClassId} {B : Nat} {w : xW} {M Fa Ca Aa Ro Tr : Nat} {n : Int32}
set_option maxRecDepth 100000 in
set_option maxHeartbeats 4000000 in
theorem c_faceAt (hF : FR w M Fa Ca Aa Ro Tr n) (x : Int32) : Ci l D dA B yX6_faceAt wX6_faceAt 0 [.ref M, .int x] w (fun v w1 => v = .null ∧ w1 = w) := by
  refine x_Ct.of (cc := cX6_faceAt) (maxL := 2) (by decide) rfl (Nat.le_of_ble_eq_true rfl) ?_
  intro p e s m below meth c F
  refine x_iload_n F dX6_faceAt_0 rfl rfl ?_
  refine x_if_lt F dX6_faceAt_1 rfl (fun h1 => ?_) (fun h1 => ?_)
  · refine x_null F dX6_faceAt_22 ?_
    refine x_aretN F rfl dX6_faceAt_23 (Nat.le_of_ble_eq_true rfl) (Nat.le_of_ble_eq_true rfl) ?_
    exact ⟨_, rfl, rfl, rfl⟩
  · refine x_iload_n F dX6_faceAt_4 rfl rfl ?_
    refine x_aload_n F dX6_faceAt_5 rfl rfl ?_
    refine x_get (ci := 5) (C := RX6) (T := TX6) (N := 12) (k := 0) F dX6_faceAt_6 rfl inX6 (by decide) q79 rfl hF.1 rfl ?_
    refine x_alen (v := 4) F dX6_faceAt_9 rfl hF.2.1 rfl ?_
    refine x_icmp_ge F dX6_faceAt_10 rfl (fun h10 => ?_) (fun h10 => ?_)
    · refine x_null F dX6_faceAt_22 ?_
      refine x_aretN F rfl dX6_faceAt_23 (Nat.le_of_ble_eq_true rfl) (Nat.le_of_ble_eq_true rfl) ?_
      exact ⟨_, rfl, rfl, rfl⟩
    · refine x_aload_n F dX6_faceAt_13 rfl rfl ?_
      refine x_get (ci := 5) (C := RX6) (T := TX6) (N := 12) (k := 0) F dX6_faceAt_14 rfl inX6 (by decide) q79 rfl hF.1 rfl ?_
      refine x_iload_n F dX6_faceAt_17 rfl rfl ?_
      refine x_aald F dX6_faceAt_18 rfl hF.2.1 (x_in (m2 := 4) (by decide) h1 h10) ?_
      refine x_goto F dX6_faceAt_19 rfl ?_
      refine x_aretN F rfl dX6_faceAt_23 (Nat.le_of_ble_eq_true rfl) (Nat.le_of_ble_eq_true rfl) ?_
      exact ⟨_, rfl, rfl, rfl⟩
set_option maxRecDepth 100000 in
set_option maxHeartbeats 4000000 in
theorem c_versionAt (hF : FR w M Fa Ca Aa Ro Tr n) (x y : Int32) : Ci l D dA B yX6_versionAt wX6_versionAt 1 [.ref M, .int x, .int y] w (fun v w1 => v = .null ∧ w1 = w) := by
  refine x_Ct.of (cc := cX6_versionAt) (maxL := 4) (by decide) rfl (Nat.le_of_ble_eq_true rfl) ?_
  intro p e s m below meth c F
  refine x_aload_n F dX6_versionAt_0 rfl rfl ?_
  refine x_iload_n F dX6_versionAt_1 rfl rfl ?_
  refine x_cVi1 (ci := 5) (C := RX6) (T := TX6) (N := 12) F dX6_versionAt_2 (x_gV q122 q123 q637 q1 q124) rfl (c_faceAt hF x) ⟨rfl, rfl, rfl, xd_X6_faceAt, ⟨Nat.le_of_ble_eq_true rfl, Nat.le_of_ble_eq_true rfl⟩, Nat.le_of_ble_eq_true rfl, Nat.le_of_ble_eq_true rfl⟩ rfl hF.1 (Nat.le_of_ble_eq_true rfl) (fun v1 w1 hp => ?_)
  obtain ⟨rfl, hw9⟩ := hp
  replace hw9 := hw9.symm
  subst hw9
  refine x_astore_nN F dX6_versionAt_5 rfl (by decide) ?_
  refine x_aload_nN F dX6_versionAt_6 rfl rfl ?_
  refine x_ifnonnullN F dX6_versionAt_7 ?_
  refine x_null F dX6_versionAt_10 ?_
  refine x_goto F dX6_versionAt_11 rfl ?_
  refine x_aretN F rfl dX6_versionAt_19 (Nat.le_of_ble_eq_true rfl) (Nat.le_of_ble_eq_true rfl) ?_
  exact ⟨_, rfl, rfl, rfl⟩
set_option maxRecDepth 100000 in
set_option maxHeartbeats 4000000 in
theorem c_clientAt (hF : FR w M Fa Ca Aa Ro Tr n) (x : Int32) : Ci l D dA B yX6_clientAt wX6_clientAt 0 [.ref M, .int x] w (fun v w1 => v = .null ∧ w1 = w) := by
  refine x_Ct.of (cc := cX6_clientAt) (maxL := 2) (by decide) rfl (Nat.le_of_ble_eq_true rfl) ?_
  intro p e s m below meth c F
  refine x_iload_n F dX6_clientAt_0 rfl rfl ?_
  refine x_if_lt F dX6_clientAt_1 rfl (fun h1 => ?_) (fun h1 => ?_)
  · refine x_null F dX6_clientAt_22 ?_
    refine x_aretN F rfl dX6_clientAt_23 (Nat.le_of_ble_eq_true rfl) (Nat.le_of_ble_eq_true rfl) ?_
    exact ⟨_, rfl, rfl, rfl⟩
  · refine x_iload_n F dX6_clientAt_4 rfl rfl ?_
    refine x_aload_n F dX6_clientAt_5 rfl rfl ?_
    refine x_get (ci := 5) (C := RX6) (T := TX6) (N := 12) (k := 1) F dX6_clientAt_6 rfl inX6 (by decide) q80 rfl hF.1 rfl ?_
    refine x_alen (v := 10) F dX6_clientAt_9 rfl hF.2.2 rfl ?_
    refine x_icmp_ge F dX6_clientAt_10 rfl (fun h10 => ?_) (fun h10 => ?_)
    · refine x_null F dX6_clientAt_22 ?_
      refine x_aretN F rfl dX6_clientAt_23 (Nat.le_of_ble_eq_true rfl) (Nat.le_of_ble_eq_true rfl) ?_
      exact ⟨_, rfl, rfl, rfl⟩
    · refine x_aload_n F dX6_clientAt_13 rfl rfl ?_
      refine x_get (ci := 5) (C := RX6) (T := TX6) (N := 12) (k := 1) F dX6_clientAt_14 rfl inX6 (by decide) q80 rfl hF.1 rfl ?_
      refine x_iload_n F dX6_clientAt_17 rfl rfl ?_
      refine x_aald F dX6_clientAt_18 rfl hF.2.2 (x_in (m2 := 10) (by decide) h1 h10) ?_
      refine x_goto F dX6_clientAt_19 rfl ?_
      refine x_aretN F rfl dX6_clientAt_23 (Nat.le_of_ble_eq_true rfl) (Nat.le_of_ble_eq_true rfl) ?_
      exact ⟨_, rfl, rfl, rfl⟩
set_option maxRecDepth 100000 in
set_option maxHeartbeats 4000000 in
theorem c_countVersions (hF : FR w M Fa Ca Aa Ro Tr n) (x : Int32) : Ci l D dA B yX6_countVersions wX6_countVersions 2 [.ref M, .int x] w (fun v w1 => v = .int 0 ∧ w1 = w) := by
  refine x_Ct.of (cc := cX6_countVersions) (maxL := 6) (by decide) rfl (Nat.le_of_ble_eq_true rfl) ?_
  intro p e s m below meth c F
  have loop2 : ∀ n2 f, f + n2 = 4 → X p l e (rmd 2 0 0) s m #[.ref M, .int x] below meth c (MQ below (x_Q D dA vwC1 tyL1 B (fun r w1 => ∃ v, r = some v ∧ (v = .int 0 ∧ w1 = w))) #[.ref M, .int x] s 0 0 (fun q => B ≤ q)) D dA vwC1 B 6 0 0 4 [(0, .ref M), (1, .int x), (2, .int 0), (3, .int (nI f))] [] w := by
    intro n2
    induction n2 with
    | zero =>
      intro f hf1
      obtain rfl : f = 4 := by omega
      refine x_iload_n F dX6_countVersions_4 rfl rfl ?_
      refine x_iconst (v := 4) F dX6_countVersions_5 (by decide) ?_
      refine x_icmp_ge F dX6_countVersions_6 rfl (fun h6 => ?_) (fun hc => absurd hc (fun q => q (Int32.le_refl _)))
      refine x_iload_n F dX6_countVersions_57 rfl rfl ?_
      refine x_iret F rfl rfl dX6_countVersions_58 (Nat.le_of_ble_eq_true rfl) (Nat.le_of_ble_eq_true rfl) ?_
      exact ⟨_, rfl, rfl, rfl⟩
    | succ n2 ih2 =>
      intro f hf1
      have inner : ∀ n1 k, k + n1 = 6 → X p l e (rmd 2 0 0) s m #[.ref M, .int x] below meth c (MQ below (x_Q D dA vwC1 tyL1 B (fun r w1 => ∃ v, r = some v ∧ (v = .int 0 ∧ w1 = w))) #[.ref M, .int x] s 0 0 (fun q => B ≤ q)) D dA vwC1 B 6 0 0 12 [(0, .ref M), (1, .int x), (2, .int 0), (3, .int (nI f)), (4, .int (nI k))] [] w := by
        intro n1
        induction n1 with
        | zero =>
          intro k hk1 
          obtain rfl : k = 6 := by omega
          refine x_iload F dX6_countVersions_12 rfl ?_
          refine x_bipush (v := 6) F dX6_countVersions_14 (by decide) ?_
          refine x_icmp_ge F dX6_countVersions_16 rfl (fun h16 => ?_) (fun hc => absurd hc (fun q => q (Int32.le_refl _)))
          refine x_iincN F dX6_countVersions_51 (by decide) rfl (by decide) ?_
          refine x_goto F dX6_countVersions_54 rfl ?_
          exact x_lk (ih2 (f + 1) (by omega)) ⟨rfl, rfl, rfl, rfl, trivial⟩
        | succ n1 ih =>
          intro k hk1 
          refine x_iload F dX6_countVersions_12 rfl ?_
          refine x_bipush (v := 6) F dX6_countVersions_14 (by decide) ?_
          refine x_icmp_ge F dX6_countVersions_16 rfl (fun hc => absurd hc (nI_ge (b := 6) (by omega) (by decide))) (fun h16 => ?_)
          refine x_aload_n F dX6_countVersions_19 rfl rfl ?_
          refine x_iload_n F dX6_countVersions_20 rfl rfl ?_
          refine x_iload F dX6_countVersions_21 rfl ?_
          refine x_cVi2 (ci := 5) (C := RX6) (T := TX6) (N := 12) F dX6_countVersions_23 (x_gV q119 q120 q636 q1 q121) rfl (c_versionAt hF (nI f) (nI k)) ⟨rfl, rfl, rfl, xd_X6_versionAt, ⟨Nat.le_of_ble_eq_true rfl, Nat.le_of_ble_eq_true rfl⟩, Nat.le_of_ble_eq_true rfl, Nat.le_of_ble_eq_true rfl⟩ rfl hF.1 (Nat.le_of_ble_eq_true rfl) (fun v1 w1 hp => ?_)
          obtain ⟨rfl, hw9⟩ := hp
          replace hw9 := hw9.symm
          subst hw9
          refine x_astoreN F dX6_countVersions_26 (by decide) ?_
          refine x_aloadN F dX6_countVersions_28 rfl ?_
          refine x_ifnullN F dX6_countVersions_30 rfl ?_
          refine x_iincN F dX6_countVersions_45 (by decide) rfl (by decide) ?_
          refine x_goto F dX6_countVersions_48 rfl ?_
          exact x_lk (ih (k + 1) (by omega)) ⟨rfl, rfl, rfl, rfl, rfl, trivial⟩
      refine x_iload_n F dX6_countVersions_4 rfl rfl ?_
      refine x_iconst (v := 4) F dX6_countVersions_5 (by decide) ?_
      refine x_icmp_ge F dX6_countVersions_6 rfl (fun hc => absurd hc (nI_ge (b := 4) (by omega) (by decide))) (fun h6 => ?_)
      refine x_iconst (v := 0) F dX6_countVersions_9 (by decide) ?_
      refine x_istore F dX6_countVersions_10 (by decide) ?_
      exact x_lk (inner 6 0 (by omega)) ⟨rfl, rfl, rfl, rfl, rfl, trivial⟩
  refine x_iconst (v := 0) F dX6_countVersions_0 (by decide) ?_
  refine x_istore_n F dX6_countVersions_1 rfl (by decide) ?_
  refine x_iconst (v := 0) F dX6_countVersions_2 (by decide) ?_
  refine x_istore_n F dX6_countVersions_3 rfl (by decide) ?_
  exact x_lk (loop2 4 0 (by omega)) ⟨rfl, rfl, rfl, rfl, trivial⟩
set_option maxRecDepth 100000 in
set_option maxHeartbeats 4000000 in
theorem c_countOf (hF : FR w M Fa Ca Aa Ro Tr 0) {t : Nat} (ht : t ≤ 10) : Ci l D dA B yX6_countOf wX6_countOf 4 [.ref M, .int (nI t)] w (fun v w1 => v = .int 0 ∧ w1 = w) := by
  refine x_Ct.of (cc := cX6_countOf) (maxL := 2) (by decide) rfl (Nat.le_of_ble_eq_true rfl) ?_
  intro p e s m below meth c F
  rcases le10 ht with rfl | rfl | rfl | rfl | rfl | rfl | rfl | rfl | rfl | rfl | rfl
  · refine x_iload_n F dX6_countOf_0 rfl rfl ?_
    refine x_tableIn (off := 55) (tgt := 56) F dX6_countOf_1 (by decide) (by decide) rfl rfl ?_
    refine x_aload_n F dX6_countOf_56 rfl rfl ?_
    refine x_get (ci := 5) (C := RX6) (T := TX6) (N := 12) (k := 3) F dX6_countOf_57 rfl inX6 (by decide) q82 rfl hF.1 rfl ?_
    refine x_iret F rfl rfl dX6_countOf_60 (Nat.le_of_ble_eq_true rfl) (Nat.le_of_ble_eq_true rfl) ?_
    exact ⟨_, rfl, rfl, rfl⟩
  · refine x_iload_n F dX6_countOf_0 rfl rfl ?_
    refine x_tableIn (off := 60) (tgt := 61) F dX6_countOf_1 (by decide) (by decide) rfl rfl ?_
    refine x_aload_n F dX6_countOf_61 rfl rfl ?_
    refine x_iconst (v := 0) F dX6_countOf_62 (by decide) ?_
    refine x_cVi1 (ci := 5) (C := RX6) (T := TX6) (N := 12) F dX6_countOf_63 (x_gV q116 q117 q635 q1 q118) rfl (c_countVersions hF 0) ⟨rfl, rfl, rfl, xd_X6_countVersions, ⟨Nat.le_of_ble_eq_true rfl, Nat.le_of_ble_eq_true rfl⟩, Nat.le_of_ble_eq_true rfl, Nat.le_of_ble_eq_true rfl⟩ rfl hF.1 (Nat.le_of_ble_eq_true rfl) (fun v1 w1 hp => ?_)
    obtain ⟨rfl, hw9⟩ := hp
    replace hw9 := hw9.symm
    subst hw9
    refine x_aload_n F dX6_countOf_66 rfl rfl ?_
    refine x_iconst (v := 1) F dX6_countOf_67 (by decide) ?_
    refine x_cVi1 (ci := 5) (C := RX6) (T := TX6) (N := 12) F dX6_countOf_68 (x_gV q116 q117 q635 q1 q118) rfl (c_countVersions hF 1) ⟨rfl, rfl, rfl, xd_X6_countVersions, ⟨Nat.le_of_ble_eq_true rfl, Nat.le_of_ble_eq_true rfl⟩, Nat.le_of_ble_eq_true rfl, Nat.le_of_ble_eq_true rfl⟩ rfl hF.1 (Nat.le_of_ble_eq_true rfl) (fun v1 w1 hp => ?_)
    obtain ⟨rfl, hw9⟩ := hp
    replace hw9 := hw9.symm
    subst hw9
    refine x_iadd F dX6_countOf_71 ?_
    refine x_aload_n F dX6_countOf_72 rfl rfl ?_
    refine x_iconst (v := 2) F dX6_countOf_73 (by decide) ?_
    refine x_cVi1 (ci := 5) (C := RX6) (T := TX6) (N := 12) F dX6_countOf_74 (x_gV q116 q117 q635 q1 q118) rfl (c_countVersions hF 2) ⟨rfl, rfl, rfl, xd_X6_countVersions, ⟨Nat.le_of_ble_eq_true rfl, Nat.le_of_ble_eq_true rfl⟩, Nat.le_of_ble_eq_true rfl, Nat.le_of_ble_eq_true rfl⟩ rfl hF.1 (Nat.le_of_ble_eq_true rfl) (fun v1 w1 hp => ?_)
    obtain ⟨rfl, hw9⟩ := hp
    replace hw9 := hw9.symm
    subst hw9
    refine x_iadd F dX6_countOf_77 ?_
    refine x_iret F rfl rfl dX6_countOf_78 (Nat.le_of_ble_eq_true rfl) (Nat.le_of_ble_eq_true rfl) ?_
    exact ⟨_, rfl, rfl, rfl⟩
  · refine x_iload_n F dX6_countOf_0 rfl rfl ?_
    refine x_tableIn (off := 78) (tgt := 79) F dX6_countOf_1 (by decide) (by decide) rfl rfl ?_
    refine x_aload_n F dX6_countOf_79 rfl rfl ?_
    refine x_iconst (v := 0) F dX6_countOf_80 (by decide) ?_
    refine x_cVi1 (ci := 5) (C := RX6) (T := TX6) (N := 12) F dX6_countOf_81 (x_gV q116 q117 q635 q1 q118) rfl (c_countVersions hF 0) ⟨rfl, rfl, rfl, xd_X6_countVersions, ⟨Nat.le_of_ble_eq_true rfl, Nat.le_of_ble_eq_true rfl⟩, Nat.le_of_ble_eq_true rfl, Nat.le_of_ble_eq_true rfl⟩ rfl hF.1 (Nat.le_of_ble_eq_true rfl) (fun v1 w1 hp => ?_)
    obtain ⟨rfl, hw9⟩ := hp
    replace hw9 := hw9.symm
    subst hw9
    refine x_iret F rfl rfl dX6_countOf_84 (Nat.le_of_ble_eq_true rfl) (Nat.le_of_ble_eq_true rfl) ?_
    exact ⟨_, rfl, rfl, rfl⟩
  · refine x_iload_n F dX6_countOf_0 rfl rfl ?_
    refine x_tableIn (off := 84) (tgt := 85) F dX6_countOf_1 (by decide) (by decide) rfl rfl ?_
    refine x_aload_n F dX6_countOf_85 rfl rfl ?_
    refine x_iconst (v := 1) F dX6_countOf_86 (by decide) ?_
    refine x_cVi1 (ci := 5) (C := RX6) (T := TX6) (N := 12) F dX6_countOf_87 (x_gV q116 q117 q635 q1 q118) rfl (c_countVersions hF 1) ⟨rfl, rfl, rfl, xd_X6_countVersions, ⟨Nat.le_of_ble_eq_true rfl, Nat.le_of_ble_eq_true rfl⟩, Nat.le_of_ble_eq_true rfl, Nat.le_of_ble_eq_true rfl⟩ rfl hF.1 (Nat.le_of_ble_eq_true rfl) (fun v1 w1 hp => ?_)
    obtain ⟨rfl, hw9⟩ := hp
    replace hw9 := hw9.symm
    subst hw9
    refine x_iret F rfl rfl dX6_countOf_90 (Nat.le_of_ble_eq_true rfl) (Nat.le_of_ble_eq_true rfl) ?_
    exact ⟨_, rfl, rfl, rfl⟩
  · refine x_iload_n F dX6_countOf_0 rfl rfl ?_
    refine x_tableIn (off := 90) (tgt := 91) F dX6_countOf_1 (by decide) (by decide) rfl rfl ?_
    refine x_aload_n F dX6_countOf_91 rfl rfl ?_
    refine x_iconst (v := 2) F dX6_countOf_92 (by decide) ?_
    refine x_cVi1 (ci := 5) (C := RX6) (T := TX6) (N := 12) F dX6_countOf_93 (x_gV q116 q117 q635 q1 q118) rfl (c_countVersions hF 2) ⟨rfl, rfl, rfl, xd_X6_countVersions, ⟨Nat.le_of_ble_eq_true rfl, Nat.le_of_ble_eq_true rfl⟩, Nat.le_of_ble_eq_true rfl, Nat.le_of_ble_eq_true rfl⟩ rfl hF.1 (Nat.le_of_ble_eq_true rfl) (fun v1 w1 hp => ?_)
    obtain ⟨rfl, hw9⟩ := hp
    replace hw9 := hw9.symm
    subst hw9
    refine x_iret F rfl rfl dX6_countOf_96 (Nat.le_of_ble_eq_true rfl) (Nat.le_of_ble_eq_true rfl) ?_
    exact ⟨_, rfl, rfl, rfl⟩
  · refine x_iload_n F dX6_countOf_0 rfl rfl ?_
    refine x_tableIn (off := 96) (tgt := 97) F dX6_countOf_1 (by decide) (by decide) rfl rfl ?_
    refine x_aload_n F dX6_countOf_97 rfl rfl ?_
    refine x_get (ci := 5) (C := RX6) (T := TX6) (N := 12) (k := 4) F dX6_countOf_98 rfl inX6 (by decide) q83 rfl hF.1 rfl ?_
    refine x_iret F rfl rfl dX6_countOf_101 (Nat.le_of_ble_eq_true rfl) (Nat.le_of_ble_eq_true rfl) ?_
    exact ⟨_, rfl, rfl, rfl⟩
  · refine x_iload_n F dX6_countOf_0 rfl rfl ?_
    refine x_tableIn (off := 101) (tgt := 102) F dX6_countOf_1 (by decide) (by decide) rfl rfl ?_
    refine x_aload_n F dX6_countOf_102 rfl rfl ?_
    refine x_get (ci := 5) (C := RX6) (T := TX6) (N := 12) (k := 5) F dX6_countOf_103 rfl inX6 (by decide) q84 rfl hF.1 rfl ?_
    refine x_iret F rfl rfl dX6_countOf_106 (Nat.le_of_ble_eq_true rfl) (Nat.le_of_ble_eq_true rfl) ?_
    exact ⟨_, rfl, rfl, rfl⟩
  · refine x_iload_n F dX6_countOf_0 rfl rfl ?_
    refine x_tableIn (off := 106) (tgt := 107) F dX6_countOf_1 (by decide) (by decide) rfl rfl ?_
    refine x_aload_n F dX6_countOf_107 rfl rfl ?_
    refine x_get (ci := 5) (C := RX6) (T := TX6) (N := 12) (k := 7) F dX6_countOf_108 rfl inX6 (by decide) q86 rfl hF.1 rfl ?_
    refine x_iret F rfl rfl dX6_countOf_111 (Nat.le_of_ble_eq_true rfl) (Nat.le_of_ble_eq_true rfl) ?_
    exact ⟨_, rfl, rfl, rfl⟩
  · refine x_iload_n F dX6_countOf_0 rfl rfl ?_
    refine x_tableIn (off := 111) (tgt := 112) F dX6_countOf_1 (by decide) (by decide) rfl rfl ?_
    refine x_aload_n F dX6_countOf_112 rfl rfl ?_
    refine x_get (ci := 5) (C := RX6) (T := TX6) (N := 12) (k := 8) F dX6_countOf_113 rfl inX6 (by decide) q87 rfl hF.1 rfl ?_
    refine x_iret F rfl rfl dX6_countOf_116 (Nat.le_of_ble_eq_true rfl) (Nat.le_of_ble_eq_true rfl) ?_
    exact ⟨_, rfl, rfl, rfl⟩
  · refine x_iload_n F dX6_countOf_0 rfl rfl ?_
    refine x_tableIn (off := 116) (tgt := 117) F dX6_countOf_1 (by decide) (by decide) rfl rfl ?_
    refine x_aload_n F dX6_countOf_117 rfl rfl ?_
    refine x_get (ci := 5) (C := RX6) (T := TX6) (N := 12) (k := 9) F dX6_countOf_118 rfl inX6 (by decide) q88 rfl hF.1 rfl ?_
    refine x_iret F rfl rfl dX6_countOf_121 (Nat.le_of_ble_eq_true rfl) (Nat.le_of_ble_eq_true rfl) ?_
    exact ⟨_, rfl, rfl, rfl⟩
  · refine x_iload_n F dX6_countOf_0 rfl rfl ?_
    refine x_tableOut (tgt := 122) F dX6_countOf_1 (by decide) rfl ?_
    refine x_aload_n F dX6_countOf_122 rfl rfl ?_
    refine x_get (ci := 5) (C := RX6) (T := TX6) (N := 12) (k := 6) F dX6_countOf_123 rfl inX6 (by decide) q85 rfl hF.1 rfl ?_
    refine x_iret F rfl rfl dX6_countOf_126 (Nat.le_of_ble_eq_true rfl) (Nat.le_of_ble_eq_true rfl) ?_
    exact ⟨_, rfl, rfl, rfl⟩
set_option maxRecDepth 100000 in
set_option maxHeartbeats 4000000 in
theorem c_digest (hF : FR w M Fa Ca Aa Ro Tr 0) : Ci l D dA B yX6_digest wX6_digest 5 [.ref M] w (fun v w1 => v = .long (f_dg 11 58106) ∧ w1 = w) := by
  refine x_Ct.of (cc := cX6_digest) (maxL := 6) (by decide) rfl (Nat.le_of_ble_eq_true rfl) ?_
  intro p e s m below meth c F
  have loop3 : ∀ n1 k, k + n1 = 10 → X p l e (rmd 5 0 0) s m #[.ref M] below meth c (MQ below (x_Q D dA vwC1 tyL1 B (fun r w1 => ∃ v, r = some v ∧ (v = .long (f_dg 11 58106) ∧ w1 = w))) #[.ref M] s 0 0 (fun q => B ≤ q)) D dA vwC1 B 6 0 0 84 [(0, .ref M), (1, .long (f_dg 11 58106)), (3, .int (nI k))] [] w := by
    intro n1
    induction n1 with
    | zero =>
      intro k hk1 
      obtain rfl : k = 10 := by omega
      refine x_iload_n F dX6_digest_84 rfl rfl ?_
      refine x_aload_n F dX6_digest_85 rfl rfl ?_
      refine x_get (ci := 5) (C := RX6) (T := TX6) (N := 12) (k := 1) F dX6_digest_86 rfl inX6 (by decide) q80 rfl hF.1 rfl ?_
      refine x_alen (v := 10) F dX6_digest_89 rfl hF.2.2 rfl ?_
      refine x_icmp_ge F dX6_digest_90 rfl (fun h90 => ?_) (fun hc => absurd hc (fun q => q (Int32.le_refl _)))
      refine x_lload_n F dX6_digest_120 rfl rfl ?_
      refine x_lret F rfl dX6_digest_121 (Nat.le_of_ble_eq_true rfl) (Nat.le_of_ble_eq_true rfl) ?_
      exact ⟨_, rfl, rfl, rfl⟩
    | succ n1 ih =>
      intro k hk1 
      refine x_iload_n F dX6_digest_84 rfl rfl ?_
      refine x_aload_n F dX6_digest_85 rfl rfl ?_
      refine x_get (ci := 5) (C := RX6) (T := TX6) (N := 12) (k := 1) F dX6_digest_86 rfl inX6 (by decide) q80 rfl hF.1 rfl ?_
      refine x_alen (v := 10) F dX6_digest_89 rfl hF.2.2 rfl ?_
      refine x_icmp_ge F dX6_digest_90 rfl (fun hc => absurd hc (nI_ge (b := 10) (by omega) (by decide))) (fun h90 => ?_)
      refine x_aload_n F dX6_digest_93 rfl rfl ?_
      refine x_get (ci := 5) (C := RX6) (T := TX6) (N := 12) (k := 1) F dX6_digest_94 rfl inX6 (by decide) q80 rfl hF.1 rfl ?_
      refine x_iload_n F dX6_digest_97 rfl rfl ?_
      refine x_aaldN F dX6_digest_98 rfl hF.2.2 (by omega) (by decide) ?_
      refine x_astoreN F dX6_digest_99 (by decide) ?_
      refine x_aloadN F dX6_digest_101 rfl ?_
      refine x_ifnullN F dX6_digest_103 rfl ?_
      refine x_iincN F dX6_digest_114 (by decide) rfl (by decide) ?_
      refine x_goto F dX6_digest_117 rfl ?_
      exact x_lk (ih (k + 1) (by omega)) ⟨rfl, rfl, rfl, trivial⟩
  have loop2 : ∀ n2 f, f + n2 = 4 → X p l e (rmd 5 0 0) s m #[.ref M] below meth c (MQ below (x_Q D dA vwC1 tyL1 B (fun r w1 => ∃ v, r = some v ∧ (v = .long (f_dg 11 58106) ∧ w1 = w))) #[.ref M] s 0 0 (fun q => B ≤ q)) D dA vwC1 B 6 0 0 33 [(0, .ref M), (1, .long (f_dg 11 58106)), (3, .int (nI f))] [] w := by
    intro n2
    induction n2 with
    | zero =>
      intro f hf1
      obtain rfl : f = 4 := by omega
      refine x_iload_n F dX6_digest_33 rfl rfl ?_
      refine x_iconst (v := 4) F dX6_digest_34 (by decide) ?_
      refine x_icmp_ge F dX6_digest_35 rfl (fun h35 => ?_) (fun hc => absurd hc (fun q => q (Int32.le_refl _)))
      refine x_iconst (v := 0) F dX6_digest_82 (by decide) ?_
      refine x_istore_n F dX6_digest_83 rfl (by decide) ?_
      exact x_lk (loop3 10 0 (by omega)) ⟨rfl, rfl, rfl, trivial⟩
    | succ n2 ih2 =>
      intro f hf1
      have inner : ∀ n1 k, k + n1 = 6 → X p l e (rmd 5 0 0) s m #[.ref M] below meth c (MQ below (x_Q D dA vwC1 tyL1 B (fun r w1 => ∃ v, r = some v ∧ (v = .long (f_dg 11 58106) ∧ w1 = w))) #[.ref M] s 0 0 (fun q => B ≤ q)) D dA vwC1 B 6 0 0 41 [(0, .ref M), (1, .long (f_dg 11 58106)), (3, .int (nI f)), (4, .int (nI k))] [] w := by
        intro n1
        induction n1 with
        | zero =>
          intro k hk1 
          obtain rfl : k = 6 := by omega
          refine x_iload F dX6_digest_41 rfl ?_
          refine x_bipush (v := 6) F dX6_digest_43 (by decide) ?_
          refine x_icmp_ge F dX6_digest_45 rfl (fun h45 => ?_) (fun hc => absurd hc (fun q => q (Int32.le_refl _)))
          refine x_iincN F dX6_digest_76 (by decide) rfl (by decide) ?_
          refine x_goto F dX6_digest_79 rfl ?_
          exact x_lk (ih2 (f + 1) (by omega)) ⟨rfl, rfl, rfl, trivial⟩
        | succ n1 ih =>
          intro k hk1 
          refine x_iload F dX6_digest_41 rfl ?_
          refine x_bipush (v := 6) F dX6_digest_43 (by decide) ?_
          refine x_icmp_ge F dX6_digest_45 rfl (fun hc => absurd hc (nI_ge (b := 6) (by omega) (by decide))) (fun h45 => ?_)
          refine x_aload_n F dX6_digest_48 rfl rfl ?_
          refine x_iload_n F dX6_digest_49 rfl rfl ?_
          refine x_iload F dX6_digest_50 rfl ?_
          refine x_cVi2 (ci := 5) (C := RX6) (T := TX6) (N := 12) F dX6_digest_52 (x_gV q119 q120 q636 q1 q121) rfl (c_versionAt hF (nI f) (nI k)) ⟨rfl, rfl, rfl, xd_X6_versionAt, ⟨Nat.le_of_ble_eq_true rfl, Nat.le_of_ble_eq_true rfl⟩, Nat.le_of_ble_eq_true rfl, Nat.le_of_ble_eq_true rfl⟩ rfl hF.1 (Nat.le_of_ble_eq_true rfl) (fun v1 w1 hp => ?_)
          obtain ⟨rfl, hw9⟩ := hp
          replace hw9 := hw9.symm
          subst hw9
          refine x_astoreN F dX6_digest_55 (by decide) ?_
          refine x_aloadN F dX6_digest_57 rfl ?_
          refine x_ifnullN F dX6_digest_59 rfl ?_
          refine x_iincN F dX6_digest_70 (by decide) rfl (by decide) ?_
          refine x_goto F dX6_digest_73 rfl ?_
          exact x_lk (ih (k + 1) (by omega)) ⟨rfl, rfl, rfl, rfl, trivial⟩
      refine x_iload_n F dX6_digest_33 rfl rfl ?_
      refine x_iconst (v := 4) F dX6_digest_34 (by decide) ?_
      refine x_icmp_ge F dX6_digest_35 rfl (fun hc => absurd hc (nI_ge (b := 4) (by omega) (by decide))) (fun h35 => ?_)
      refine x_iconst (v := 0) F dX6_digest_38 (by decide) ?_
      refine x_istore F dX6_digest_39 (by decide) ?_
      exact x_lk (inner 6 0 (by omega)) ⟨rfl, rfl, rfl, rfl, trivial⟩
  have loop1 : ∀ n1 k, k + n1 = 11 → ∀ d, f_dg n1 d = f_dg 11 58106 → X p l e (rmd 5 0 0) s m #[.ref M] below meth c (MQ below (x_Q D dA vwC1 tyL1 B (fun r w1 => ∃ v, r = some v ∧ (v = .long (f_dg 11 58106) ∧ w1 = w))) #[.ref M] s 0 0 (fun q => B ≤ q)) D dA vwC1 B 6 0 0 6 [(0, .ref M), (1, .long d), (3, .int (nI k))] [] w := by
    intro n1
    induction n1 with
    | zero =>
      intro k hk1 d hd
      obtain rfl : k = 11 := by omega
      refine x_iload_n F dX6_digest_6 rfl rfl ?_
      refine x_bipush (v := 10) F dX6_digest_7 (by decide) ?_
      refine x_icmp_gt F dX6_digest_9 rfl (fun h9 => ?_) (fun hc => absurd hc (fun q => q (by decide)))
      refine x_iconst (v := 0) F dX6_digest_31 (by decide) ?_
      refine x_istore_n F dX6_digest_32 rfl (by decide) ?_
      rw [show d = f_dg 11 58106 from hd]
      exact x_lk (loop2 4 0 (by omega)) ⟨rfl, rfl, rfl, trivial⟩
    | succ n1 ih =>
      intro k hk1 d hd
      refine x_iload_n F dX6_digest_6 rfl rfl ?_
      refine x_bipush (v := 10) F dX6_digest_7 (by decide) ?_
      refine x_icmp_gt F dX6_digest_9 rfl (fun hc => absurd hc (nI_nlt (a := 10) (by omega) (by decide))) (fun h9 => ?_)
      refine x_lload_n F dX6_digest_12 rfl rfl ?_
      refine x_ldc2 F dX6_digest_13 q112 ?_
      refine x_lmul F dX6_digest_16 ?_
      refine x_aload_n F dX6_digest_17 rfl rfl ?_
      refine x_iload_n F dX6_digest_18 rfl rfl ?_
      refine x_cVi1 (ci := 5) (C := RX6) (T := TX6) (N := 12) F dX6_digest_19 (x_gV q113 q114 q634 q1 q115) rfl (c_countOf hF (t := k) (by omega)) ⟨rfl, rfl, rfl, xd_X6_countOf, ⟨Nat.le_of_ble_eq_true rfl, Nat.le_of_ble_eq_true rfl⟩, Nat.le_of_ble_eq_true rfl, Nat.le_of_ble_eq_true rfl⟩ rfl hF.1 (Nat.le_of_ble_eq_true rfl) (fun v1 w1 hp => ?_)
      obtain ⟨rfl, hw9⟩ := hp
      replace hw9 := hw9.symm
      subst hw9
      refine x_i2l F dX6_digest_22 ?_
      refine x_ladd F dX6_digest_23 ?_
      refine x_lstore_n F dX6_digest_24 rfl (by decide) ?_
      refine x_iincN F dX6_digest_25 (by decide) rfl (by decide) ?_
      refine x_goto F dX6_digest_28 rfl ?_
      exact x_lk (ih (k + 1) (by omega) _ hd) ⟨rfl, rfl, rfl, trivial⟩
  refine x_ldc2 F dX6_digest_0 q111 ?_
  refine x_lstore_n F dX6_digest_3 rfl (by decide) ?_
  refine x_iconst (v := 0) F dX6_digest_4 (by decide) ?_
  refine x_istore_n F dX6_digest_5 rfl (by decide) ?_
  exact x_lk (loop1 11 0 (by omega) 58106 rfl) ⟨rfl, rfl, rfl, trivial⟩
end CLS
