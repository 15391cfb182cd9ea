/-! ===== facts, and the checksum ===== -/
section FAC
variable {l : Launch} {D : va_G} {dA : Nat → ClassId} {B : Nat} {Z : Nat → Nat → Nat} {K : kT} {J : jT} {w : xW}
def QL (Z : Nat → Nat → Nat) (K : kT) (w : xW) (x : Int64) : Value → xW → Prop := fun v w1 => ∃ J1, v = .long x ∧ Rep Z K J1 w1 ∧ Oth Z K w w1
def f_vfact (K : kT) (i t : Nat) : Int32 := match t with
  | 0 => kV K i 0
  | 1 => kV K i 1
  | 2 => kV K i 2
  | 3 => kV K i 6
  | 4 => kV K i 7
  | 5 => nI (f_cnt (p_caller K i (kG K 0)) 10)
  | 6 => if kV K i 2 = 1 then nI (f_cnt (p_hin K i (kG K 0) false) 10) else 0
  | 7 => kV K i 3
  | 8 => kV K i 4
  | 9 => kV K i 5
  | _ => nI (f_cnt (p_gen K i) 10)
def f_cfact (K : kT) (k t : Nat) : Int32 := match t with
  | 0 => kC K k 0
  | 1 => nI (kCV K k / 6)
  | 2 => nI (kCV K k % 6)
  | 3 => kC K k 1
  | 4 => kC K k 2
  | 5 => kC K k 3
  | 6 => match f_best K k (kCV K k) none with
    | some r => nI r.1.length
    | none => -1
  | 7 => match f_best K k (kCV K k) none with
    | some r => nI (r.2.1 % 6)
    | none => -1
  | _ => match f_best K k (kCV K k) none with
    | some r => r.2.2
    | none => -1
def f_count (K : kT) (t : Nat) : Int32 := match t with
  | 0 => nI (nf K)
  | 1 => nI (f_cnt (p_st K 0) 24) + nI (f_cnt (p_st K 1) 24) + nI (f_cnt (p_st K 2) 24)
  | 2 => nI (f_cnt (p_st K 0) 24)
  | 3 => nI (f_cnt (p_st K 1) 24)
  | 4 => nI (f_cnt (p_st K 2) 24)
  | 5 => nI (nc K)
  | 6 => nI (na K)
  | 7 => kG K 1
  | 8 => kG K 2
  | 9 => kG K 3
  | _ => kG K 0
theorem le10 {t : Nat} (h : t ≤ 10) : t = 0 ∨ t = 1 ∨ t = 2 ∨ t = 3 ∨ t = 4 ∨ t = 5 ∨ t = 6 ∨ t = 7 ∨ t = 8 ∨ t = 9 ∨ t = 10 := by omega
theorem le8 {t : Nat} (h : t ≤ 8) : t = 0 ∨ t = 1 ∨ t = 2 ∨ t = 3 ∨ t = 4 ∨ t = 5 ∨ t = 6 ∨ t = 7 ∨ t = 8 := by omega
set_option maxRecDepth 100000 in
set_option maxHeartbeats 4000000 in
theorem c_versionFact (hR : Rep Z K J w) {i : Nat} (hi : vOk K i) {t : Nat} (ht : t ≤ 10) : Ci l D dA B yX6_versionFact wX6_versionFact 8 [.ref (Z 0 0), .ref (Z 10 i), .int (nI t)] w (QP Z K w (f_vfact K i t)) := by
  refine x_Ct.of (cc := cX6_versionFact) (maxL := 3) (by decide) rfl (Nat.le_of_ble_eq_true rfl) ?_
  intro p e s m below meth c F
  rcases le10 ht with rfl | rfl | rfl | rfl | rfl | rfl | rfl | rfl | rfl | rfl | rfl
  · refine x_iload_n F dX6_versionFact_0 rfl rfl ?_
    refine x_tableIn (off := 55) (tgt := 56) F dX6_versionFact_1 (by decide) (by decide) rfl rfl ?_
    refine x_aload_n F dX6_versionFact_56 rfl rfl ?_
    refine x_get (ci := 5) (C := RX5) (T := TX5) (N := 9) (k := 2) F dX6_versionFact_57 rfl inX5 (by decide) q143 rfl (hR.ver hi) rfl ?_
    refine x_iret F rfl rfl dX6_versionFact_60 (Nat.le_refl _) (Nat.le_refl _) ?_
    exact ⟨_, rfl, _, rfl, hR, Oth.rfl⟩
  · refine x_iload_n F dX6_versionFact_0 rfl rfl ?_
    refine x_tableIn (off := 60) (tgt := 61) F dX6_versionFact_1 (by decide) (by decide) rfl rfl ?_
    refine x_aload_n F dX6_versionFact_61 rfl rfl ?_
    refine x_get (ci := 5) (C := RX5) (T := TX5) (N := 9) (k := 3) F dX6_versionFact_62 rfl inX5 (by decide) q145 rfl (hR.ver hi) rfl ?_
    refine x_iret F rfl rfl dX6_versionFact_65 (Nat.le_refl _) (Nat.le_refl _) ?_
    exact ⟨_, rfl, _, rfl, hR, Oth.rfl⟩
  · refine x_iload_n F dX6_versionFact_0 rfl rfl ?_
    refine x_tableIn (off := 65) (tgt := 66) F dX6_versionFact_1 (by decide) (by decide) rfl rfl ?_
    refine x_aload_n F dX6_versionFact_66 rfl rfl ?_
    refine x_get (ci := 5) (C := RX5) (T := TX5) (N := 9) (k := 5) F dX6_versionFact_67 rfl inX5 (by decide) q149 rfl (hR.ver hi) rfl ?_
    refine x_iret F rfl rfl dX6_versionFact_70 (Nat.le_refl _) (Nat.le_refl _) ?_
    exact ⟨_, rfl, _, rfl, hR, Oth.rfl⟩
  · refine x_iload_n F dX6_versionFact_0 rfl rfl ?_
    refine x_tableIn (off := 70) (tgt := 71) F dX6_versionFact_1 (by decide) (by decide) rfl rfl ?_
    refine x_aload_n F dX6_versionFact_71 rfl rfl ?_
    refine x_get (ci := 5) (C := RX5) (T := TX5) (N := 9) (k := 4) F dX6_versionFact_72 rfl inX5 (by decide) q147 rfl (hR.ver hi) rfl ?_
    refine x_get (ci := 3) (C := RX3) (T := TX3) (N := 4) (k := 1) F dX6_versionFact_75 rfl inX3 (by decide) q56 rfl (hR.ret hi) rfl ?_
    refine x_iret F rfl rfl dX6_versionFact_78 (Nat.le_refl _) (Nat.le_refl _) ?_
    exact ⟨_, rfl, _, rfl, hR, Oth.rfl⟩
  · refine x_iload_n F dX6_versionFact_0 rfl rfl ?_
    refine x_tableIn (off := 78) (tgt := 79) F dX6_versionFact_1 (by decide) (by decide) rfl rfl ?_
    refine x_aload_n F dX6_versionFact_79 rfl rfl ?_
    refine x_get (ci := 5) (C := RX5) (T := TX5) (N := 9) (k := 4) F dX6_versionFact_80 rfl inX5 (by decide) q147 rfl (hR.ver hi) rfl ?_
    refine x_get (ci := 3) (C := RX3) (T := TX3) (N := 4) (k := 2) F dX6_versionFact_83 rfl inX3 (by decide) q58 rfl (hR.ret hi) rfl ?_
    refine x_iret F rfl rfl dX6_versionFact_86 (Nat.le_refl _) (Nat.le_refl _) ?_
    exact ⟨_, rfl, _, rfl, hR, Oth.rfl⟩
  · refine x_iload_n F dX6_versionFact_0 rfl rfl ?_
    refine x_tableIn (off := 86) (tgt := 87) F dX6_versionFact_1 (by decide) (by decide) rfl rfl ?_
    refine x_aload_n F dX6_versionFact_87 rfl rfl ?_
    refine x_aload_n F dX6_versionFact_88 rfl rfl ?_
    refine x_cVi1 (ci := 6) (C := RX6) (T := TX6) (N := 12) F dX6_versionFact_89 (x_gV q183 q184 q451 q1 q185) rfl (c_countCallers hR hi) ⟨rfl, rfl, rfl, xd_X6_countCallers, ⟨Nat.le_of_ble_eq_true rfl, Nat.le_of_ble_eq_true rfl⟩, Nat.le_of_ble_eq_true rfl, Nat.le_of_ble_eq_true rfl⟩ rfl hR.main (Nat.le_of_ble_eq_true rfl) (fun v1 w1 hp => ?_)
    obtain ⟨rfl, hw9⟩ := hp
    replace hw9 := hw9.symm
    subst hw9
    refine x_iret F rfl rfl dX6_versionFact_92 (Nat.le_refl _) (Nat.le_refl _) ?_
    exact ⟨_, rfl, _, rfl, hR, Oth.rfl⟩
  · refine x_iload_n F dX6_versionFact_0 rfl rfl ?_
    refine x_tableIn (off := 92) (tgt := 93) F dX6_versionFact_1 (by decide) (by decide) rfl rfl ?_
    refine x_aload_n F dX6_versionFact_93 rfl rfl ?_
    refine x_get (ci := 5) (C := RX5) (T := TX5) (N := 9) (k := 5) F dX6_versionFact_94 rfl inX5 (by decide) q149 rfl (hR.ver hi) rfl ?_
    refine x_iconst (v := 1) F dX6_versionFact_97 (by decide) ?_
    refine x_icmp_ne F dX6_versionFact_98 rfl (fun h98 => ?_) (fun h98 => ?_)
    · refine x_iconst (v := 0) F dX6_versionFact_118 (by decide) ?_
      refine x_iret F rfl rfl dX6_versionFact_119 (Nat.le_refl _) (Nat.le_refl _) ?_
      first
        | exact ⟨_, rfl, _, congrArg Value.int (if_pos h98).symm, hR, hO⟩
        | exact ⟨_, rfl, _, congrArg Value.int (if_neg h98).symm, hR, Oth.rfl⟩
    · refine x_aload_n F dX6_versionFact_101 rfl rfl ?_
      refine x_aload_n F dX6_versionFact_102 rfl rfl ?_
      refine x_aload_n F dX6_versionFact_103 rfl rfl ?_
      refine x_get (ci := 5) (C := RX5) (T := TX5) (N := 9) (k := 4) F dX6_versionFact_104 rfl inX5 (by decide) q147 rfl (hR.ver hi) rfl ?_
      refine x_aload_n F dX6_versionFact_107 rfl rfl ?_
      refine x_get (ci := 6) (C := RX6) (T := TX6) (N := 12) (k := 6) F dX6_versionFact_108 rfl inX6 (by decide) q71 rfl hR.main rfl ?_
      refine x_iconst (v := 0) F dX6_versionFact_111 (by decide) ?_
      refine x_cVi4 (ci := 6) (C := RX6) (T := TX6) (N := 12) F dX6_versionFact_112 (x_gV q194 q195 q452 q1 q196) rfl (c_countHinderers hR hi (kG K 0) false) ⟨rfl, rfl, rfl, xd_X6_countHinderers, ⟨Nat.le_of_ble_eq_true rfl, Nat.le_of_ble_eq_true rfl⟩, Nat.le_of_ble_eq_true rfl, Nat.le_of_ble_eq_true rfl⟩ rfl hR.main (Nat.le_of_ble_eq_true rfl) (fun v1 w1 hp => ?_)
      obtain ⟨J2, rfl, hR, hO⟩ := hp
      refine x_goto F dX6_versionFact_115 rfl ?_
      refine x_iret F rfl rfl dX6_versionFact_119 (Nat.le_refl _) (Nat.le_refl _) ?_
      first
        | exact ⟨_, rfl, _, congrArg Value.int (if_pos h98).symm, hR, hO⟩
        | exact ⟨_, rfl, _, congrArg Value.int (if_neg h98).symm, hR, Oth.rfl⟩
  · refine x_iload_n F dX6_versionFact_0 rfl rfl ?_
    refine x_tableIn (off := 119) (tgt := 120) F dX6_versionFact_1 (by decide) (by decide) rfl rfl ?_
    refine x_aload_n F dX6_versionFact_120 rfl rfl ?_
    refine x_get (ci := 5) (C := RX5) (T := TX5) (N := 9) (k := 6) F dX6_versionFact_121 rfl inX5 (by decide) q150 rfl (hR.ver hi) rfl ?_
    refine x_iret F rfl rfl dX6_versionFact_124 (Nat.le_refl _) (Nat.le_refl _) ?_
    exact ⟨_, rfl, _, rfl, hR, Oth.rfl⟩
  · refine x_iload_n F dX6_versionFact_0 rfl rfl ?_
    refine x_tableIn (off := 124) (tgt := 125) F dX6_versionFact_1 (by decide) (by decide) rfl rfl ?_
    refine x_aload_n F dX6_versionFact_125 rfl rfl ?_
    refine x_get (ci := 5) (C := RX5) (T := TX5) (N := 9) (k := 7) F dX6_versionFact_126 rfl inX5 (by decide) q151 rfl (hR.ver hi) rfl ?_
    refine x_iret F rfl rfl dX6_versionFact_129 (Nat.le_refl _) (Nat.le_refl _) ?_
    exact ⟨_, rfl, _, rfl, hR, Oth.rfl⟩
  · refine x_iload_n F dX6_versionFact_0 rfl rfl ?_
    refine x_tableIn (off := 129) (tgt := 130) F dX6_versionFact_1 (by decide) (by decide) rfl rfl ?_
    refine x_aload_n F dX6_versionFact_130 rfl rfl ?_
    refine x_get (ci := 5) (C := RX5) (T := TX5) (N := 9) (k := 8) F dX6_versionFact_131 rfl inX5 (by decide) q152 rfl (hR.ver hi) rfl ?_
    refine x_iret F rfl rfl dX6_versionFact_134 (Nat.le_refl _) (Nat.le_refl _) ?_
    exact ⟨_, rfl, _, rfl, hR, Oth.rfl⟩
  · refine x_iload_n F dX6_versionFact_0 rfl rfl ?_
    refine x_tableOut (tgt := 135) F dX6_versionFact_1 (by decide) rfl ?_
    refine x_aload_n F dX6_versionFact_135 rfl rfl ?_
    refine x_aload_n F dX6_versionFact_136 rfl rfl ?_
    refine x_cVi1 (ci := 6) (C := RX6) (T := TX6) (N := 12) F dX6_versionFact_137 (x_gV q225 q226 q455 q1 q227) rfl (c_countGeneratedFor hR hi) ⟨rfl, rfl, rfl, xd_X6_countGeneratedFor, ⟨Nat.le_of_ble_eq_true rfl, Nat.le_of_ble_eq_true rfl⟩, Nat.le_of_ble_eq_true rfl, Nat.le_of_ble_eq_true rfl⟩ rfl hR.main (Nat.le_of_ble_eq_true rfl) (fun v1 w1 hp => ?_)
    obtain ⟨rfl, hw9⟩ := hp
    replace hw9 := hw9.symm
    subst hw9
    refine x_iret F rfl rfl dX6_versionFact_140 (Nat.le_refl _) (Nat.le_refl _) ?_
    exact ⟨_, rfl, _, rfl, hR, Oth.rfl⟩
set_option maxRecDepth 100000 in
set_option maxHeartbeats 4000000 in
theorem c_clientFact (hR : Rep Z K J w) {k : Nat} (hk : k < nc K) {t : Nat} (ht : t ≤ 8) : Ci l D dA B yX6_clientFact wX6_clientFact 7 [.ref (Z 0 0), .ref (Z 13 k), .int (nI t)] w (QP Z K w (f_cfact K k t)) := by
  refine x_Ct.of (cc := cX6_clientFact) (maxL := 3) (by decide) rfl (Nat.le_of_ble_eq_true rfl) ?_
  intro p e s m below meth c F
  rcases le8 ht with rfl | rfl | rfl | rfl | rfl | rfl | rfl | rfl | rfl
  · refine x_iload_n F dX6_clientFact_0 rfl rfl ?_
    refine x_tableIn (off := 47) (tgt := 48) F dX6_clientFact_1 (by decide) (by decide) rfl rfl ?_
    refine x_aload_n F dX6_clientFact_48 rfl rfl ?_
    refine x_get (ci := 1) (C := RX1) (T := TX1) (N := 8) (k := 0) F dX6_clientFact_49 rfl inX1 (by decide) q246 rfl (hR.cli hk) rfl ?_
    refine x_iret F rfl rfl dX6_clientFact_52 (Nat.le_refl _) (Nat.le_refl _) ?_
    exact ⟨_, rfl, _, rfl, hR, Oth.rfl⟩
  · refine x_iload_n F dX6_clientFact_0 rfl rfl ?_
    refine x_tableIn (off := 52) (tgt := 53) F dX6_clientFact_1 (by decide) (by decide) rfl rfl ?_
    refine x_aload_n F dX6_clientFact_53 rfl rfl ?_
    refine x_get (ci := 1) (C := RX1) (T := TX1) (N := 8) (k := 1) F dX6_clientFact_54 rfl inX1 (by decide) q248 rfl (hR.cli hk) rfl ?_
    refine x_get (ci := 2) (C := RX2) (T := TX2) (N := 3) (k := 0) F dX6_clientFact_57 rfl inX2 (by decide) q104 rfl (hR.face (hR.cv hk).1) rfl ?_
    refine x_iret F rfl rfl dX6_clientFact_60 (Nat.le_refl _) (Nat.le_refl _) ?_
    exact ⟨_, rfl, _, rfl, hR, Oth.rfl⟩
  · refine x_iload_n F dX6_clientFact_0 rfl rfl ?_
    refine x_tableIn (off := 60) (tgt := 61) F dX6_clientFact_1 (by decide) (by decide) rfl rfl ?_
    refine x_aload_n F dX6_clientFact_61 rfl rfl ?_
    refine x_get (ci := 1) (C := RX1) (T := TX1) (N := 8) (k := 4) F dX6_clientFact_62 rfl inX1 (by decide) q253 rfl (hR.cli hk) rfl ?_
    refine x_get (ci := 5) (C := RX5) (T := TX5) (N := 9) (k := 1) F dX6_clientFact_65 rfl inX5 (by decide) q141 rfl (hR.ver (hR.cv hk)) rfl ?_
    refine x_iret F rfl rfl dX6_clientFact_68 (Nat.le_refl _) (Nat.le_refl _) ?_
    exact ⟨_, rfl, _, rfl, hR, Oth.rfl⟩
  · refine x_iload_n F dX6_clientFact_0 rfl rfl ?_
    refine x_tableIn (off := 68) (tgt := 69) F dX6_clientFact_1 (by decide) (by decide) rfl rfl ?_
    refine x_aload_n F dX6_clientFact_69 rfl rfl ?_
    refine x_get (ci := 1) (C := RX1) (T := TX1) (N := 8) (k := 5) F dX6_clientFact_70 rfl inX1 (by decide) q255 rfl (hR.cli hk) rfl ?_
    refine x_iret F rfl rfl dX6_clientFact_73 (Nat.le_refl _) (Nat.le_refl _) ?_
    exact ⟨_, rfl, _, rfl, hR, Oth.rfl⟩
  · refine x_iload_n F dX6_clientFact_0 rfl rfl ?_
    refine x_tableIn (off := 73) (tgt := 74) F dX6_clientFact_1 (by decide) (by decide) rfl rfl ?_
    refine x_aload_n F dX6_clientFact_74 rfl rfl ?_
    refine x_get (ci := 1) (C := RX1) (T := TX1) (N := 8) (k := 6) F dX6_clientFact_75 rfl inX1 (by decide) q257 rfl (hR.cli hk) rfl ?_
    refine x_iret F rfl rfl dX6_clientFact_78 (Nat.le_refl _) (Nat.le_refl _) ?_
    exact ⟨_, rfl, _, rfl, hR, Oth.rfl⟩
  · refine x_iload_n F dX6_clientFact_0 rfl rfl ?_
    refine x_tableIn (off := 78) (tgt := 79) F dX6_clientFact_1 (by decide) (by decide) rfl rfl ?_
    refine x_aload_n F dX6_clientFact_79 rfl rfl ?_
    refine x_get (ci := 1) (C := RX1) (T := TX1) (N := 8) (k := 7) F dX6_clientFact_80 rfl inX1 (by decide) q259 rfl (hR.cli hk) rfl ?_
    refine x_iret F rfl rfl dX6_clientFact_83 (Nat.le_refl _) (Nat.le_refl _) ?_
    exact ⟨_, rfl, _, rfl, hR, Oth.rfl⟩
  · refine x_iload_n F dX6_clientFact_0 rfl rfl ?_
    refine x_tableIn (off := 83) (tgt := 84) F dX6_clientFact_1 (by decide) (by decide) rfl rfl ?_
    refine x_aload_n F dX6_clientFact_84 rfl rfl ?_
    refine x_aload_n F dX6_clientFact_85 rfl rfl ?_
    refine x_cVi1 (ci := 6) (C := RX6) (T := TX6) (N := 12) F dX6_clientFact_86 (x_gV q305 q306 q458 q1 q307) rfl (c_findOwnRoute hR hk) ⟨rfl, rfl, rfl, xd_X6_findOwnRoute, ⟨Nat.le_of_ble_eq_true rfl, Nat.le_of_ble_eq_true rfl⟩, Nat.le_of_ble_eq_true rfl, Nat.le_of_ble_eq_true rfl⟩ rfl hR.main (Nat.le_of_ble_eq_true rfl) (fun v1 w1 hp => ?_)
    obtain ⟨J1, rfl, hR, hO, hs, _⟩ := hp
    refine x_if_eq F dX6_clientFact_89 rfl (fun h89 => ?_) (fun h89 => ?_)
    · have hq : f_best K k (kCV K k) none = none := Option.not_isSome_iff_eq_none.mp (by rw [x_b_eq.mp h89]; decide)
      refine x_iconst (v := (-1)) F dX6_clientFact_102 (by decide) ?_
      refine x_iret F rfl rfl dX6_clientFact_103 (Nat.le_refl _) (Nat.le_refl _) ?_
      first
        | exact ⟨_, rfl, _, congrArg Value.int (by simp only [f_cfact, hq]; exact s1), hR, hO⟩
        | exact ⟨_, rfl, _, congrArg Value.int (by simp only [f_cfact, hq]), hR, hO⟩
    · obtain ⟨r0, hq⟩ := Option.isSome_iff_exists.mp (x_b_ne.mp h89)
      obtain ⟨s1, s2, s3, s4, s5⟩ := hs r0 hq
      refine x_aload_n F dX6_clientFact_92 rfl rfl ?_
      refine x_get (ci := 6) (C := RX6) (T := TX6) (N := 12) (k := 10) F dX6_clientFact_93 rfl inX6 (by decide) q75 rfl hR.main rfl ?_
      refine x_get (ci := 4) (C := RX4) (T := TX4) (N := 5) (k := 1) F dX6_clientFact_96 rfl inX4 (by decide) q35 rfl hR.route rfl ?_
      refine x_goto F dX6_clientFact_99 rfl ?_
      refine x_iret F rfl rfl dX6_clientFact_103 (Nat.le_refl _) (Nat.le_refl _) ?_
      first
        | exact ⟨_, rfl, _, congrArg Value.int (by simp only [f_cfact, hq]; exact s1), hR, hO⟩
        | exact ⟨_, rfl, _, congrArg Value.int (by simp only [f_cfact, hq]), hR, hO⟩
  · refine x_iload_n F dX6_clientFact_0 rfl rfl ?_
    refine x_tableIn (off := 103) (tgt := 104) F dX6_clientFact_1 (by decide) (by decide) rfl rfl ?_
    refine x_aload_n F dX6_clientFact_104 rfl rfl ?_
    refine x_aload_n F dX6_clientFact_105 rfl rfl ?_
    refine x_cVi1 (ci := 6) (C := RX6) (T := TX6) (N := 12) F dX6_clientFact_106 (x_gV q305 q306 q458 q1 q307) rfl (c_findOwnRoute hR hk) ⟨rfl, rfl, rfl, xd_X6_findOwnRoute, ⟨Nat.le_of_ble_eq_true rfl, Nat.le_of_ble_eq_true rfl⟩, Nat.le_of_ble_eq_true rfl, Nat.le_of_ble_eq_true rfl⟩ rfl hR.main (Nat.le_of_ble_eq_true rfl) (fun v1 w1 hp => ?_)
    obtain ⟨J1, rfl, hR, hO, hs, _⟩ := hp
    refine x_if_eq F dX6_clientFact_109 rfl (fun h109 => ?_) (fun h109 => ?_)
    · have hq : f_best K k (kCV K k) none = none := Option.not_isSome_iff_eq_none.mp (by rw [x_b_eq.mp h109]; decide)
      refine x_iconst (v := (-1)) F dX6_clientFact_122 (by decide) ?_
      refine x_iret F rfl rfl dX6_clientFact_123 (Nat.le_refl _) (Nat.le_refl _) ?_
      first
        | exact ⟨_, rfl, _, congrArg Value.int (by simp only [f_cfact, hq]; exact s3), hR, hO⟩
        | exact ⟨_, rfl, _, congrArg Value.int (by simp only [f_cfact, hq]), hR, hO⟩
    · obtain ⟨r0, hq⟩ := Option.isSome_iff_exists.mp (x_b_ne.mp h109)
      obtain ⟨s1, s2, s3, s4, s5⟩ := hs r0 hq
      refine x_aload_n F dX6_clientFact_112 rfl rfl ?_
      refine x_get (ci := 6) (C := RX6) (T := TX6) (N := 12) (k := 10) F dX6_clientFact_113 rfl inX6 (by decide) q75 rfl hR.main rfl ?_
      refine x_get (ci := 4) (C := RX4) (T := TX4) (N := 5) (k := 2) F dX6_clientFact_116 rfl inX4 (by decide) q36 rfl hR.route rfl ?_
      refine x_goto F dX6_clientFact_119 rfl ?_
      refine x_iret F rfl rfl dX6_clientFact_123 (Nat.le_refl _) (Nat.le_refl _) ?_
      first
        | exact ⟨_, rfl, _, congrArg Value.int (by simp only [f_cfact, hq]; exact s3), hR, hO⟩
        | exact ⟨_, rfl, _, congrArg Value.int (by simp only [f_cfact, hq]), hR, hO⟩
  · refine x_iload_n F dX6_clientFact_0 rfl rfl ?_
    refine x_tableOut (tgt := 124) F dX6_clientFact_1 (by decide) rfl ?_
    refine x_aload_n F dX6_clientFact_124 rfl rfl ?_
    refine x_aload_n F dX6_clientFact_125 rfl rfl ?_
    refine x_cVi1 (ci := 6) (C := RX6) (T := TX6) (N := 12) F dX6_clientFact_126 (x_gV q305 q306 q458 q1 q307) rfl (c_findOwnRoute hR hk) ⟨rfl, rfl, rfl, xd_X6_findOwnRoute, ⟨Nat.le_of_ble_eq_true rfl, Nat.le_of_ble_eq_true rfl⟩, Nat.le_of_ble_eq_true rfl, Nat.le_of_ble_eq_true rfl⟩ rfl hR.main (Nat.le_of_ble_eq_true rfl) (fun v1 w1 hp => ?_)
    obtain ⟨J1, rfl, hR, hO, hs, _⟩ := hp
    refine x_if_eq F dX6_clientFact_129 rfl (fun h129 => ?_) (fun h129 => ?_)
    · have hq : f_best K k (kCV K k) none = none := Option.not_isSome_iff_eq_none.mp (by rw [x_b_eq.mp h129]; decide)
      refine x_iconst (v := (-1)) F dX6_clientFact_142 (by decide) ?_
      refine x_iret F rfl rfl dX6_clientFact_143 (Nat.le_refl _) (Nat.le_refl _) ?_
      first
        | exact ⟨_, rfl, _, congrArg Value.int (by simp only [f_cfact, hq]; exact s4), hR, hO⟩
        | exact ⟨_, rfl, _, congrArg Value.int (by simp only [f_cfact, hq]), hR, hO⟩
    · obtain ⟨r0, hq⟩ := Option.isSome_iff_exists.mp (x_b_ne.mp h129)
      obtain ⟨s1, s2, s3, s4, s5⟩ := hs r0 hq
      refine x_aload_n F dX6_clientFact_132 rfl rfl ?_
      refine x_get (ci := 6) (C := RX6) (T := TX6) (N := 12) (k := 10) F dX6_clientFact_133 rfl inX6 (by decide) q75 rfl hR.main rfl ?_
      refine x_get (ci := 4) (C := RX4) (T := TX4) (N := 5) (k := 3) F dX6_clientFact_136 rfl inX4 (by decide) q37 rfl hR.route rfl ?_
      refine x_goto F dX6_clientFact_139 rfl ?_
      refine x_iret F rfl rfl dX6_clientFact_143 (Nat.le_refl _) (Nat.le_refl _) ?_
      first
        | exact ⟨_, rfl, _, congrArg Value.int (by simp only [f_cfact, hq]; exact s4), hR, hO⟩
        | exact ⟨_, rfl, _, congrArg Value.int (by simp only [f_cfact, hq]), hR, hO⟩
set_option maxRecDepth 100000 in
set_option maxHeartbeats 4000000 in
theorem c_countOf (hR : Rep Z K J w) {t : Nat} (ht : t ≤ 10) : Ci l D dA B yX6_countOf wX6_countOf 4 [.ref (Z 0 0), .int (nI t)] w (fun v w1 => v = .int (f_count K t) ∧ w1 = w) := by
  refine x_Ct.of (cc := cX6_countOf) (maxL := 2) (by decide) rfl (Nat.le_of_ble_eq_true rfl) ?_
  intro p e s m below meth c F
  rcases le10 ht with rfl | rfl | rfl | rfl | rfl | rfl | rfl | rfl | rfl | rfl | rfl
  · refine x_iload_n F dX6_countOf_0 rfl rfl ?_
    refine x_tableIn (off := 55) (tgt := 56) F dX6_countOf_1 (by decide) (by decide) rfl rfl ?_
    refine x_aload_n F dX6_countOf_56 rfl rfl ?_
    refine x_get (ci := 6) (C := RX6) (T := TX6) (N := 12) (k := 3) F dX6_countOf_57 rfl inX6 (by decide) q68 rfl hR.main rfl ?_
    refine x_iret F rfl rfl dX6_countOf_60 (Nat.le_refl _) (Nat.le_refl _) ?_
    exact ⟨_, rfl, rfl, rfl⟩
  · refine x_iload_n F dX6_countOf_0 rfl rfl ?_
    refine x_tableIn (off := 60) (tgt := 61) F dX6_countOf_1 (by decide) (by decide) rfl rfl ?_
    refine x_aload_n F dX6_countOf_61 rfl rfl ?_
    refine x_iconst (v := 0) F dX6_countOf_62 (by decide) ?_
    refine x_cVi1 (ci := 6) (C := RX6) (T := TX6) (N := 12) F dX6_countOf_63 (x_gV q384 q385 q465 q1 q386) rfl (c_countVersions hR 0) ⟨rfl, rfl, rfl, xd_X6_countVersions, ⟨Nat.le_of_ble_eq_true rfl, Nat.le_of_ble_eq_true rfl⟩, Nat.le_of_ble_eq_true rfl, Nat.le_of_ble_eq_true rfl⟩ rfl hR.main (Nat.le_of_ble_eq_true rfl) (fun v1 w1 hp => ?_)
    obtain ⟨rfl, hw9⟩ := hp
    replace hw9 := hw9.symm
    subst hw9
    refine x_aload_n F dX6_countOf_66 rfl rfl ?_
    refine x_iconst (v := 1) F dX6_countOf_67 (by decide) ?_
    refine x_cVi1 (ci := 6) (C := RX6) (T := TX6) (N := 12) F dX6_countOf_68 (x_gV q384 q385 q465 q1 q386) rfl (c_countVersions hR 1) ⟨rfl, rfl, rfl, xd_X6_countVersions, ⟨Nat.le_of_ble_eq_true rfl, Nat.le_of_ble_eq_true rfl⟩, Nat.le_of_ble_eq_true rfl, Nat.le_of_ble_eq_true rfl⟩ rfl hR.main (Nat.le_of_ble_eq_true rfl) (fun v1 w1 hp => ?_)
    obtain ⟨rfl, hw9⟩ := hp
    replace hw9 := hw9.symm
    subst hw9
    refine x_iadd F dX6_countOf_71 ?_
    refine x_aload_n F dX6_countOf_72 rfl rfl ?_
    refine x_iconst (v := 2) F dX6_countOf_73 (by decide) ?_
    refine x_cVi1 (ci := 6) (C := RX6) (T := TX6) (N := 12) F dX6_countOf_74 (x_gV q384 q385 q465 q1 q386) rfl (c_countVersions hR 2) ⟨rfl, rfl, rfl, xd_X6_countVersions, ⟨Nat.le_of_ble_eq_true rfl, Nat.le_of_ble_eq_true rfl⟩, Nat.le_of_ble_eq_true rfl, Nat.le_of_ble_eq_true rfl⟩ rfl hR.main (Nat.le_of_ble_eq_true rfl) (fun v1 w1 hp => ?_)
    obtain ⟨rfl, hw9⟩ := hp
    replace hw9 := hw9.symm
    subst hw9
    refine x_iadd F dX6_countOf_77 ?_
    refine x_iret F rfl rfl dX6_countOf_78 (Nat.le_refl _) (Nat.le_refl _) ?_
    exact ⟨_, rfl, rfl, rfl⟩
  · refine x_iload_n F dX6_countOf_0 rfl rfl ?_
    refine x_tableIn (off := 78) (tgt := 79) F dX6_countOf_1 (by decide) (by decide) rfl rfl ?_
    refine x_aload_n F dX6_countOf_79 rfl rfl ?_
    refine x_iconst (v := 0) F dX6_countOf_80 (by decide) ?_
    refine x_cVi1 (ci := 6) (C := RX6) (T := TX6) (N := 12) F dX6_countOf_81 (x_gV q384 q385 q465 q1 q386) rfl (c_countVersions hR 0) ⟨rfl, rfl, rfl, xd_X6_countVersions, ⟨Nat.le_of_ble_eq_true rfl, Nat.le_of_ble_eq_true rfl⟩, Nat.le_of_ble_eq_true rfl, Nat.le_of_ble_eq_true rfl⟩ rfl hR.main (Nat.le_of_ble_eq_true rfl) (fun v1 w1 hp => ?_)
    obtain ⟨rfl, hw9⟩ := hp
    replace hw9 := hw9.symm
    subst hw9
    refine x_iret F rfl rfl dX6_countOf_84 (Nat.le_refl _) (Nat.le_refl _) ?_
    exact ⟨_, rfl, rfl, rfl⟩
  · refine x_iload_n F dX6_countOf_0 rfl rfl ?_
    refine x_tableIn (off := 84) (tgt := 85) F dX6_countOf_1 (by decide) (by decide) rfl rfl ?_
    refine x_aload_n F dX6_countOf_85 rfl rfl ?_
    refine x_iconst (v := 1) F dX6_countOf_86 (by decide) ?_
    refine x_cVi1 (ci := 6) (C := RX6) (T := TX6) (N := 12) F dX6_countOf_87 (x_gV q384 q385 q465 q1 q386) rfl (c_countVersions hR 1) ⟨rfl, rfl, rfl, xd_X6_countVersions, ⟨Nat.le_of_ble_eq_true rfl, Nat.le_of_ble_eq_true rfl⟩, Nat.le_of_ble_eq_true rfl, Nat.le_of_ble_eq_true rfl⟩ rfl hR.main (Nat.le_of_ble_eq_true rfl) (fun v1 w1 hp => ?_)
    obtain ⟨rfl, hw9⟩ := hp
    replace hw9 := hw9.symm
    subst hw9
    refine x_iret F rfl rfl dX6_countOf_90 (Nat.le_refl _) (Nat.le_refl _) ?_
    exact ⟨_, rfl, rfl, rfl⟩
  · refine x_iload_n F dX6_countOf_0 rfl rfl ?_
    refine x_tableIn (off := 90) (tgt := 91) F dX6_countOf_1 (by decide) (by decide) rfl rfl ?_
    refine x_aload_n F dX6_countOf_91 rfl rfl ?_
    refine x_iconst (v := 2) F dX6_countOf_92 (by decide) ?_
    refine x_cVi1 (ci := 6) (C := RX6) (T := TX6) (N := 12) F dX6_countOf_93 (x_gV q384 q385 q465 q1 q386) rfl (c_countVersions hR 2) ⟨rfl, rfl, rfl, xd_X6_countVersions, ⟨Nat.le_of_ble_eq_true rfl, Nat.le_of_ble_eq_true rfl⟩, Nat.le_of_ble_eq_true rfl, Nat.le_of_ble_eq_true rfl⟩ rfl hR.main (Nat.le_of_ble_eq_true rfl) (fun v1 w1 hp => ?_)
    obtain ⟨rfl, hw9⟩ := hp
    replace hw9 := hw9.symm
    subst hw9
    refine x_iret F rfl rfl dX6_countOf_96 (Nat.le_refl _) (Nat.le_refl _) ?_
    exact ⟨_, rfl, rfl, rfl⟩
  · refine x_iload_n F dX6_countOf_0 rfl rfl ?_
    refine x_tableIn (off := 96) (tgt := 97) F dX6_countOf_1 (by decide) (by decide) rfl rfl ?_
    refine x_aload_n F dX6_countOf_97 rfl rfl ?_
    refine x_get (ci := 6) (C := RX6) (T := TX6) (N := 12) (k := 4) F dX6_countOf_98 rfl inX6 (by decide) q69 rfl hR.main rfl ?_
    refine x_iret F rfl rfl dX6_countOf_101 (Nat.le_refl _) (Nat.le_refl _) ?_
    exact ⟨_, rfl, rfl, rfl⟩
  · refine x_iload_n F dX6_countOf_0 rfl rfl ?_
    refine x_tableIn (off := 101) (tgt := 102) F dX6_countOf_1 (by decide) (by decide) rfl rfl ?_
    refine x_aload_n F dX6_countOf_102 rfl rfl ?_
    refine x_get (ci := 6) (C := RX6) (T := TX6) (N := 12) (k := 5) F dX6_countOf_103 rfl inX6 (by decide) q70 rfl hR.main rfl ?_
    refine x_iret F rfl rfl dX6_countOf_106 (Nat.le_refl _) (Nat.le_refl _) ?_
    exact ⟨_, rfl, rfl, rfl⟩
  · refine x_iload_n F dX6_countOf_0 rfl rfl ?_
    refine x_tableIn (off := 106) (tgt := 107) F dX6_countOf_1 (by decide) (by decide) rfl rfl ?_
    refine x_aload_n F dX6_countOf_107 rfl rfl ?_
    refine x_get (ci := 6) (C := RX6) (T := TX6) (N := 12) (k := 7) F dX6_countOf_108 rfl inX6 (by decide) q72 rfl hR.main rfl ?_
    refine x_iret F rfl rfl dX6_countOf_111 (Nat.le_refl _) (Nat.le_refl _) ?_
    exact ⟨_, rfl, rfl, rfl⟩
  · refine x_iload_n F dX6_countOf_0 rfl rfl ?_
    refine x_tableIn (off := 111) (tgt := 112) F dX6_countOf_1 (by decide) (by decide) rfl rfl ?_
    refine x_aload_n F dX6_countOf_112 rfl rfl ?_
    refine x_get (ci := 6) (C := RX6) (T := TX6) (N := 12) (k := 8) F dX6_countOf_113 rfl inX6 (by decide) q73 rfl hR.main rfl ?_
    refine x_iret F rfl rfl dX6_countOf_116 (Nat.le_refl _) (Nat.le_refl _) ?_
    exact ⟨_, rfl, rfl, rfl⟩
  · refine x_iload_n F dX6_countOf_0 rfl rfl ?_
    refine x_tableIn (off := 116) (tgt := 117) F dX6_countOf_1 (by decide) (by decide) rfl rfl ?_
    refine x_aload_n F dX6_countOf_117 rfl rfl ?_
    refine x_get (ci := 6) (C := RX6) (T := TX6) (N := 12) (k := 9) F dX6_countOf_118 rfl inX6 (by decide) q74 rfl hR.main rfl ?_
    refine x_iret F rfl rfl dX6_countOf_121 (Nat.le_refl _) (Nat.le_refl _) ?_
    exact ⟨_, rfl, rfl, rfl⟩
  · refine x_iload_n F dX6_countOf_0 rfl rfl ?_
    refine x_tableOut (tgt := 122) F dX6_countOf_1 (by decide) rfl ?_
    refine x_aload_n F dX6_countOf_122 rfl rfl ?_
    refine x_get (ci := 6) (C := RX6) (T := TX6) (N := 12) (k := 6) F dX6_countOf_123 rfl inX6 (by decide) q71 rfl hR.main rfl ?_
    refine x_iret F rfl rfl dX6_countOf_126 (Nat.le_refl _) (Nat.le_refl _) ?_
    exact ⟨_, rfl, rfl, rfl⟩
def f_tail (g : Nat → Int32) (n k : Nat) (d : Int64) : Int64 := match n with
  | 0 => d
  | n + 1 => f_tail g n (k + 1) (d * 31 + (g k).toInt64)
def f_tailv (K : kT) (g : Nat → Int32) (f n k : Nat) (d : Int64) : Int64 := match n with
  | 0 => d
  | n + 1 => f_tailv K g f n (k + 1) (if k < nv K f then d * 31 + (g k).toInt64 else d)
def f_dv (K : kT) (i : Nat) (d : Int64) : Int64 := f_tail (fun o => f_askst K (nI o) i) 5 0 ((f_tail (f_vfact K i) 11 0 d) * 31 + (f_left K i).toInt64)
set_option maxRecDepth 100000 in
set_option maxHeartbeats 4000000 in
theorem c_digestVersion (hR : Rep Z K J w) {i : Nat} (hi : vOk K i) (d0 : Int64) : Ci l D dA B yX6_digestVersion wX6_digestVersion 10 [.ref (Z 0 0), .long d0, .ref (Z 10 i)] w (QL Z K w (f_dv K i d0)) := by
  refine x_Ct.of (cc := cX6_digestVersion) (maxL := 7) (by decide) rfl (Nat.le_of_ble_eq_true rfl) ?_
  intro p e s m below meth c F
  have loop2 : ∀ n1 k, k + n1 = 5 → ∀ d Jz wz, Rep Z K Jz wz → Oth Z K w wz → f_dv K i d0 = f_tail (fun o => f_askst K (nI o) i) n1 k d → X p l e (rmd 10 0 0) s m #[.ref (Z 0 0), .long d0, .ref (Z 10 i)] below meth c (MQ below (x_Q D dA vwCl tyL0 B (fun r w1 => ∃ v, r = some v ∧ (QL Z K w (f_dv K i d0) v w1))) #[.ref (Z 0 0), .long d0, .ref (Z 10 i)] s 0 0 (fun q => B ≤ q)) D dA vwCl B 7 0 0 54 [(0, .ref (Z 0 0)), (1, .long d0), (3, .ref (Z 10 i)), (4, .long d), (6, .int (nI k))] [] wz := by
    intro n1
    induction n1 with
    | zero =>
      intro k hk1 d Jz wz hR hO hf
      obtain rfl : k = 5 := by omega
      refine x_iload F dX6_digestVersion_54 rfl ?_
      refine x_iconst (v := 5) F dX6_digestVersion_56 (by decide) ?_
      refine x_icmp_ge F dX6_digestVersion_57 rfl (fun h57 => ?_) (fun hc => absurd hc (fun q => q (Int32.le_refl _)))
      refine x_lload F dX6_digestVersion_83 rfl ?_
      refine x_lret F rfl dX6_digestVersion_85 (Nat.le_refl _) (Nat.le_refl _) ?_
      exact ⟨_, rfl, _, by rw [hf]; rfl, hR, hO⟩
    | succ n1 ih =>
      intro k hk1 d Jz wz hR hO hf
      refine x_iload F dX6_digestVersion_54 rfl ?_
      refine x_iconst (v := 5) F dX6_digestVersion_56 (by decide) ?_
      refine x_icmp_ge F dX6_digestVersion_57 rfl (fun hc => absurd hc (nI_ge (b := 5) (by omega) (by decide))) (fun h57 => ?_)
      refine x_lload F dX6_digestVersion_60 rfl ?_
      refine x_ldc2 F dX6_digestVersion_62 q415 ?_
      refine x_lmul F dX6_digestVersion_65 ?_
      refine x_aload_n F dX6_digestVersion_66 rfl rfl ?_
      refine x_iload F dX6_digestVersion_67 rfl ?_
      refine x_aload_n F dX6_digestVersion_69 rfl rfl ?_
      refine x_cVi2 (ci := 6) (C := RX6) (T := TX6) (N := 12) F dX6_digestVersion_70 (x_gV q373 q374 q463 q1 q375) rfl (c_askedState hR hi (nI k)) ⟨rfl, rfl, rfl, xd_X6_askedState, ⟨Nat.le_of_ble_eq_true rfl, Nat.le_of_ble_eq_true rfl⟩, Nat.le_of_ble_eq_true rfl, Nat.le_of_ble_eq_true rfl⟩ rfl hR.main (Nat.le_of_ble_eq_true rfl) (fun v1 w1 hp => ?_)
      obtain ⟨rfl, hw9⟩ := hp
      replace hw9 := hw9.symm
      subst hw9
      refine x_i2l F dX6_digestVersion_73 ?_
      refine x_ladd F dX6_digestVersion_74 ?_
      refine x_lstore F dX6_digestVersion_75 (by decide) ?_
      refine x_iincN F dX6_digestVersion_77 (by decide) rfl (by decide) ?_
      refine x_goto F dX6_digestVersion_80 rfl ?_
      exact x_lk (ih (k + 1) (by omega) _ _ _ hR hO hf) ⟨rfl, rfl, rfl, rfl, rfl, trivial⟩
  have loop1 : ∀ n1 k, k + n1 = 11 → ∀ d Jz wz, Rep Z K Jz wz → Oth Z K w wz → f_dv K i d0 = f_tail (fun o => f_askst K (nI o) i) 5 0 ((f_tail (f_vfact K i) n1 k d) * 31 + (f_left K i).toInt64) → X p l e (rmd 10 0 0) s m #[.ref (Z 0 0), .long d0, .ref (Z 10 i)] below meth c (MQ below (x_Q D dA vwCl tyL0 B (fun r w1 => ∃ v, r = some v ∧ (QL Z K w (f_dv K i d0) v w1))) #[.ref (Z 0 0), .long d0, .ref (Z 10 i)] s 0 0 (fun q => B ≤ q)) D dA vwCl B 7 0 0 6 [(0, .ref (Z 0 0)), (1, .long d0), (3, .ref (Z 10 i)), (4, .long d), (6, .int (nI k))] [] wz := by
    intro n1
    induction n1 with
    | zero =>
      intro k hk1 d Jz wz hR hO hf
      obtain rfl : k = 11 := by omega
      refine x_iload F dX6_digestVersion_6 rfl ?_
      refine x_bipush (v := 10) F dX6_digestVersion_8 (by decide) ?_
      refine x_icmp_gt F dX6_digestVersion_10 rfl (fun h10 => ?_) (fun hc => absurd hc (fun q => q (by decide)))
      refine x_lload F dX6_digestVersion_36 rfl ?_
      refine x_ldc2 F dX6_digestVersion_38 q415 ?_
      refine x_lmul F dX6_digestVersion_41 ?_
      refine x_aload_n F dX6_digestVersion_42 rfl rfl ?_
      refine x_aload_n F dX6_digestVersion_43 rfl rfl ?_
      refine x_cVi1 (ci := 6) (C := RX6) (T := TX6) (N := 12) F dX6_digestVersion_44 (x_gV q419 q420 q470 q1 q421) rfl (c_hoursLeft hR hi) ⟨rfl, rfl, rfl, xd_X6_hoursLeft, ⟨Nat.le_of_ble_eq_true rfl, Nat.le_of_ble_eq_true rfl⟩, Nat.le_of_ble_eq_true rfl, Nat.le_of_ble_eq_true rfl⟩ rfl hR.main (Nat.le_of_ble_eq_true rfl) (fun v1 w1 hp => ?_)
      obtain ⟨J2, rfl, hR, hO2⟩ := hp
      have hO := hO.trans hO2 rfl
      refine x_i2l F dX6_digestVersion_47 ?_
      refine x_ladd F dX6_digestVersion_48 ?_
      refine x_lstore F dX6_digestVersion_49 (by decide) ?_
      refine x_iconst (v := 0) F dX6_digestVersion_51 (by decide) ?_
      refine x_istore F dX6_digestVersion_52 (by decide) ?_
      exact x_lk (loop2 5 0 (by omega) _ _ _ hR hO hf) ⟨rfl, rfl, rfl, rfl, rfl, trivial⟩
    | succ n1 ih =>
      intro k hk1 d Jz wz hR hO hf
      refine x_iload F dX6_digestVersion_6 rfl ?_
      refine x_bipush (v := 10) F dX6_digestVersion_8 (by decide) ?_
      refine x_icmp_gt F dX6_digestVersion_10 rfl (fun hc => absurd hc (nI_nlt (a := 10) (by omega) (by decide))) (fun h10 => ?_)
      refine x_lload F dX6_digestVersion_13 rfl ?_
      refine x_ldc2 F dX6_digestVersion_15 q415 ?_
      refine x_lmul F dX6_digestVersion_18 ?_
      refine x_aload_n F dX6_digestVersion_19 rfl rfl ?_
      refine x_aload_n F dX6_digestVersion_20 rfl rfl ?_
      refine x_iload F dX6_digestVersion_21 rfl ?_
      refine x_cVi2 (ci := 6) (C := RX6) (T := TX6) (N := 12) F dX6_digestVersion_23 (x_gV q180 q181 q450 q1 q182) rfl (c_versionFact hR hi (t := k) (by omega)) ⟨rfl, rfl, rfl, xd_X6_versionFact, ⟨Nat.le_of_ble_eq_true rfl, Nat.le_of_ble_eq_true rfl⟩, Nat.le_of_ble_eq_true rfl, Nat.le_of_ble_eq_true rfl⟩ rfl hR.main (Nat.le_of_ble_eq_true rfl) (fun v1 w1 hp => ?_)
      obtain ⟨J2, rfl, hR, hO2⟩ := hp
      have hO := hO.trans hO2 rfl
      refine x_i2l F dX6_digestVersion_26 ?_
      refine x_ladd F dX6_digestVersion_27 ?_
      refine x_lstore F dX6_digestVersion_28 (by decide) ?_
      refine x_iincN F dX6_digestVersion_30 (by decide) rfl (by decide) ?_
      refine x_goto F dX6_digestVersion_33 rfl ?_
      exact x_lk (ih (k + 1) (by omega) _ _ _ hR hO hf) ⟨rfl, rfl, rfl, rfl, rfl, trivial⟩
  refine x_lload_n F dX6_digestVersion_0 rfl rfl ?_
  refine x_lstore F dX6_digestVersion_1 (by decide) ?_
  refine x_iconst (v := 0) F dX6_digestVersion_3 (by decide) ?_
  refine x_istore F dX6_digestVersion_4 (by decide) ?_
  exact x_lk (loop1 11 0 (by omega) d0 J w hR Oth.rfl rfl) ⟨rfl, rfl, rfl, rfl, rfl, trivial⟩
def q_len (q : Option (List Nat × Nat × Int32)) : Nat := match q with
  | some r => r.1.length
  | none => 0
def q_at (q : Option (List Nat × Nat × Int32)) (t : Nat) : Int32 := match q with
  | some r => nI (r.1.getD t 0)
  | none => 0
def f_dc3 (K : kT) (k : Nat) (d : Int64) : Int64 := ((d * 31 + (f_ocin K k 0).toInt64) * 31 + (f_ocin K k 30).toInt64) * 31 + ((f_near K k 6).1).toInt64
def f_dc2 (K : kT) (k : Nat) (d : Int64) : Int64 := f_dc3 K k (f_tailv K (fun n => f_since K k (6 * (kCV K k / 6) + n)) (kCV K k / 6) 6 0 d)
def f_dc1 (K : kT) (k : Nat) (d : Int64) : Int64 := f_dc2 K k (f_tail (q_at (f_best K k (kCV K k) none)) (q_len (f_best K k (kCV K k) none)) 0 d)
def f_dc (K : kT) (k : Nat) (d : Int64) : Int64 := f_dc1 K k (f_tail (f_cfact K k) 9 0 d)
set_option maxRecDepth 100000 in
set_option maxHeartbeats 4000000 in
theorem c_digestClient (hR : Rep Z K J w) {k : Nat} (hk : k < nc K) (d0 : Int64) : Ci l D dA B yX6_digestClient wX6_digestClient 10 [.ref (Z 0 0), .long d0, .ref (Z 13 k)] w (QL Z K w (f_dc K k d0)) := by
  refine x_Ct.of (cc := cX6_digestClient) (maxL := 8) (by decide) rfl (Nat.le_of_ble_eq_true rfl) ?_
  intro p e s m below meth c F
  have loop3 : ∀ n1 t, t + n1 = 6 → ∀ d Jz wz, Rep Z K Jz wz → Oth Z K w wz → f_dc K k d0 = f_dc3 K k (f_tailv K (fun n => f_since K k (6 * (kCV K k / 6) + n)) (kCV K k / 6) n1 t d) → X p l e (rmd 10 0 0) s m #[.ref (Z 0 0), .long d0, .ref (Z 13 k)] below meth c (MQ below (x_Q D dA vwCl tyL0 B (fun r w1 => ∃ v, r = some v ∧ (QL Z K w (f_dc K k d0) v w1))) #[.ref (Z 0 0), .long d0, .ref (Z 13 k)] s 0 0 (fun q => B ≤ q)) D dA vwCl B 8 0 0 99 [(0, .ref (Z 0 0)), (1, .long d0), (3, .ref (Z 13 k)), (4, .long d), (6, .int (nI t))] [] wz := by
    intro n1
    induction n1 with
    | zero =>
      intro t hk1 d Jz wz hR hO hf
      obtain rfl : t = 6 := by omega
      refine x_iload F dX6_digestClient_99 rfl ?_
      refine x_bipush (v := 6) F dX6_digestClient_101 (by decide) ?_
      refine x_icmp_ge F dX6_digestClient_103 rfl (fun h103 => ?_) (fun hc => absurd hc (fun q => q (Int32.le_refl _)))
      refine x_lload F dX6_digestClient_145 rfl ?_
      refine x_ldc2 F dX6_digestClient_147 q415 ?_
      refine x_lmul F dX6_digestClient_150 ?_
      refine x_aload_n F dX6_digestClient_151 rfl rfl ?_
      refine x_aload_n F dX6_digestClient_152 rfl rfl ?_
      refine x_iconst (v := 0) F dX6_digestClient_153 (by decide) ?_
      refine x_cVi2 (ci := 6) (C := RX6) (T := TX6) (N := 12) F dX6_digestClient_154 (x_gV q391 q392 q466 q1 q393) rfl (c_outcomeIn hR hk 0) ⟨rfl, rfl, rfl, xd_X6_outcomeIn, ⟨Nat.le_of_ble_eq_true rfl, Nat.le_of_ble_eq_true rfl⟩, Nat.le_of_ble_eq_true rfl, Nat.le_of_ble_eq_true rfl⟩ rfl hR.main (Nat.le_of_ble_eq_true rfl) (fun v1 w1 hp => ?_)
      obtain ⟨J2, rfl, hR, hO2⟩ := hp
      have hO := hO.trans hO2 rfl
      refine x_i2l F dX6_digestClient_157 ?_
      refine x_ladd F dX6_digestClient_158 ?_
      refine x_lstore F dX6_digestClient_159 (by decide) ?_
      refine x_lload F dX6_digestClient_161 rfl ?_
      refine x_ldc2 F dX6_digestClient_163 q415 ?_
      refine x_lmul F dX6_digestClient_166 ?_
      refine x_aload_n F dX6_digestClient_167 rfl rfl ?_
      refine x_aload_n F dX6_digestClient_168 rfl rfl ?_
      refine x_bipush (v := 30) F dX6_digestClient_169 (by decide) ?_
      refine x_cVi2 (ci := 6) (C := RX6) (T := TX6) (N := 12) F dX6_digestClient_171 (x_gV q391 q392 q466 q1 q393) rfl (c_outcomeIn hR hk 30) ⟨rfl, rfl, rfl, xd_X6_outcomeIn, ⟨Nat.le_of_ble_eq_true rfl, Nat.le_of_ble_eq_true rfl⟩, Nat.le_of_ble_eq_true rfl, Nat.le_of_ble_eq_true rfl⟩ rfl hR.main (Nat.le_of_ble_eq_true rfl) (fun v1 w1 hp => ?_)
      obtain ⟨J2, rfl, hR, hO2⟩ := hp
      have hO := hO.trans hO2 rfl
      refine x_i2l F dX6_digestClient_174 ?_
      refine x_ladd F dX6_digestClient_175 ?_
      refine x_lstore F dX6_digestClient_176 (by decide) ?_
      refine x_lload F dX6_digestClient_178 rfl ?_
      refine x_ldc2 F dX6_digestClient_180 q415 ?_
      refine x_lmul F dX6_digestClient_183 ?_
      refine x_aload_n F dX6_digestClient_184 rfl rfl ?_
      refine x_aload_n F dX6_digestClient_185 rfl rfl ?_
      refine x_cVi1 (ci := 6) (C := RX6) (T := TX6) (N := 12) F dX6_digestClient_186 (x_gV q401 q402 q468 q1 q403) rfl (c_nearestOpen hR hk) ⟨rfl, rfl, rfl, xd_X6_nearestOpen, ⟨Nat.le_of_ble_eq_true rfl, Nat.le_of_ble_eq_true rfl⟩, Nat.le_of_ble_eq_true rfl, Nat.le_of_ble_eq_true rfl⟩ rfl hR.main (Nat.le_of_ble_eq_true rfl) (fun v1 w1 hp => ?_)
      obtain ⟨rfl, hw9⟩ := hp
      replace hw9 := hw9.symm
      subst hw9
      refine x_i2l F dX6_digestClient_189 ?_
      refine x_ladd F dX6_digestClient_190 ?_
      refine x_lret F rfl dX6_digestClient_191 (Nat.le_refl _) (Nat.le_refl _) ?_
      exact ⟨_, rfl, _, by rw [hf]; rfl, hR, hO⟩
    | succ n1 ih =>
      intro t hk1 d Jz wz hR hO hf
      refine x_iload F dX6_digestClient_99 rfl ?_
      refine x_bipush (v := 6) F dX6_digestClient_101 (by decide) ?_
      refine x_icmp_ge F dX6_digestClient_103 rfl (fun hc => absurd hc (nI_ge (b := 6) (by omega) (by decide))) (fun h103 => ?_)
      refine x_aload_n F dX6_digestClient_106 rfl rfl ?_
      refine x_get (ci := 1) (C := RX1) (T := TX1) (N := 8) (k := 1) F dX6_digestClient_107 rfl inX1 (by decide) q248 rfl (hR.cli hk) rfl ?_
      refine x_iload F dX6_digestClient_110 rfl ?_
      refine x_cVi1 (ci := 2) (C := RX2) (T := TX2) (N := 3) F dX6_digestClient_112 (x_gV q165 q166 q167 q9 q168) rfl (c_fVersionAt hR (hR.cv hk).1 (nI t)) ⟨rfl, rfl, rfl, xd_X2_versionAt, ⟨Nat.le_of_ble_eq_true rfl, Nat.le_of_ble_eq_true rfl⟩, Nat.le_of_ble_eq_true rfl, Nat.le_of_ble_eq_true rfl⟩ rfl (hR.face (hR.cv hk).1) (Nat.le_of_ble_eq_true rfl) (fun v1 w1 hp => ?_)
      obtain ⟨rfl, hw9⟩ := hp
      replace hw9 := hw9.symm
      subst hw9
      rw [f_fver_nI (by omega)]
      unfold g_ver
      by_cases hv : t < nv K (kCV K k / 6)
      · rw [if_pos hv]
        have hi : vOk K (6 * (kCV K k / 6) + t) := by unfold vOk; rw [show (6 * (kCV K k / 6) + t) / 6 = kCV K k / 6 by omega, show (6 * (kCV K k / 6) + t) % 6 = t by omega]; exact ⟨(hR.cv hk).1, hv⟩
        simp only [f_tailv, if_pos hv] at hf
        refine x_astore F dX6_digestClient_115 (by decide) ?_
        refine x_aload F dX6_digestClient_117 rfl ?_
        refine x_ifnull F dX6_digestClient_119 ?_
        refine x_lload F dX6_digestClient_122 rfl ?_
        refine x_ldc2 F dX6_digestClient_124 q415 ?_
        refine x_lmul F dX6_digestClient_127 ?_
        refine x_aload_n F dX6_digestClient_128 rfl rfl ?_
        refine x_aload_n F dX6_digestClient_129 rfl rfl ?_
        refine x_aload F dX6_digestClient_130 rfl ?_
        refine x_cVi2 (ci := 6) (C := RX6) (T := TX6) (N := 12) F dX6_digestClient_132 (x_gV q345 q346 q461 q1 q347) rfl (c_hoursSinceCall hR hk hi) ⟨rfl, rfl, rfl, xd_X6_hoursSinceCall, ⟨Nat.le_of_ble_eq_true rfl, Nat.le_of_ble_eq_true rfl⟩, Nat.le_of_ble_eq_true rfl, Nat.le_of_ble_eq_true rfl⟩ rfl hR.main (Nat.le_of_ble_eq_true rfl) (fun v1 w1 hp => ?_)
        obtain ⟨rfl, hw9⟩ := hp
        replace hw9 := hw9.symm
        subst hw9
        refine x_i2l F dX6_digestClient_135 ?_
        refine x_ladd F dX6_digestClient_136 ?_
        refine x_lstore F dX6_digestClient_137 (by decide) ?_
        refine x_iincN F dX6_digestClient_139 (by decide) rfl (by decide) ?_
        refine x_goto F dX6_digestClient_142 rfl ?_
        exact x_lk (ih (t + 1) (by omega) _ _ _ hR hO hf) ⟨rfl, rfl, rfl, rfl, rfl, trivial⟩
      · rw [if_neg hv]
        simp only [f_tailv, if_neg hv] at hf
        refine x_astoreN F dX6_digestClient_115 (by decide) ?_
        refine x_aloadN F dX6_digestClient_117 rfl ?_
        refine x_ifnullN F dX6_digestClient_119 rfl ?_
        refine x_iincN F dX6_digestClient_139 (by decide) rfl (by decide) ?_
        refine x_goto F dX6_digestClient_142 rfl ?_
        exact x_lk (ih (t + 1) (by omega) _ _ _ hR hO hf) ⟨rfl, rfl, rfl, rfl, rfl, trivial⟩
  have loop2 : ∀ q J1 w1, f_best K k (kCV K k) none = q → Rep Z K J1 w1 → Oth Z K w w1 → J1.2.1 0 = nI (q_len q) → q_len q ≤ 3 → (∀ t, t < q_len q → J1.1 t = q_at q t) → ∀ n1 t, t + n1 = q_len q → ∀ d, f_dc K k d0 = f_dc2 K k (f_tail (q_at q) n1 t d) → X p l e (rmd 10 0 0) s m #[.ref (Z 0 0), .long d0, .ref (Z 13 k)] below meth c (MQ below (x_Q D dA vwCl tyL0 B (fun r w1 => ∃ v, r = some v ∧ (QL Z K w (f_dc K k d0) v w1))) #[.ref (Z 0 0), .long d0, .ref (Z 13 k)] s 0 0 (fun q => B ≤ q)) D dA vwCl B 8 0 0 45 [(0, .ref (Z 0 0)), (1, .long d0), (3, .ref (Z 13 k)), (4, .long d), (6, .int (nI t))] [] w1 := by
    intro q J1 w1 hq hR hO hL h3 hst n1
    induction n1 with
    | zero =>
      intro t ht d hf
      obtain rfl : t = q_len q := by omega
      refine x_iload F dX6_digestClient_45 rfl ?_
      refine x_aload_n F dX6_digestClient_47 rfl rfl ?_
      refine x_get (ci := 6) (C := RX6) (T := TX6) (N := 12) (k := 10) F dX6_digestClient_48 rfl inX6 (by decide) q75 rfl hR.main rfl ?_
      refine x_get (ci := 4) (C := RX4) (T := TX4) (N := 5) (k := 1) F dX6_digestClient_51 rfl inX4 (by decide) q35 rfl hR.route rfl ?_
      rw [hL]
      refine x_icmp_ge F dX6_digestClient_54 rfl (fun h54 => ?_) (fun hc => absurd hc (fun q => q (Int32.le_refl _)))
      refine x_iconst (v := 0) F dX6_digestClient_96 (by decide) ?_
      refine x_istore F dX6_digestClient_97 (by decide) ?_
      exact x_lk (loop3 6 0 (by omega) _ _ _ hR hO hf) ⟨rfl, rfl, rfl, rfl, rfl, trivial⟩
    | succ n1 ih =>
      intro t ht d hf
      refine x_iload F dX6_digestClient_45 rfl ?_
      refine x_aload_n F dX6_digestClient_47 rfl rfl ?_
      refine x_get (ci := 6) (C := RX6) (T := TX6) (N := 12) (k := 10) F dX6_digestClient_48 rfl inX6 (by decide) q75 rfl hR.main rfl ?_
      refine x_get (ci := 4) (C := RX4) (T := TX4) (N := 5) (k := 1) F dX6_digestClient_51 rfl inX4 (by decide) q35 rfl hR.route rfl ?_
      rw [hL]
      refine x_icmp_ge F dX6_digestClient_54 rfl (fun hc => absurd hc (nI_ge (by omega) (by omega))) (fun h54 => ?_)
      refine x_iload F dX6_digestClient_57 rfl ?_
      refine x_aload_n F dX6_digestClient_59 rfl rfl ?_
      refine x_get (ci := 6) (C := RX6) (T := TX6) (N := 12) (k := 10) F dX6_digestClient_60 rfl inX6 (by decide) q75 rfl hR.main rfl ?_
      refine x_get (ci := 4) (C := RX4) (T := TX4) (N := 5) (k := 0) F dX6_digestClient_63 rfl inX4 (by decide) q34 rfl hR.route rfl ?_
      refine x_alen (v := 3) F dX6_digestClient_66 rfl hR.steps rfl ?_
      refine x_icmp_ge F dX6_digestClient_67 rfl (fun hc => absurd hc (nI_ge (b := 3) (by omega) (by decide))) (fun h67 => ?_)
      refine x_lload F dX6_digestClient_70 rfl ?_
      refine x_ldc2 F dX6_digestClient_72 q415 ?_
      refine x_lmul F dX6_digestClient_75 ?_
      refine x_aload_n F dX6_digestClient_76 rfl rfl ?_
      refine x_get (ci := 6) (C := RX6) (T := TX6) (N := 12) (k := 10) F dX6_digestClient_77 rfl inX6 (by decide) q75 rfl hR.main rfl ?_
      refine x_get (ci := 4) (C := RX4) (T := TX4) (N := 5) (k := 0) F dX6_digestClient_80 rfl inX4 (by decide) q34 rfl hR.route rfl ?_
      refine x_iload F dX6_digestClient_83 rfl ?_
      refine x_ialdN F dX6_digestClient_85 rfl hR.steps (by omega) (by decide) ?_
      rw [hst t (by omega)]
      refine x_i2l F dX6_digestClient_86 ?_
      refine x_ladd F dX6_digestClient_87 ?_
      refine x_lstore F dX6_digestClient_88 (by decide) ?_
      refine x_iincN F dX6_digestClient_90 (by decide) rfl (by decide) ?_
      refine x_goto F dX6_digestClient_93 rfl ?_
      exact x_lk (ih (t + 1) (by omega) _ hf) ⟨rfl, rfl, rfl, rfl, rfl, trivial⟩
  have loop1 : ∀ n1 t, t + n1 = 9 → ∀ d Jz wz, Rep Z K Jz wz → Oth Z K w wz → f_dc K k d0 = f_dc1 K k (f_tail (f_cfact K k) n1 t d) → X p l e (rmd 10 0 0) s m #[.ref (Z 0 0), .long d0, .ref (Z 13 k)] below meth c (MQ below (x_Q D dA vwCl tyL0 B (fun r w1 => ∃ v, r = some v ∧ (QL Z K w (f_dc K k d0) v w1))) #[.ref (Z 0 0), .long d0, .ref (Z 13 k)] s 0 0 (fun q => B ≤ q)) D dA vwCl B 8 0 0 6 [(0, .ref (Z 0 0)), (1, .long d0), (3, .ref (Z 13 k)), (4, .long d), (6, .int (nI t))] [] wz := by
    intro n1
    induction n1 with
    | zero =>
      intro t hk1 d Jz wz hR hO hf
      obtain rfl : t = 9 := by omega
      refine x_iload F dX6_digestClient_6 rfl ?_
      refine x_bipush (v := 8) F dX6_digestClient_8 (by decide) ?_
      refine x_icmp_gt F dX6_digestClient_10 rfl (fun h10 => ?_) (fun hc => absurd hc (fun q => q (by decide)))
      refine x_aload_n F dX6_digestClient_36 rfl rfl ?_
      refine x_aload_n F dX6_digestClient_37 rfl rfl ?_
      refine x_cVi1 (ci := 6) (C := RX6) (T := TX6) (N := 12) F dX6_digestClient_38 (x_gV q305 q306 q458 q1 q307) rfl (c_findOwnRoute hR hk) ⟨rfl, rfl, rfl, xd_X6_findOwnRoute, ⟨Nat.le_of_ble_eq_true rfl, Nat.le_of_ble_eq_true rfl⟩, Nat.le_of_ble_eq_true rfl, Nat.le_of_ble_eq_true rfl⟩ rfl hR.main (Nat.le_of_ble_eq_true rfl) (fun v1 w1 hp => ?_)
      obtain ⟨J1, rfl, hR, hO2, hs, hno⟩ := hp
      have hO := hO.trans hO2 rfl
      have hL : J1.2.1 0 = nI (q_len (f_best K k (kCV K k) none)) := by
        cases hq : f_best K k (kCV K k) none with
        | none => exact hno hq
        | some r => exact (hs r hq).1
      have h3 : q_len (f_best K k (kCV K k) none) ≤ 3 := by
        cases hq : f_best K k (kCV K k) none with
        | none => exact Nat.zero_le _
        | some r => exact (hs r hq).2.2.2.2
      have hst : ∀ t, t < q_len (f_best K k (kCV K k) none) → J1.1 t = q_at (f_best K k (kCV K k) none) t := by
        cases hq : f_best K k (kCV K k) none with
        | none => exact fun t ht => absurd ht (Nat.not_lt_zero t)
        | some r => exact (hs r hq).2.1
      refine x_pop F dX6_digestClient_41 rfl ?_
      refine x_iconst (v := 0) F dX6_digestClient_42 (by decide) ?_
      refine x_istore F dX6_digestClient_43 (by decide) ?_
      exact x_lk (loop2 _ _ _ rfl hR hO hL h3 hst _ 0 (by omega) _ hf) ⟨rfl, rfl, rfl, rfl, rfl, trivial⟩
    | succ n1 ih =>
      intro t hk1 d Jz wz hR hO hf
      refine x_iload F dX6_digestClient_6 rfl ?_
      refine x_bipush (v := 8) F dX6_digestClient_8 (by decide) ?_
      refine x_icmp_gt F dX6_digestClient_10 rfl (fun hc => absurd hc (nI_nlt (a := 8) (by omega) (by decide))) (fun h10 => ?_)
      refine x_lload F dX6_digestClient_13 rfl ?_
      refine x_ldc2 F dX6_digestClient_15 q415 ?_
      refine x_lmul F dX6_digestClient_18 ?_
      refine x_aload_n F dX6_digestClient_19 rfl rfl ?_
      refine x_aload_n F dX6_digestClient_20 rfl rfl ?_
      refine x_iload F dX6_digestClient_21 rfl ?_
      refine x_cVi2 (ci := 6) (C := RX6) (T := TX6) (N := 12) F dX6_digestClient_23 (x_gV q302 q303 q457 q1 q304) rfl (c_clientFact hR hk (t := t) (by omega)) ⟨rfl, rfl, rfl, xd_X6_clientFact, ⟨Nat.le_of_ble_eq_true rfl, Nat.le_of_ble_eq_true rfl⟩, Nat.le_of_ble_eq_true rfl, Nat.le_of_ble_eq_true rfl⟩ rfl hR.main (Nat.le_of_ble_eq_true rfl) (fun v1 w1 hp => ?_)
      obtain ⟨J2, rfl, hR, hO2⟩ := hp
      have hO := hO.trans hO2 rfl
      refine x_i2l F dX6_digestClient_26 ?_
      refine x_ladd F dX6_digestClient_27 ?_
      refine x_lstore F dX6_digestClient_28 (by decide) ?_
      refine x_iincN F dX6_digestClient_30 (by decide) rfl (by decide) ?_
      refine x_goto F dX6_digestClient_33 rfl ?_
      exact x_lk (ih (t + 1) (by omega) _ _ _ hR hO hf) ⟨rfl, rfl, rfl, rfl, rfl, trivial⟩
  refine x_lload_n F dX6_digestClient_0 rfl rfl ?_
  refine x_lstore F dX6_digestClient_1 (by decide) ?_
  refine x_iconst (v := 0) F dX6_digestClient_3 (by decide) ?_
  refine x_istore F dX6_digestClient_4 (by decide) ?_
  exact x_lk (loop1 9 0 (by omega) d0 J w hR Oth.rfl rfl) ⟨rfl, rfl, rfl, rfl, rfl, trivial⟩
def f_dvs (K : kT) (n j : Nat) (d : Int64) : Int64 := match n with
  | 0 => d
  | n + 1 => f_dvs K n (j + 1) (if b_ok K j then f_dv K j d else d)
def f_dcs (K : kT) (n k : Nat) (d : Int64) : Int64 := match n with
  | 0 => d
  | n + 1 => f_dcs K n (k + 1) (if k < nc K then f_dc K k d else d)
def f_digest (K : kT) : Int64 := f_dcs K 10 0 (f_dvs K 24 0 (f_tail (f_count K) 11 0 58106))
theorem f_dvs_t {K : kT} {n j : Nat} {d : Int64} (h : b_ok K j = true) : f_dvs K (n + 1) j d = f_dvs K n (j + 1) (f_dv K j d) := by simp [f_dvs, h]
theorem f_dvs_f {K : kT} {n j : Nat} {d : Int64} (h : ¬ b_ok K j = true) : f_dvs K (n + 1) j d = f_dvs K n (j + 1) d := by simp [f_dvs, h]
set_option maxRecDepth 100000 in
set_option maxHeartbeats 4000000 in
theorem c_digest (hR : Rep Z K J w) : Ci l D dA B yX6_digest wX6_digest 11 [.ref (Z 0 0)] w (QL Z K w (f_digest K)) := by
  refine x_Ct.of (cc := cX6_digest) (maxL := 6) (by decide) rfl (Nat.le_of_ble_eq_true rfl) ?_
  intro p e s m below meth c F
  have loop3 : ∀ n1 k, k + n1 = 10 → ∀ d Jz wz, Rep Z K Jz wz → Oth Z K w wz → f_digest K = f_dcs K n1 k d → X p l e (rmd 11 0 0) s m #[.ref (Z 0 0)] below meth c (MQ below (x_Q D dA vwCl tyL0 B (fun r w1 => ∃ v, r = some v ∧ (QL Z K w (f_digest K) v w1))) #[.ref (Z 0 0)] s 0 0 (fun q => B ≤ q)) D dA vwCl B 6 0 0 84 [(0, .ref (Z 0 0)), (1, .long d), (3, .int (nI k))] [] wz := by
    intro n1
    induction n1 with
    | zero =>
      intro k hk1 d Jz wz hR hO hf
      obtain rfl : k = 10 := by omega
      refine x_iload_n F dX6_digest_84 rfl rfl ?_
      refine x_aload_n F dX6_digest_85 rfl rfl ?_
      refine x_get (ci := 6) (C := RX6) (T := TX6) (N := 12) (k := 1) F dX6_digest_86 rfl inX6 (by decide) q66 rfl hR.main rfl ?_
      refine x_alen (v := 10) F dX6_digest_89 rfl hR.clients rfl ?_
      refine x_icmp_ge F dX6_digest_90 rfl (fun h90 => ?_) (fun hc => absurd hc (fun q => q (Int32.le_refl _)))
      refine x_lload_n F dX6_digest_120 rfl rfl ?_
      refine x_lret F rfl dX6_digest_121 (Nat.le_refl _) (Nat.le_refl _) ?_
      exact ⟨_, rfl, _, by rw [hf]; rfl, hR, hO⟩
    | succ n1 ih =>
      intro k hk1 d Jz wz hR hO hf
      refine x_iload_n F dX6_digest_84 rfl rfl ?_
      refine x_aload_n F dX6_digest_85 rfl rfl ?_
      refine x_get (ci := 6) (C := RX6) (T := TX6) (N := 12) (k := 1) F dX6_digest_86 rfl inX6 (by decide) q66 rfl hR.main rfl ?_
      refine x_alen (v := 10) F dX6_digest_89 rfl hR.clients rfl ?_
      refine x_icmp_ge F dX6_digest_90 rfl (fun hc => absurd hc (nI_ge (b := 10) (by omega) (by decide))) (fun h90 => ?_)
      refine x_aload_n F dX6_digest_93 rfl rfl ?_
      refine x_get (ci := 6) (C := RX6) (T := TX6) (N := 12) (k := 1) F dX6_digest_94 rfl inX6 (by decide) q66 rfl hR.main rfl ?_
      refine x_iload_n F dX6_digest_97 rfl rfl ?_
      refine x_aaldN F dX6_digest_98 rfl hR.clients (by omega) (by decide) ?_
      by_cases hk2 : k < nc K
      · simp only [if_pos hk2]
        simp only [f_dcs, if_pos hk2] at hf
        refine x_astore F dX6_digest_99 (by decide) ?_
        refine x_aload F dX6_digest_101 rfl ?_
        refine x_ifnull F dX6_digest_103 ?_
        refine x_aload_n F dX6_digest_106 rfl rfl ?_
        refine x_lload_n F dX6_digest_107 rfl rfl ?_
        refine x_aload F dX6_digest_108 rfl ?_
        refine x_cVi2 (ci := 6) (C := RX6) (T := TX6) (N := 12) F dX6_digest_110 (x_gV q422 q423 q471 q1 q424) rfl (c_digestClient hR hk2 d) ⟨rfl, rfl, rfl, xd_X6_digestClient, ⟨Nat.le_of_ble_eq_true rfl, Nat.le_of_ble_eq_true rfl⟩, Nat.le_of_ble_eq_true rfl, Nat.le_of_ble_eq_true rfl⟩ rfl hR.main (Nat.le_of_ble_eq_true rfl) (fun v1 w1 hp => ?_)
        obtain ⟨J2, rfl, hR, hO2⟩ := hp
        have hO := hO.trans hO2 rfl
        refine x_lstore_n F dX6_digest_113 rfl (by decide) ?_
        refine x_iincN F dX6_digest_114 (by decide) rfl (by decide) ?_
        refine x_goto F dX6_digest_117 rfl ?_
        exact x_lk (ih (k + 1) (by omega) _ _ _ hR hO hf) ⟨rfl, rfl, rfl, trivial⟩
      · simp only [if_neg hk2]
        simp only [f_dcs, if_neg hk2] at hf
        refine x_astoreN F dX6_digest_99 (by decide) ?_
        refine x_aloadN F dX6_digest_101 rfl ?_
        refine x_ifnullN F dX6_digest_103 rfl ?_
        refine x_iincN F dX6_digest_114 (by decide) rfl (by decide) ?_
        refine x_goto F dX6_digest_117 rfl ?_
        exact x_lk (ih (k + 1) (by omega) _ _ _ hR hO hf) ⟨rfl, rfl, rfl, trivial⟩
  have loop2 : ∀ n2 f, f + n2 = 4 → ∀ d Jz wz, Rep Z K Jz wz → Oth Z K w wz → f_digest K = f_dcs K 10 0 (f_dvs K (6 * n2) (6 * f) d) → X p l e (rmd 11 0 0) s m #[.ref (Z 0 0)] below meth c (MQ below (x_Q D dA vwCl tyL0 B (fun r w1 => ∃ v, r = some v ∧ (QL Z K w (f_digest K) v w1))) #[.ref (Z 0 0)] s 0 0 (fun q => B ≤ q)) D dA vwCl B 6 0 0 33 [(0, .ref (Z 0 0)), (1, .long d), (3, .int (nI f))] [] wz := by
    intro n2
    induction n2 with
    | zero =>
      intro f hf1 d Jz wz hR hO hf
      obtain rfl : f = 4 := by omega
      refine x_iload_n F dX6_digest_33 rfl rfl ?_
      refine x_iconst (v := 4) F dX6_digest_34 (by decide) ?_
      refine x_icmp_ge F dX6_digest_35 rfl (fun h35 => ?_) (fun hc => absurd hc (fun q => q (Int32.le_refl _)))
      refine x_iconst (v := 0) F dX6_digest_82 (by decide) ?_
      refine x_istore_n F dX6_digest_83 rfl (by decide) ?_
      exact x_lk (loop3 10 0 (by omega) _ _ _ hR hO hf) ⟨rfl, rfl, rfl, trivial⟩
    | succ n2 ih2 =>
      intro f hf1 d Jz wz hR hO hf
      have inner : ∀ n1 k, k + n1 = 6 → ∀ d Jy wy, Rep Z K Jy wy → Oth Z K w wy → f_digest K = f_dcs K 10 0 (f_dvs K (6 * n2 + n1) (6 * f + k) d) → X p l e (rmd 11 0 0) s m #[.ref (Z 0 0)] below meth c (MQ below (x_Q D dA vwCl tyL0 B (fun r w1 => ∃ v, r = some v ∧ (QL Z K w (f_digest K) v w1))) #[.ref (Z 0 0)] s 0 0 (fun q => B ≤ q)) D dA vwCl B 6 0 0 41 [(0, .ref (Z 0 0)), (1, .long d), (3, .int (nI f)), (4, .int (nI k))] [] wy := by
        intro n1
        induction n1 with
        | zero =>
          intro k hk1 d Jy wy hR hO hf
          obtain rfl : k = 6 := by omega
          refine x_iload F dX6_digest_41 rfl ?_
          refine x_bipush (v := 6) F dX6_digest_43 (by decide) ?_
          refine x_icmp_ge F dX6_digest_45 rfl (fun h45 => ?_) (fun hc => absurd hc (fun q => q (Int32.le_refl _)))
          refine x_iincN F dX6_digest_76 (by decide) rfl (by decide) ?_
          refine x_goto F dX6_digest_79 rfl ?_
          exact x_lk (ih2 (f + 1) (by omega) _ _ _ hR hO hf) ⟨rfl, rfl, rfl, trivial⟩
        | succ n1 ih =>
          intro k hk1 d Jy wy hR hO hf
          refine x_iload F dX6_digest_41 rfl ?_
          refine x_bipush (v := 6) F dX6_digest_43 (by decide) ?_
          refine x_icmp_ge F dX6_digest_45 rfl (fun hc => absurd hc (nI_ge (b := 6) (by omega) (by decide))) (fun h45 => ?_)
          refine x_aload_n F dX6_digest_48 rfl rfl ?_
          refine x_iload_n F dX6_digest_49 rfl rfl ?_
          refine x_iload F dX6_digest_50 rfl ?_
          refine x_cVi2 (ci := 6) (C := RX6) (T := TX6) (N := 12) F dX6_digest_52 (x_gV q177 q178 q449 q1 q179) rfl (c_versionAt hR (nI f) (nI k)) ⟨rfl, rfl, rfl, xd_X6_versionAt, ⟨Nat.le_of_ble_eq_true rfl, Nat.le_of_ble_eq_true rfl⟩, Nat.le_of_ble_eq_true rfl, Nat.le_of_ble_eq_true rfl⟩ rfl hR.main (Nat.le_of_ble_eq_true rfl) (fun v1 w1 hp => ?_)
          obtain ⟨rfl, hw9⟩ := hp
          replace hw9 := hw9.symm
          subst hw9
          rw [f_verAt_nI hR (by omega) (by omega)]
          by_cases hv : b_ok K (6 * f + k) = true
          · rw [if_pos hv]
            have hi := b_ok_iff.mp hv
            rw [show 6 * n2 + (n1 + 1) = 6 * n2 + n1 + 1 from rfl, f_dvs_t hv] at hf
            refine x_astore F dX6_digest_55 (by decide) ?_
            refine x_aload F dX6_digest_57 rfl ?_
            refine x_ifnull F dX6_digest_59 ?_
            refine x_aload_n F dX6_digest_62 rfl rfl ?_
            refine x_lload_n F dX6_digest_63 rfl rfl ?_
            refine x_aload F dX6_digest_64 rfl ?_
            refine x_cVi2 (ci := 6) (C := RX6) (T := TX6) (N := 12) F dX6_digest_66 (x_gV q416 q417 q469 q1 q418) rfl (c_digestVersion hR hi d) ⟨rfl, rfl, rfl, xd_X6_digestVersion, ⟨Nat.le_of_ble_eq_true rfl, Nat.le_of_ble_eq_true rfl⟩, Nat.le_of_ble_eq_true rfl, Nat.le_of_ble_eq_true rfl⟩ rfl hR.main (Nat.le_of_ble_eq_true rfl) (fun v1 w1 hp => ?_)
            obtain ⟨J2, rfl, hR, hO2⟩ := hp
            have hO := hO.trans hO2 rfl
            refine x_lstore_n F dX6_digest_69 rfl (by decide) ?_
            refine x_iincN F dX6_digest_70 (by decide) rfl (by decide) ?_
            refine x_goto F dX6_digest_73 rfl ?_
            exact x_lk (ih (k + 1) (by omega) _ _ _ hR hO hf) ⟨rfl, rfl, rfl, rfl, trivial⟩
          · rw [if_neg hv]
            rw [show 6 * n2 + (n1 + 1) = 6 * n2 + n1 + 1 from rfl, f_dvs_f hv] at hf
            refine x_astoreN F dX6_digest_55 (by decide) ?_
            refine x_aloadN F dX6_digest_57 rfl ?_
            refine x_ifnullN F dX6_digest_59 rfl ?_
            refine x_iincN F dX6_digest_70 (by decide) rfl (by decide) ?_
            refine x_goto F dX6_digest_73 rfl ?_
            exact x_lk (ih (k + 1) (by omega) _ _ _ hR hO hf) ⟨rfl, rfl, rfl, rfl, trivial⟩
      refine x_iload_n F dX6_digest_33 rfl rfl ?_
      refine x_iconst (v := 4) F dX6_digest_34 (by decide) ?_
      refine x_icmp_ge F dX6_digest_35 rfl (fun hc => absurd hc (nI_ge (b := 4) (by omega) (by decide))) (fun h35 => ?_)
      refine x_iconst (v := 0) F dX6_digest_38 (by decide) ?_
      refine x_istore F dX6_digest_39 (by decide) ?_
      exact x_lk (inner 6 0 (by omega) _ _ _ hR hO hf) ⟨rfl, rfl, rfl, rfl, trivial⟩
  have loop1 : ∀ n1 k, k + n1 = 11 → ∀ d, f_digest K = f_dcs K 10 0 (f_dvs K 24 0 (f_tail (f_count K) n1 k d)) → X p l e (rmd 11 0 0) s m #[.ref (Z 0 0)] below meth c (MQ below (x_Q D dA vwCl tyL0 B (fun r w1 => ∃ v, r = some v ∧ (QL Z K w (f_digest K) v w1))) #[.ref (Z 0 0)] s 0 0 (fun q => B ≤ q)) D dA vwCl B 6 0 0 6 [(0, .ref (Z 0 0)), (1, .long d), (3, .int (nI k))] [] w := by
    intro n1
    induction n1 with
    | zero =>
      intro k hk1 d hf
      obtain rfl : k = 11 := by omega
      refine x_iload_n F dX6_digest_6 rfl rfl ?_
      refine x_bipush (v := 10) F dX6_digest_7 (by decide) ?_
      refine x_icmp_gt F dX6_digest_9 rfl (fun h9 => ?_) (fun hc => absurd hc (fun q => q (by decide)))
      refine x_iconst (v := 0) F dX6_digest_31 (by decide) ?_
      refine x_istore_n F dX6_digest_32 rfl (by decide) ?_
      exact x_lk (loop2 4 0 (by omega) _ J _ hR Oth.rfl hf) ⟨rfl, rfl, rfl, trivial⟩
    | succ n1 ih =>
      intro k hk1 d hf
      refine x_iload_n F dX6_digest_6 rfl rfl ?_
      refine x_bipush (v := 10) F dX6_digest_7 (by decide) ?_
      refine x_icmp_gt F dX6_digest_9 rfl (fun hc => absurd hc (nI_nlt (a := 10) (by omega) (by decide))) (fun h9 => ?_)
      refine x_lload_n F dX6_digest_12 rfl rfl ?_
      refine x_ldc2 F dX6_digest_13 q415 ?_
      refine x_lmul F dX6_digest_16 ?_
      refine x_aload_n F dX6_digest_17 rfl rfl ?_
      refine x_iload_n F dX6_digest_18 rfl rfl ?_
      refine x_cVi1 (ci := 6) (C := RX6) (T := TX6) (N := 12) F dX6_digest_19 (x_gV q381 q382 q464 q1 q383) rfl (c_countOf hR (t := k) (by omega)) ⟨rfl, rfl, rfl, xd_X6_countOf, ⟨Nat.le_of_ble_eq_true rfl, Nat.le_of_ble_eq_true rfl⟩, Nat.le_of_ble_eq_true rfl, Nat.le_of_ble_eq_true rfl⟩ rfl hR.main (Nat.le_of_ble_eq_true rfl) (fun v1 w1 hp => ?_)
      obtain ⟨rfl, hw9⟩ := hp
      replace hw9 := hw9.symm
      subst hw9
      refine x_i2l F dX6_digest_22 ?_
      refine x_ladd F dX6_digest_23 ?_
      refine x_lstore_n F dX6_digest_24 rfl (by decide) ?_
      refine x_iincN F dX6_digest_25 (by decide) rfl (by decide) ?_
      refine x_goto F dX6_digest_28 rfl ?_
      exact x_lk (ih (k + 1) (by omega) _ hf) ⟨rfl, rfl, rfl, trivial⟩
  refine x_ldc2 F dX6_digest_0 q414 ?_
  refine x_lstore_n F dX6_digest_3 rfl (by decide) ?_
  refine x_iconst (v := 0) F dX6_digest_4 (by decide) ?_
  refine x_istore_n F dX6_digest_5 rfl (by decide) ?_
  exact x_lk (loop1 11 0 (by omega) 58106 rfl) ⟨rfl, rfl, rfl, trivial⟩
end FAC
