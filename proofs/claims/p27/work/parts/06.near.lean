/-! ===== versions counted, the nearest one, routes ===== -/
section ROU
variable {l : Launch} {D : va_G} {dA : Nat → ClassId} {B : Nat} {Z : Nat → Nat → Nat} {K : kT} {J : jT} {w : xW}
def p_st (K : kT) (s : Int32) (j : Nat) : Bool := b_ok K j && decide (kV K j 2 = s)
set_option maxRecDepth 100000 in
set_option maxHeartbeats 4000000 in
theorem c_countVersions (hR : Rep Z K J w) (s0 : Int32) : Ci l D dA B yX6_countVersions wX6_countVersions 3 [.ref (Z 0 0), .int s0] w (fun v w1 => v = .int (nI (f_cnt (p_st K s0) 24)) ∧ w1 = w) := by
  refine x_Ct.of (cc := cX6_countVersions) (maxL := 6) (by decide) rfl (Nat.le_of_ble_eq_true rfl) ?_
  intro p e s m below meth c F

  have loop : ∀ n2 f, f + n2 = 4 → X p l e (rmd 3 0 0) s m #[.ref (Z 0 0), .int s0] below meth c (MQ below (x_Q D dA vwCl tyL0 B (fun r w1 => ∃ v, r = some v ∧ (v = .int (nI (f_cnt (p_st K s0) 24)) ∧ w1 = w))) #[.ref (Z 0 0), .int s0] s 0 0 (fun q => B ≤ q)) D dA vwCl B 6 0 0 4 [(0, .ref (Z 0 0)), (1, .int s0), (2, .int (nI (f_cnt (p_st K s0) (6 * f)))), (3, .int (nI f))] [] w := by
    intro n2
    induction n2 with
    | zero =>
      intro f hf
      obtain rfl : f = 4 := by omega
      refine x_iload_n F dX6_countVersions_4 rfl rfl ?_
      refine x_iconst (v := 4) F dX6_countVersions_5 (by decide) ?_
      refine x_icmp_ge F dX6_countVersions_6 rfl (fun h6 => ?_) (fun hc => absurd hc (fun q => q (Int32.le_refl _)))
      refine x_iload_n F dX6_countVersions_57 rfl rfl ?_
      refine x_iret F rfl rfl dX6_countVersions_58 (Nat.le_refl _) (Nat.le_refl _) ?_
      exact ⟨_, rfl, rfl, rfl⟩
    | succ n2 ih2 =>
      intro f hf
      have inner : ∀ n1 k, k + n1 = 6 → X p l e (rmd 3 0 0) s m #[.ref (Z 0 0), .int s0] below meth c (MQ below (x_Q D dA vwCl tyL0 B (fun r w1 => ∃ v, r = some v ∧ (v = .int (nI (f_cnt (p_st K s0) 24)) ∧ w1 = w))) #[.ref (Z 0 0), .int s0] s 0 0 (fun q => B ≤ q)) D dA vwCl B 6 0 0 12 [(0, .ref (Z 0 0)), (1, .int s0), (2, .int (nI (f_cnt (p_st K s0) (6 * f + k)))), (3, .int (nI f)), (4, .int (nI k))] [] w := by
        intro n1
        induction n1 with
        | zero =>
          intro k hk
          obtain rfl : k = 6 := by omega
          refine x_iload F dX6_countVersions_12 rfl ?_
          refine x_bipush (v := 6) F dX6_countVersions_14 (by decide) ?_
          refine x_icmp_ge F dX6_countVersions_16 rfl (fun h16 => ?_) (fun hc => absurd hc (fun q => q (Int32.le_refl _)))
          refine x_iincN F dX6_countVersions_51 (by decide) rfl (by decide) ?_
          refine x_goto F dX6_countVersions_54 rfl ?_
          exact x_lk (ih2 (f + 1) (by omega)) ⟨rfl, rfl, rfl, rfl, trivial⟩
        | succ n1 ih =>
          intro k hk
          refine x_iload F dX6_countVersions_12 rfl ?_
          refine x_bipush (v := 6) F dX6_countVersions_14 (by decide) ?_
          refine x_icmp_ge F dX6_countVersions_16 rfl (fun hc => absurd hc (nI_ge (b := 6) (by omega) (by omega))) (fun h16 => ?_)
          refine x_aload_n F dX6_countVersions_19 rfl rfl ?_
          refine x_iload_n F dX6_countVersions_20 rfl rfl ?_
          refine x_iload F dX6_countVersions_21 rfl ?_
          refine x_cVi2 (ci := 6) (C := RX6) (T := TX6) (N := 12) F dX6_countVersions_23 (x_gV q177 q178 q449 q1 q179) rfl (c_versionAt hR (nI f) (nI k)) ⟨rfl, rfl, rfl, xd_X6_versionAt, ⟨Nat.le_of_ble_eq_true rfl, Nat.le_of_ble_eq_true rfl⟩, Nat.le_of_ble_eq_true rfl, Nat.le_of_ble_eq_true rfl⟩ rfl hR.main (Nat.le_of_ble_eq_true rfl) (fun v1 w1 hp => ?_)
          obtain ⟨rfl, hw9⟩ := hp
          replace hw9 := hw9.symm
          subst hw9
          rw [f_verAt_nI hR (by omega) (by omega)]
          by_cases hv : b_ok K (6 * f + k) = true
          · rw [if_pos hv]
            have hi := b_ok_iff.mp hv
            refine x_astore F dX6_countVersions_26 (by decide) ?_
            refine x_aload F dX6_countVersions_28 rfl ?_
            refine x_ifnull F dX6_countVersions_30 ?_
            refine x_aload F dX6_countVersions_33 rfl ?_
            refine x_get (ci := 5) (C := RX5) (T := TX5) (N := 9) (k := 5) F dX6_countVersions_35 rfl inX5 (by decide) q149 rfl (hR.ver hi) rfl ?_
            refine x_iload_n F dX6_countVersions_38 rfl rfl ?_
            refine x_icmp_ne F dX6_countVersions_39 rfl (fun h39 => ?_) (fun h39 => ?_)
            · have hp : p_st K s0 (6 * f + k) = false := by unfold p_st; rw [decide_eq_false h39, Bool.and_false]
              refine x_iincN F dX6_countVersions_45 (by decide) rfl (by decide) ?_
              refine x_goto F dX6_countVersions_48 rfl ?_
              have h9 := ih (k + 1) (by omega)
              first
                | (rw [show 6 * f + (k + 1) = 6 * f + k + 1 from rfl, f_cnt_t (p := p_st K s0) (k := 6 * f + k) hp] at h9; exact x_lk h9 ⟨rfl, rfl, rfl, rfl, rfl, trivial⟩)
                | (rw [show 6 * f + (k + 1) = 6 * f + k + 1 from rfl, f_cnt_f (p := p_st K s0) (k := 6 * f + k) hp] at h9; exact x_lk h9 ⟨rfl, rfl, rfl, rfl, rfl, trivial⟩)
            · have hp : p_st K s0 (6 * f + k) = true := by unfold p_st; rw [decide_eq_true h39, hv]; rfl
              refine x_iincN F dX6_countVersions_42 (by decide) rfl (by decide) ?_
              refine x_iincN F dX6_countVersions_45 (by decide) rfl (by decide) ?_
              refine x_goto F dX6_countVersions_48 rfl ?_
              have h9 := ih (k + 1) (by omega)
              first
                | (rw [show 6 * f + (k + 1) = 6 * f + k + 1 from rfl, f_cnt_t (p := p_st K s0) (k := 6 * f + k) hp] at h9; exact x_lk h9 ⟨rfl, rfl, rfl, rfl, rfl, trivial⟩)
                | (rw [show 6 * f + (k + 1) = 6 * f + k + 1 from rfl, f_cnt_f (p := p_st K s0) (k := 6 * f + k) hp] at h9; exact x_lk h9 ⟨rfl, rfl, rfl, rfl, rfl, trivial⟩)
          · rw [if_neg hv]
            have hp : p_st K s0 (6 * f + k) = false := by unfold p_st; rw [Bool.not_eq_true _ |>.mp hv]; rfl
            refine x_astoreN F dX6_countVersions_26 (by decide) ?_
            refine x_aloadN F dX6_countVersions_28 rfl ?_
            refine x_ifnullN F dX6_countVersions_30 rfl ?_
            refine x_iincN F dX6_countVersions_45 (by decide) rfl (by decide) ?_
            refine x_goto F dX6_countVersions_48 rfl ?_
            have h9 := ih (k + 1) (by omega)
            first
              | (rw [show 6 * f + (k + 1) = 6 * f + k + 1 from rfl, f_cnt_t (p := p_st K s0) (k := 6 * f + k) hp] at h9; exact x_lk h9 ⟨rfl, rfl, rfl, rfl, rfl, trivial⟩)
              | (rw [show 6 * f + (k + 1) = 6 * f + k + 1 from rfl, f_cnt_f (p := p_st K s0) (k := 6 * f + k) hp] at h9; exact x_lk h9 ⟨rfl, rfl, rfl, rfl, rfl, trivial⟩)
      refine x_iload_n F dX6_countVersions_4 rfl rfl ?_
      refine x_iconst (v := 4) F dX6_countVersions_5 (by decide) ?_
      refine x_icmp_ge F dX6_countVersions_6 rfl (fun hc => absurd hc (nI_ge (b := 4) (by omega) (by omega))) (fun h6 => ?_)
      refine x_iconst (v := 0) F dX6_countVersions_9 (by decide) ?_
      refine x_istore F dX6_countVersions_10 (by decide) ?_
      exact x_lk (inner 6 0 (by omega)) ⟨rfl, rfl, rfl, rfl, rfl, trivial⟩
  refine x_iconst (v := 0) F dX6_countVersions_0 (by decide) ?_
  refine x_istore_n F dX6_countVersions_1 rfl (by decide) ?_
  refine x_iconst (v := 0) F dX6_countVersions_2 (by decide) ?_
  refine x_istore_n F dX6_countVersions_3 rfl (by decide) ?_
  exact x_lk (loop 4 0 (by omega)) ⟨rfl, rfl, rfl, rfl, trivial⟩
def f_bit0 (x : Int32) : Int32 := x - (((x).toUInt32 >>> ((1 : Int32).toUInt32 &&& Int32.toUInt32 31)).toInt32 &&& 1431655765)
def f_bit1 (x : Int32) : Int32 := (x &&& 858993459) + (((x).toUInt32 >>> ((2 : Int32).toUInt32 &&& Int32.toUInt32 31)).toInt32 &&& 858993459)
def f_bit2 (x : Int32) : Int32 := (x + ((x).toUInt32 >>> ((4 : Int32).toUInt32 &&& Int32.toUInt32 31)).toInt32) &&& 252645135
def f_bit3 (x : Int32) : Int32 := x + ((x).toUInt32 >>> ((8 : Int32).toUInt32 &&& Int32.toUInt32 31)).toInt32
def f_bit4 (x : Int32) : Int32 := x + ((x).toUInt32 >>> ((16 : Int32).toUInt32 &&& Int32.toUInt32 31)).toInt32
def f_bit (x : Int32) : Int32 := f_bit4 (f_bit3 (f_bit2 (f_bit1 (f_bit0 x)))) &&& 63
set_option maxRecDepth 100000 in
set_option maxHeartbeats 4000000 in
theorem c_bitCount (x : Int32) : Ci l D dA B yJ6_bitCount_0f7a4 wJ6_bitCount_0f7a4 0 [.int x] w (fun v w1 => v = .int (f_bit x) ∧ w1 = w) := by
  refine x_Ct.of (cc := cJ6_bitCount_0f7a4) (maxL := 1) (by decide) rfl (Nat.le_of_ble_eq_true rfl) ?_
  intro p e s m below meth c F
  refine x_iload_n F dJ6_bitCount_0f7a4_0 rfl rfl ?_
  refine x_iload_n F dJ6_bitCount_0f7a4_1 rfl rfl ?_
  refine x_iconst (v := 1) F dJ6_bitCount_0f7a4_2 (by decide) ?_
  refine x_iushr F dJ6_bitCount_0f7a4_3 ?_
  refine x_ldcw F dJ6_bitCount_0f7a4_4 q407 ?_
  refine x_iand F dJ6_bitCount_0f7a4_7 ?_
  refine x_isub F dJ6_bitCount_0f7a4_8 ?_
  refine x_istore_n F dJ6_bitCount_0f7a4_9 rfl (by decide) ?_
  refine x_iload_n F dJ6_bitCount_0f7a4_10 rfl rfl ?_
  refine x_ldcw F dJ6_bitCount_0f7a4_11 q408 ?_
  refine x_iand F dJ6_bitCount_0f7a4_14 ?_
  refine x_iload_n F dJ6_bitCount_0f7a4_15 rfl rfl ?_
  refine x_iconst (v := 2) F dJ6_bitCount_0f7a4_16 (by decide) ?_
  refine x_iushr F dJ6_bitCount_0f7a4_17 ?_
  refine x_ldcw F dJ6_bitCount_0f7a4_18 q408 ?_
  refine x_iand F dJ6_bitCount_0f7a4_21 ?_
  refine x_iadd F dJ6_bitCount_0f7a4_22 ?_
  refine x_istore_n F dJ6_bitCount_0f7a4_23 rfl (by decide) ?_
  refine x_iload_n F dJ6_bitCount_0f7a4_24 rfl rfl ?_
  refine x_iload_n F dJ6_bitCount_0f7a4_25 rfl rfl ?_
  refine x_iconst (v := 4) F dJ6_bitCount_0f7a4_26 (by decide) ?_
  refine x_iushr F dJ6_bitCount_0f7a4_27 ?_
  refine x_iadd F dJ6_bitCount_0f7a4_28 ?_
  refine x_ldcw F dJ6_bitCount_0f7a4_29 q409 ?_
  refine x_iand F dJ6_bitCount_0f7a4_32 ?_
  refine x_istore_n F dJ6_bitCount_0f7a4_33 rfl (by decide) ?_
  refine x_iload_n F dJ6_bitCount_0f7a4_34 rfl rfl ?_
  refine x_iload_n F dJ6_bitCount_0f7a4_35 rfl rfl ?_
  refine x_bipush (v := 8) F dJ6_bitCount_0f7a4_36 (by decide) ?_
  refine x_iushr F dJ6_bitCount_0f7a4_38 ?_
  refine x_iadd F dJ6_bitCount_0f7a4_39 ?_
  refine x_istore_n F dJ6_bitCount_0f7a4_40 rfl (by decide) ?_
  refine x_iload_n F dJ6_bitCount_0f7a4_41 rfl rfl ?_
  refine x_iload_n F dJ6_bitCount_0f7a4_42 rfl rfl ?_
  refine x_bipush (v := 16) F dJ6_bitCount_0f7a4_43 (by decide) ?_
  refine x_iushr F dJ6_bitCount_0f7a4_45 ?_
  refine x_iadd F dJ6_bitCount_0f7a4_46 ?_
  refine x_istore_n F dJ6_bitCount_0f7a4_47 rfl (by decide) ?_
  refine x_iload_n F dJ6_bitCount_0f7a4_48 rfl rfl ?_
  refine x_bipush (v := 63) F dJ6_bitCount_0f7a4_49 (by decide) ?_
  refine x_iand F dJ6_bitCount_0f7a4_51 ?_
  refine x_iret F rfl rfl dJ6_bitCount_0f7a4_52 (Nat.le_refl _) (Nat.le_refl _) ?_
  exact ⟨_, rfl, rfl, rfl⟩
/-- the nearest open version so far, and how far it is -/
def f_near (K : kT) (k : Nat) (n : Nat) : Int32 × Int32 := match n with
  | 0 => (-1, 0)
  | n + 1 => if decide (n < nv K (kCV K k / 6)) && decide (kV K (6 * (kCV K k / 6) + n) 2 = 0) && (decide ((f_near K k n).1 = -1) || !decide ((f_near K k n).2 < f_bit (f_again (kV K (6 * (kCV K k / 6) + n) 0) (kV K (6 * (kCV K k / 6) + n) 1) (kC K k 1) ^^^ kC K k 1))) then (nI n, f_bit (f_again (kV K (6 * (kCV K k / 6) + n) 0) (kV K (6 * (kCV K k / 6) + n) 1) (kC K k 1) ^^^ kC K k 1)) else f_near K k n
theorem f_near_t {K : kT} {k n : Nat} (h : (decide (n < nv K (kCV K k / 6)) && decide (kV K (6 * (kCV K k / 6) + n) 2 = 0) && (decide ((f_near K k n).1 = -1) || !decide ((f_near K k n).2 < f_bit (f_again (kV K (6 * (kCV K k / 6) + n) 0) (kV K (6 * (kCV K k / 6) + n) 1) (kC K k 1) ^^^ kC K k 1)))) = true) : f_near K k (n + 1) = (nI n, f_bit (f_again (kV K (6 * (kCV K k / 6) + n) 0) (kV K (6 * (kCV K k / 6) + n) 1) (kC K k 1) ^^^ kC K k 1)) := if_pos h
theorem f_near_f {K : kT} {k n : Nat} (h : (decide (n < nv K (kCV K k / 6)) && decide (kV K (6 * (kCV K k / 6) + n) 2 = 0) && (decide ((f_near K k n).1 = -1) || !decide ((f_near K k n).2 < f_bit (f_again (kV K (6 * (kCV K k / 6) + n) 0) (kV K (6 * (kCV K k / 6) + n) 1) (kC K k 1) ^^^ kC K k 1)))) = false) : f_near K k (n + 1) = f_near K k n := if_neg (by rw [h]; decide)
set_option maxRecDepth 100000 in
set_option maxHeartbeats 4000000 in
theorem c_nearestOpen (hR : Rep Z K J w) {k : Nat} (hk : k < nc K) : Ci l D dA B yX6_nearestOpen wX6_nearestOpen 1 [.ref (Z 0 0), .ref (Z 13 k)] w (fun v w1 => v = .int (f_near K k 6).1 ∧ w1 = w) := by
  refine x_Ct.of (cc := cX6_nearestOpen) (maxL := 7) (by decide) rfl (Nat.le_of_ble_eq_true rfl) ?_
  intro p e s m below meth c F
  have loop : ∀ n1 n, n + n1 = 6 → X p l e (rmd 1 0 0) s m #[.ref (Z 0 0), .ref (Z 13 k)] below meth c (MQ below (x_Q D dA vwCl tyL0 B (fun r w1 => ∃ v, r = some v ∧ (v = .int (f_near K k 6).1 ∧ w1 = w))) #[.ref (Z 0 0), .ref (Z 13 k)] s 0 0 (fun q => B ≤ q)) D dA vwCl B 7 0 0 7 [(0, .ref (Z 0 0)), (1, .ref (Z 13 k)), (2, .int (f_near K k n).1), (3, .int (f_near K k n).2), (4, .int (nI n))] [] w := by
    intro n1
    induction n1 with
    | zero =>
      intro n hn
      obtain rfl : n = 6 := by omega
      refine x_iload F dX6_nearestOpen_7 rfl ?_
      refine x_bipush (v := 6) F dX6_nearestOpen_9 (by decide) ?_
      refine x_icmp_ge F dX6_nearestOpen_11 rfl (fun h11 => ?_) (fun hc => absurd hc (fun q => q (Int32.le_refl _)))
      refine x_iload_n F dX6_nearestOpen_80 rfl rfl ?_
      refine x_iret F rfl rfl dX6_nearestOpen_81 (Nat.le_refl _) (Nat.le_refl _) ?_
      exact ⟨_, rfl, rfl, rfl⟩
    | succ n1 ih =>
      intro n hn
      refine x_iload F dX6_nearestOpen_7 rfl ?_
      refine x_bipush (v := 6) F dX6_nearestOpen_9 (by decide) ?_
      refine x_icmp_ge F dX6_nearestOpen_11 rfl (fun hc => absurd hc (nI_ge (b := 6) (by omega) (by omega))) (fun h11 => ?_)
      refine x_aload_n F dX6_nearestOpen_14 rfl rfl ?_
      refine x_get (ci := 1) (C := RX1) (T := TX1) (N := 8) (k := 1) F dX6_nearestOpen_15 rfl inX1 (by decide) q248 rfl (hR.cli hk) rfl ?_
      refine x_iload F dX6_nearestOpen_18 rfl ?_
      refine x_cVi1 (ci := 2) (C := RX2) (T := TX2) (N := 3) F dX6_nearestOpen_20 (x_gV q165 q166 q167 q9 q168) rfl (c_fVersionAt hR (hR.cv hk).1 (nI n)) ⟨rfl, rfl, rfl, xd_X2_versionAt, ⟨Nat.le_of_ble_eq_true rfl, Nat.le_of_ble_eq_true rfl⟩, Nat.le_of_ble_eq_true rfl, Nat.le_of_ble_eq_true rfl⟩ rfl (hR.face (hR.cv hk).1) (Nat.le_of_ble_eq_true rfl) (fun v1 w1 hp => ?_)
      obtain ⟨rfl, hw9⟩ := hp
      replace hw9 := hw9.symm
      subst hw9
      rw [f_fver_nI (by omega)]
      unfold g_ver
      by_cases hv : n < nv K (kCV K k / 6)
      · rw [if_pos hv]
        have hi : vOk K (6 * (kCV K k / 6) + n) := by unfold vOk; rw [show (6 * (kCV K k / 6) + n) / 6 = kCV K k / 6 by omega, show (6 * (kCV K k / 6) + n) % 6 = n by omega]; exact ⟨(hR.cv hk).1, hv⟩
        refine x_astore F dX6_nearestOpen_23 (by decide) ?_
        refine x_aload F dX6_nearestOpen_25 rfl ?_
        refine x_ifnull F dX6_nearestOpen_27 ?_
        refine x_aload F dX6_nearestOpen_30 rfl ?_
        refine x_get (ci := 5) (C := RX5) (T := TX5) (N := 9) (k := 5) F dX6_nearestOpen_32 rfl inX5 (by decide) q149 rfl (hR.ver hi) rfl ?_
        refine x_if_ne F dX6_nearestOpen_35 rfl (fun h35 => ?_) (fun h35 => ?_)
        · have hp := show (decide (n < nv K (kCV K k / 6)) && decide (kV K (6 * (kCV K k / 6) + n) 2 = 0) && (decide ((f_near K k n).1 = -1) || !decide ((f_near K k n).2 < f_bit (f_again (kV K (6 * (kCV K k / 6) + n) 0) (kV K (6 * (kCV K k / 6) + n) 1) (kC K k 1) ^^^ kC K k 1)))) = false by rw [decide_eq_false h35, Bool.and_false]; rfl
          refine x_iincN F dX6_nearestOpen_74 (by decide) rfl (by decide) ?_
          refine x_goto F dX6_nearestOpen_77 rfl ?_
          have h9 := ih (n + 1) (by omega)
          first
            | (rw [f_near_t hp] at h9; exact x_lk h9 ⟨rfl, rfl, rfl, rfl, rfl, trivial⟩)
            | (rw [f_near_f hp] at h9; exact x_lk h9 ⟨rfl, rfl, rfl, rfl, rfl, trivial⟩)
        · refine x_aload F dX6_nearestOpen_38 rfl ?_
          refine x_aload_n F dX6_nearestOpen_40 rfl rfl ?_
          refine x_get (ci := 1) (C := RX1) (T := TX1) (N := 8) (k := 5) F dX6_nearestOpen_41 rfl inX1 (by decide) q255 rfl (hR.cli hk) rfl ?_
          refine x_cVi1 (ci := 5) (C := RX5) (T := TX5) (N := 9) F dX6_nearestOpen_44 (x_gV q275 q276 q277 q12 q278) rfl (c_usesAgain hR hi (kC K k 1)) ⟨rfl, rfl, rfl, xd_X5_usesAgain, ⟨Nat.le_of_ble_eq_true rfl, Nat.le_of_ble_eq_true rfl⟩, Nat.le_of_ble_eq_true rfl, Nat.le_of_ble_eq_true rfl⟩ rfl (hR.ver hi) (Nat.le_of_ble_eq_true rfl) (fun v1 w1 hp => ?_)
          obtain ⟨rfl, hw9⟩ := hp
          replace hw9 := hw9.symm
          subst hw9
          refine x_aload_n F dX6_nearestOpen_47 rfl rfl ?_
          refine x_get (ci := 1) (C := RX1) (T := TX1) (N := 8) (k := 5) F dX6_nearestOpen_48 rfl inX1 (by decide) q255 rfl (hR.cli hk) rfl ?_
          refine x_ixor F dX6_nearestOpen_51 ?_
          refine x_cSi1 F dX6_nearestOpen_52 (x_gS q404 q405 q16 q406) (c_bitCount (f_again (kV K (6 * (kCV K k / 6) + n) 0) (kV K (6 * (kCV K k / 6) + n) 1) (kC K k 1) ^^^ kC K k 1)) ⟨rfl, rfl, rfl, xd_J6_bitCount_0f7a4, ⟨Nat.le_of_ble_eq_true rfl, Nat.le_of_ble_eq_true rfl⟩, Nat.le_of_ble_eq_true rfl, Nat.le_of_ble_eq_true rfl⟩ (Nat.le_of_ble_eq_true rfl) (fun v1 w1 hp => ?_)
          obtain ⟨rfl, hw9⟩ := hp
          replace hw9 := hw9.symm
          subst hw9
          refine x_istore F dX6_nearestOpen_55 (by decide) ?_
          refine x_iload_n F dX6_nearestOpen_57 rfl rfl ?_
          refine x_iconst (v := (-1)) F dX6_nearestOpen_58 (by decide) ?_
          refine x_icmp_eq F dX6_nearestOpen_59 rfl (fun h59 => ?_) (fun h59 => ?_)
          · have hp := show (decide (n < nv K (kCV K k / 6)) && decide (kV K (6 * (kCV K k / 6) + n) 2 = 0) && (decide ((f_near K k n).1 = -1) || !decide ((f_near K k n).2 < f_bit (f_again (kV K (6 * (kCV K k / 6) + n) 0) (kV K (6 * (kCV K k / 6) + n) 1) (kC K k 1) ^^^ kC K k 1)))) = true by rw [decide_eq_true hv, decide_eq_true h35, decide_eq_true h59]; rfl
            refine x_iload F dX6_nearestOpen_68 rfl ?_
            refine x_istore_n F dX6_nearestOpen_70 rfl (by decide) ?_
            refine x_iload F dX6_nearestOpen_71 rfl ?_
            refine x_istore_n F dX6_nearestOpen_73 rfl (by decide) ?_
            refine x_iincN F dX6_nearestOpen_74 (by decide) rfl (by decide) ?_
            refine x_goto F dX6_nearestOpen_77 rfl ?_
            have h9 := ih (n + 1) (by omega)
            first
              | (rw [f_near_t hp] at h9; exact x_lk h9 ⟨rfl, rfl, rfl, rfl, rfl, trivial⟩)
              | (rw [f_near_f hp] at h9; exact x_lk h9 ⟨rfl, rfl, rfl, rfl, rfl, trivial⟩)
          · refine x_iload F dX6_nearestOpen_62 rfl ?_
            refine x_iload_n F dX6_nearestOpen_64 rfl rfl ?_
            refine x_icmp_gt F dX6_nearestOpen_65 rfl (fun h65 => ?_) (fun h65 => ?_)
            · have hp := show (decide (n < nv K (kCV K k / 6)) && decide (kV K (6 * (kCV K k / 6) + n) 2 = 0) && (decide ((f_near K k n).1 = -1) || !decide ((f_near K k n).2 < f_bit (f_again (kV K (6 * (kCV K k / 6) + n) 0) (kV K (6 * (kCV K k / 6) + n) 1) (kC K k 1) ^^^ kC K k 1)))) = false by rw [decide_eq_true h65, decide_eq_false h59, Bool.not_true, Bool.or_false, Bool.and_false]
              refine x_iincN F dX6_nearestOpen_74 (by decide) rfl (by decide) ?_
              refine x_goto F dX6_nearestOpen_77 rfl ?_
              have h9 := ih (n + 1) (by omega)
              first
                | (rw [f_near_t hp] at h9; exact x_lk h9 ⟨rfl, rfl, rfl, rfl, rfl, trivial⟩)
                | (rw [f_near_f hp] at h9; exact x_lk h9 ⟨rfl, rfl, rfl, rfl, rfl, trivial⟩)
            · have hp := show (decide (n < nv K (kCV K k / 6)) && decide (kV K (6 * (kCV K k / 6) + n) 2 = 0) && (decide ((f_near K k n).1 = -1) || !decide ((f_near K k n).2 < f_bit (f_again (kV K (6 * (kCV K k / 6) + n) 0) (kV K (6 * (kCV K k / 6) + n) 1) (kC K k 1) ^^^ kC K k 1)))) = true by rw [decide_eq_true hv, decide_eq_true h35, decide_eq_false h65, Bool.not_false, Bool.or_true]; rfl
              refine x_iload F dX6_nearestOpen_68 rfl ?_
              refine x_istore_n F dX6_nearestOpen_70 rfl (by decide) ?_
              refine x_iload F dX6_nearestOpen_71 rfl ?_
              refine x_istore_n F dX6_nearestOpen_73 rfl (by decide) ?_
              refine x_iincN F dX6_nearestOpen_74 (by decide) rfl (by decide) ?_
              refine x_goto F dX6_nearestOpen_77 rfl ?_
              have h9 := ih (n + 1) (by omega)
              first
                | (rw [f_near_t hp] at h9; exact x_lk h9 ⟨rfl, rfl, rfl, rfl, rfl, trivial⟩)
                | (rw [f_near_f hp] at h9; exact x_lk h9 ⟨rfl, rfl, rfl, rfl, rfl, trivial⟩)
      · rw [if_neg hv]
        have hp := show (decide (n < nv K (kCV K k / 6)) && decide (kV K (6 * (kCV K k / 6) + n) 2 = 0) && (decide ((f_near K k n).1 = -1) || !decide ((f_near K k n).2 < f_bit (f_again (kV K (6 * (kCV K k / 6) + n) 0) (kV K (6 * (kCV K k / 6) + n) 1) (kC K k 1) ^^^ kC K k 1)))) = false by rw [decide_eq_false hv]; rfl
        refine x_astoreN F dX6_nearestOpen_23 (by decide) ?_
        refine x_aloadN F dX6_nearestOpen_25 rfl ?_
        refine x_ifnullN F dX6_nearestOpen_27 rfl ?_
        refine x_iincN F dX6_nearestOpen_74 (by decide) rfl (by decide) ?_
        refine x_goto F dX6_nearestOpen_77 rfl ?_
        have h9 := ih (n + 1) (by omega)
        first
          | (rw [f_near_t hp] at h9; exact x_lk h9 ⟨rfl, rfl, rfl, rfl, rfl, trivial⟩)
          | (rw [f_near_f hp] at h9; exact x_lk h9 ⟨rfl, rfl, rfl, rfl, rfl, trivial⟩)
  refine x_iconst (v := (-1)) F dX6_nearestOpen_0 (by decide) ?_
  refine x_istore_n F dX6_nearestOpen_1 rfl (by decide) ?_
  refine x_iconst (v := 0) F dX6_nearestOpen_2 (by decide) ?_
  refine x_istore_n F dX6_nearestOpen_3 rfl (by decide) ?_
  refine x_iconst (v := 0) F dX6_nearestOpen_4 (by decide) ?_
  refine x_istore F dX6_nearestOpen_5 (by decide) ?_
  exact x_lk (loop 6 0 (by omega)) ⟨rfl, rfl, rfl, rfl, rfl, trivial⟩
end ROU
