/-! ===== counting, and what is asked of one version or client ===== -/
def f_cnt (p : Nat → Bool) (k : Nat) : Nat := match k with
  | 0 => 0
  | k + 1 => f_cnt p k + (if p k then 1 else 0)
theorem f_cnt_t {p : Nat → Bool} {k : Nat} (h : p k = true) : f_cnt p (k + 1) = f_cnt p k + 1 := by simp [f_cnt, h]
theorem f_cnt_f {p : Nat → Bool} {k : Nat} (h : p k = false) : f_cnt p (k + 1) = f_cnt p k := by simp [f_cnt, h]
theorem f_cnt_le (p : Nat → Bool) (k : Nat) : f_cnt p k ≤ k := by
  induction k with
  | zero => exact Nat.le_refl _
  | succ k ih => unfold f_cnt; split <;> omega
section CNT
variable {l : Launch} {D : va_G} {dA : Nat → ClassId} {B : Nat} {Z : Nat → Nat → Nat} {K : kT} {J : jT} {w : xW}
def f_verAt (Z : Nat → Nat → Nat) (K : kT) (x y : Int32) : Option Nat := if x < 0 ∨ 4 ≤ x then none else if x.toNatClampNeg < nf K then f_at 6 (g_ver Z K x.toNatClampNeg) y else none
theorem f_face_cases (hR : Rep Z K J w) (x : Int32) : (f_at 4 (g_face Z K) x = none ∧ ∀ y, f_verAt Z K x y = none) ∨ ∃ f, f < nf K ∧ x = nI f ∧ f_at 4 (g_face Z K) x = some (Z 8 f) ∧ ∀ y, f_verAt Z K x y = f_at 6 (g_ver Z K f) y := by
  by_cases h : x < 0 ∨ 4 ≤ x
  · exact Or.inl ⟨if_pos h, fun y => if_pos h⟩
  · have h1 : ¬ x < 0 := fun q => h (Or.inl q)
    have h2 : ¬ 4 ≤ x := fun q => h (Or.inr q)
    obtain ⟨f, hf, rfl⟩ := vp_in_of (x_in (n := 4) (by decide) h1 h2) (by decide)
    have hc : (nI f).toNatClampNeg = f := nI_clamp (by omega)
    by_cases hn : f < nf K
    · refine Or.inr ⟨f, hn, rfl, ?_, fun y => ?_⟩
      · rw [f_at_in h1 h2, hc]; exact if_pos hn
      · unfold f_verAt; rw [if_neg h, hc, if_pos hn]
    · refine Or.inl ⟨?_, fun y => ?_⟩
      · rw [f_at_in h1 h2, hc]; exact if_neg hn
      · unfold f_verAt; rw [if_neg h, hc, if_neg hn]
theorem f_fver_cases (hR : Rep Z K J w) {f : Nat} (hf : f < nf K) (x : Int32) : f_at 6 (g_ver Z K f) x = none ∨ ∃ k, k < nv K f ∧ k < 6 ∧ x = nI k ∧ f_at 6 (g_ver Z K f) x = some (Z 10 (6 * f + k)) ∧ vOk K (6 * f + k) := by
  by_cases h : x < 0 ∨ 6 ≤ x
  · exact Or.inl (if_pos h)
  · have h1 : ¬ x < 0 := fun q => h (Or.inl q)
    have h2 : ¬ 6 ≤ x := fun q => h (Or.inr q)
    obtain ⟨k, hk, rfl⟩ := vp_in_of (x_in (n := 6) (by decide) h1 h2) (by decide)
    have hc : (nI k).toNatClampNeg = k := nI_clamp (by omega)
    by_cases hn : k < nv K f
    · refine Or.inr ⟨k, hn, hk, rfl, ?_, ?_⟩
      · rw [f_at_in h1 h2, hc]; exact if_pos hn
      · unfold vOk
        rw [show (6 * f + k) / 6 = f by omega, show (6 * f + k) % 6 = k by omega]
        exact ⟨hf, hn⟩
    · refine Or.inl ?_
      rw [f_at_in h1 h2, hc]; exact if_neg hn
theorem f_at_nI {m : Int32} {n : Nat} {g : Nat → Option Nat} {k : Nat} (hm : m.toInt = n) (hk : k < n) (hn : n < 2 ^ 31) : f_at m g (nI k) = g k := by
  have h1 : ¬ nI k < 0 := nI_pos (by omega)
  have h2 : ¬ m ≤ nI k := by
    rw [Int32.le_iff_toInt_le, hm, nI_toInt (by omega)]
    omega
  rw [f_at_in h1 h2, nI_clamp (by omega)]
theorem f_fver_nI {f k : Nat} (hk : k < 6) : f_at 6 (g_ver Z K f) (nI k) = g_ver Z K f k := f_at_nI (n := 6) (by decide) hk (by decide)
def b_ok (K : kT) (j : Nat) : Bool := decide (j / 6 < nf K) && decide (j % 6 < nv K (j / 6))
theorem b_ok_iff {j : Nat} : b_ok K j = true ↔ vOk K j := by unfold b_ok vOk; simp
theorem f_verAt_nI (hR : Rep Z K J w) {f k : Nat} (hf : f < 4) (hk : k < 6) : f_verAt Z K (nI f) (nI k) = if b_ok K (6 * f + k) then some (Z 10 (6 * f + k)) else none := by
  have e1 : (6 * f + k) / 6 = f := by omega
  have e2 : (6 * f + k) % 6 = k := by omega
  unfold f_verAt b_ok
  have h1 : ¬ nI f < 0 := nI_pos (by omega)
  have h2 : ¬ 4 ≤ nI f := nI_ge (b := 4) (by omega) (by decide)
  rw [if_neg (fun q => q.elim h1 h2), nI_clamp (by omega), e1, e2, f_fver_nI hk]
  unfold g_ver
  by_cases a : f < nf K <;> by_cases b : k < nv K f <;> simp [a, b]
set_option maxRecDepth 100000 in
set_option maxHeartbeats 4000000 in
theorem c_versionAt (hR : Rep Z K J w) (x y : Int32) : Ci l D dA B yX6_versionAt wX6_versionAt 2 [.ref (Z 0 0), .int x, .int y] w (fun v w1 => v = va_rf (f_verAt Z K x y) ∧ w1 = w) := by
  refine x_Ct.of (cc := cX6_versionAt) (maxL := 4) (by decide) rfl (Nat.le_of_ble_eq_true rfl) ?_
  intro p e s m below meth c F
  refine x_aload_n F dX6_versionAt_0 rfl rfl ?_
  refine x_iload_n F dX6_versionAt_1 rfl rfl ?_
  refine x_cVi1 (ci := 6) (C := RX6) (T := TX6) (N := 12) F dX6_versionAt_2 (x_gV q115 q116 q448 q1 q117) rfl (c_faceAt hR x) ⟨rfl, rfl, rfl, xd_X6_faceAt, ⟨Nat.le_of_ble_eq_true rfl, Nat.le_of_ble_eq_true rfl⟩, Nat.le_of_ble_eq_true rfl, Nat.le_of_ble_eq_true rfl⟩ rfl hR.main (Nat.le_of_ble_eq_true rfl) (fun v1 w1 hp => ?_)
  obtain ⟨rfl, hw9⟩ := hp
  replace hw9 := hw9.symm
  subst hw9
  rcases f_face_cases hR x with ⟨e1, e2⟩ | ⟨f, hf, rfl, e1, e2⟩
  · rw [e1]
    refine x_astore_nN F dX6_versionAt_5 rfl (by decide) ?_
    refine x_aload_nN F dX6_versionAt_6 rfl rfl ?_
    refine x_ifnonnullN F dX6_versionAt_7 ?_
    refine x_null F dX6_versionAt_10 ?_
    refine x_goto F dX6_versionAt_11 rfl ?_
    refine x_aretN F rfl dX6_versionAt_19 (Nat.le_refl _) (Nat.le_refl _) ?_
    exact ⟨_, rfl, (congrArg va_rf (e2 y)).symm, rfl⟩
  · rw [e1]
    refine x_astore_n F dX6_versionAt_5 rfl (by decide) ?_
    refine x_aload_n F dX6_versionAt_6 rfl rfl ?_
    refine x_ifnonnull F dX6_versionAt_7 rfl ?_
    refine x_aload_n F dX6_versionAt_14 rfl rfl ?_
    refine x_iload_n F dX6_versionAt_15 rfl rfl ?_
    refine x_cVi1 (ci := 2) (C := RX2) (T := TX2) (N := 3) F dX6_versionAt_16 (x_gV q165 q166 q167 q9 q168) rfl (c_fVersionAt hR hf y) ⟨rfl, rfl, rfl, xd_X2_versionAt, ⟨Nat.le_of_ble_eq_true rfl, Nat.le_of_ble_eq_true rfl⟩, Nat.le_of_ble_eq_true rfl, Nat.le_of_ble_eq_true rfl⟩ rfl (hR.face hf) (Nat.le_of_ble_eq_true rfl) (fun v1 w1 hp => ?_)
    obtain ⟨rfl, hw9⟩ := hp
    replace hw9 := hw9.symm
    subst hw9
    refine x_aret F rfl dX6_versionAt_19 (Nat.le_refl _) (Nat.le_refl _) ?_
    exact ⟨_, rfl, (congrArg va_rf (e2 y)).symm, rfl⟩
def p_suit (K : kT) (f : Nat) (h n : Int32) (k : Nat) : Bool := decide (k < nv K f) && f_suits h n (kV K (6 * f + k) 0) (kV K (6 * f + k) 1)
set_option maxRecDepth 100000 in
set_option maxHeartbeats 4000000 in
theorem c_countSuited (hR : Rep Z K J w) {f a ra n : Nat} {h q s0 p0 x0 y0 : Int32} (hf : f < nf K) (hn : n ≤ 6) (ha : w a = some (oVer (Z 8 f) (nI n) h q ra s0 p0 x0 y0)) : Ci l D dA B yX6_countSuited wX6_countSuited 1 [.ref a] w (fun v w1 => v = .int (nI (f_cnt (p_suit K f h q) n)) ∧ w1 = w) := by
  refine x_Ct.of (cc := cX6_countSuited) (maxL := 4) (by decide) rfl (Nat.le_of_ble_eq_true rfl) ?_
  intro p e s m below meth c F
  have loop : ∀ n1 k, k + n1 = n → X p l e (rmd 1 0 0) s m #[.ref a] below meth c (MQ below (x_Q D dA vwCl tyL0 B (fun r w1 => ∃ v, r = some v ∧ (v = .int (nI (f_cnt (p_suit K f h q) n)) ∧ w1 = w))) #[.ref a] s 0 0 (fun q => B ≤ q)) D dA vwCl B 4 0 0 4 [(0, .ref a), (1, .int (nI (f_cnt (p_suit K f h q) k))), (2, .int (nI k))] [] w := by
    intro n1
    induction n1 with
    | zero =>
      intro k hk
      obtain rfl : k = n := by omega
      refine x_iload_n F dX6_countSuited_4 rfl rfl ?_
      refine x_aload_n F dX6_countSuited_5 rfl rfl ?_
      refine x_get (ci := 5) (C := RX5) (T := TX5) (N := 9) (k := 1) F dX6_countSuited_6 rfl inX5 (by decide) q141 rfl ha rfl ?_
      refine x_icmp_ge F dX6_countSuited_9 rfl (fun h9 => ?_) (fun hc => absurd hc (fun q => q (Int32.le_refl _)))
      refine x_iload_n F dX6_countSuited_42 rfl rfl ?_
      refine x_iret F rfl rfl dX6_countSuited_43 (Nat.le_refl _) (Nat.le_refl _) ?_
      exact ⟨_, rfl, rfl, rfl⟩
    | succ n1 ih =>
      intro k hk
      refine x_iload_n F dX6_countSuited_4 rfl rfl ?_
      refine x_aload_n F dX6_countSuited_5 rfl rfl ?_
      refine x_get (ci := 5) (C := RX5) (T := TX5) (N := 9) (k := 1) F dX6_countSuited_6 rfl inX5 (by decide) q141 rfl ha rfl ?_
      refine x_icmp_ge F dX6_countSuited_9 rfl (fun hc => absurd hc (nI_ge (b := n) (by omega) (by omega))) (fun h9 => ?_)
      refine x_aload_n F dX6_countSuited_12 rfl rfl ?_
      refine x_get (ci := 5) (C := RX5) (T := TX5) (N := 9) (k := 0) F dX6_countSuited_13 rfl inX5 (by decide) q138 rfl ha rfl ?_
      refine x_iload_n F dX6_countSuited_16 rfl rfl ?_
      refine x_cVi1 (ci := 2) (C := RX2) (T := TX2) (N := 3) F dX6_countSuited_17 (x_gV q165 q166 q167 q9 q168) rfl (c_fVersionAt hR hf (nI k)) ⟨rfl, rfl, rfl, xd_X2_versionAt, ⟨Nat.le_of_ble_eq_true rfl, Nat.le_of_ble_eq_true rfl⟩, Nat.le_of_ble_eq_true rfl, Nat.le_of_ble_eq_true rfl⟩ rfl (hR.face hf) (Nat.le_of_ble_eq_true rfl) (fun v1 w1 hp => ?_)
      obtain ⟨rfl, hw9⟩ := hp
      replace hw9 := hw9.symm
      subst hw9
      rw [f_fver_nI (by omega)]
      unfold g_ver
      by_cases hv : k < nv K f
      · rw [if_pos hv]
        have hi : vOk K (6 * f + k) := by unfold vOk; rw [show (6 * f + k) / 6 = f by omega, show (6 * f + k) % 6 = k by omega]; exact ⟨hf, hv⟩
        refine x_astore_n F dX6_countSuited_20 rfl (by decide) ?_
        refine x_aload_n F dX6_countSuited_21 rfl rfl ?_
        refine x_ifnull F dX6_countSuited_22 ?_
        refine x_aload_n F dX6_countSuited_25 rfl rfl ?_
        refine x_aload_n F dX6_countSuited_26 rfl rfl ?_
        refine x_cVi1 (ci := 5) (C := RX5) (T := TX5) (N := 9) F dX6_countSuited_27 (x_gV q169 q170 q171 q12 q172) rfl (c_suits ha (hR.ver hi)) ⟨rfl, rfl, rfl, xd_X5_suits, ⟨Nat.le_of_ble_eq_true rfl, Nat.le_of_ble_eq_true rfl⟩, Nat.le_of_ble_eq_true rfl, Nat.le_of_ble_eq_true rfl⟩ rfl ha (Nat.le_of_ble_eq_true rfl) (fun v1 w1 hp => ?_)
        obtain ⟨rfl, hw9⟩ := hp
        replace hw9 := hw9.symm
        subst hw9
        refine x_if_eq F dX6_countSuited_30 rfl (fun h30 => ?_) (fun h30 => ?_)
        · have hp : p_suit K f h q k = false := by unfold p_suit; rw [x_b_eq.mp h30, Bool.and_false]
          refine x_iincN F dX6_countSuited_36 (by decide) rfl (by decide) ?_
          refine x_goto F dX6_countSuited_39 rfl ?_
          have h9 := ih (k + 1) (by omega)
          first
            | (rw [f_cnt_t (p := p_suit K f h q) (k := k) hp] at h9; exact x_lk h9 ⟨rfl, rfl, rfl, trivial⟩)
            | (rw [f_cnt_f (p := p_suit K f h q) (k := k) hp] at h9; exact x_lk h9 ⟨rfl, rfl, rfl, trivial⟩)
        · have hp : p_suit K f h q k = true := by unfold p_suit; rw [x_b_ne.mp h30, decide_eq_true hv]; rfl
          refine x_iincN F dX6_countSuited_33 (by decide) rfl (by decide) ?_
          refine x_iincN F dX6_countSuited_36 (by decide) rfl (by decide) ?_
          refine x_goto F dX6_countSuited_39 rfl ?_
          have h9 := ih (k + 1) (by omega)
          first
            | (rw [f_cnt_t (p := p_suit K f h q) (k := k) hp] at h9; exact x_lk h9 ⟨rfl, rfl, rfl, trivial⟩)
            | (rw [f_cnt_f (p := p_suit K f h q) (k := k) hp] at h9; exact x_lk h9 ⟨rfl, rfl, rfl, trivial⟩)
      · rw [if_neg hv]
        have hp : p_suit K f h q k = false := by unfold p_suit; rw [decide_eq_false hv]; rfl
        refine x_astore_nN F dX6_countSuited_20 rfl (by decide) ?_
        refine x_aload_nN F dX6_countSuited_21 rfl rfl ?_
        refine x_ifnullN F dX6_countSuited_22 rfl ?_
        refine x_iincN F dX6_countSuited_36 (by decide) rfl (by decide) ?_
        refine x_goto F dX6_countSuited_39 rfl ?_
        have h9 := ih (k + 1) (by omega)
        first
          | (rw [f_cnt_t (p := p_suit K f h q) (k := k) hp] at h9; exact x_lk h9 ⟨rfl, rfl, rfl, trivial⟩)
          | (rw [f_cnt_f (p := p_suit K f h q) (k := k) hp] at h9; exact x_lk h9 ⟨rfl, rfl, rfl, trivial⟩)
  refine x_iconst (v := 0) F dX6_countSuited_0 (by decide) ?_
  refine x_istore_n F dX6_countSuited_1 rfl (by decide) ?_
  refine x_iconst (v := 0) F dX6_countSuited_2 (by decide) ?_
  refine x_istore_n F dX6_countSuited_3 rfl (by decide) ?_
  exact x_lk (loop n 0 (by omega)) ⟨rfl, rfl, rfl, trivial⟩
def p_caller (K : kT) (i : Nat) (h : Int32) (k : Nat) : Bool := decide (k < nc K) && f_caller K k i h
def p_gen (K : kT) (i : Nat) (k : Nat) : Bool := decide (k < nc K) && decide (kCV K k = i)
set_option maxRecDepth 100000 in
set_option maxHeartbeats 4000000 in
theorem c_countCallers (hR : Rep Z K J w) {i : Nat} (hi : vOk K i) : Ci l D dA B yX6_countCallers wX6_countCallers 2 [.ref (Z 0 0), .ref (Z 10 i)] w (fun v w1 => v = .int (nI (f_cnt (p_caller K i (kG K 0)) 10)) ∧ w1 = w) := by
  refine x_Ct.of (cc := cX6_countCallers) (maxL := 5) (by decide) rfl (Nat.le_of_ble_eq_true rfl) ?_
  intro p e s m below meth c F
  have loop : ∀ n1 k, k + n1 = 10 → X p l e (rmd 2 0 0) s m #[.ref (Z 0 0), .ref (Z 10 i)] below meth c (MQ below (x_Q D dA vwCl tyL0 B (fun r w1 => ∃ v, r = some v ∧ (v = .int (nI (f_cnt (p_caller K i (kG K 0)) 10)) ∧ w1 = w))) #[.ref (Z 0 0), .ref (Z 10 i)] s 0 0 (fun q => B ≤ q)) D dA vwCl B 5 0 0 4 [(0, .ref (Z 0 0)), (1, .ref (Z 10 i)), (2, .int (nI (f_cnt (p_caller K i (kG K 0)) k))), (3, .int (nI k))] [] w := by
    intro n1
    induction n1 with
    | zero =>
      intro k hk
      obtain rfl : k = 10 := by omega
      refine x_iload_n F dX6_countCallers_4 rfl rfl ?_
      refine x_aload_n F dX6_countCallers_5 rfl rfl ?_
      refine x_get (ci := 6) (C := RX6) (T := TX6) (N := 12) (k := 1) F dX6_countCallers_6 rfl inX6 (by decide) q66 rfl hR.main rfl ?_
      refine x_alen (v := 10) F dX6_countCallers_9 rfl hR.clients rfl ?_
      refine x_icmp_ge F dX6_countCallers_10 rfl (fun h10 => ?_) (fun hc => absurd hc (fun q => q (Int32.le_refl _)))
      refine x_iload_n F dX6_countCallers_48 rfl rfl ?_
      refine x_iret F rfl rfl dX6_countCallers_49 (Nat.le_refl _) (Nat.le_refl _) ?_
      exact ⟨_, rfl, rfl, rfl⟩
    | succ n1 ih =>
      intro k hk
      refine x_iload_n F dX6_countCallers_4 rfl rfl ?_
      refine x_aload_n F dX6_countCallers_5 rfl rfl ?_
      refine x_get (ci := 6) (C := RX6) (T := TX6) (N := 12) (k := 1) F dX6_countCallers_6 rfl inX6 (by decide) q66 rfl hR.main rfl ?_
      refine x_alen (v := 10) F dX6_countCallers_9 rfl hR.clients rfl ?_
      refine x_icmp_ge F dX6_countCallers_10 rfl (fun hc => absurd hc (nI_ge (b := 10) (by omega) (by omega))) (fun h10 => ?_)
      refine x_aload_n F dX6_countCallers_13 rfl rfl ?_
      refine x_get (ci := 6) (C := RX6) (T := TX6) (N := 12) (k := 1) F dX6_countCallers_14 rfl inX6 (by decide) q66 rfl hR.main rfl ?_
      refine x_iload_n F dX6_countCallers_17 rfl rfl ?_
      refine x_aaldN F dX6_countCallers_18 rfl hR.clients (by omega) (by decide) ?_
      by_cases hk2 : k < nc K
      · simp only [if_pos hk2]
        refine x_astore F dX6_countCallers_19 (by decide) ?_
        refine x_aload F dX6_countCallers_21 rfl ?_
        refine x_ifnull F dX6_countCallers_23 ?_
        refine x_aload F dX6_countCallers_26 rfl ?_
        refine x_aload_n F dX6_countCallers_28 rfl rfl ?_
        refine x_aload_n F dX6_countCallers_29 rfl rfl ?_
        refine x_get (ci := 6) (C := RX6) (T := TX6) (N := 12) (k := 6) F dX6_countCallers_30 rfl inX6 (by decide) q71 rfl hR.main rfl ?_
        refine x_cVi2 (ci := 1) (C := RX1) (T := TX1) (N := 8) F dX6_countCallers_33 (x_gV q186 q187 q188 q13 q189) rfl (c_isCallerOf hR hk2 hi (kG K 0)) ⟨rfl, rfl, rfl, xd_X1_isCallerOf, ⟨Nat.le_of_ble_eq_true rfl, Nat.le_of_ble_eq_true rfl⟩, Nat.le_of_ble_eq_true rfl, Nat.le_of_ble_eq_true rfl⟩ rfl (hR.cli hk2) (Nat.le_of_ble_eq_true rfl) (fun v1 w1 hp => ?_)
        obtain ⟨rfl, hw9⟩ := hp
        replace hw9 := hw9.symm
        subst hw9
        refine x_if_eq F dX6_countCallers_36 rfl (fun h36 => ?_) (fun h36 => ?_)
        · have hp : p_caller K i (kG K 0) k = false := by unfold p_caller; rw [x_b_eq.mp h36, Bool.and_false]
          refine x_iincN F dX6_countCallers_42 (by decide) rfl (by decide) ?_
          refine x_goto F dX6_countCallers_45 rfl ?_
          have h9 := ih (k + 1) (by omega)
          first
            | (rw [f_cnt_t (p := p_caller K i (kG K 0)) (k := k) hp] at h9; exact x_lk h9 ⟨rfl, rfl, rfl, rfl, trivial⟩)
            | (rw [f_cnt_f (p := p_caller K i (kG K 0)) (k := k) hp] at h9; exact x_lk h9 ⟨rfl, rfl, rfl, rfl, trivial⟩)
        · have hp : p_caller K i (kG K 0) k = true := by unfold p_caller; rw [x_b_ne.mp h36, decide_eq_true hk2]; rfl
          refine x_iincN F dX6_countCallers_39 (by decide) rfl (by decide) ?_
          refine x_iincN F dX6_countCallers_42 (by decide) rfl (by decide) ?_
          refine x_goto F dX6_countCallers_45 rfl ?_
          have h9 := ih (k + 1) (by omega)
          first
            | (rw [f_cnt_t (p := p_caller K i (kG K 0)) (k := k) hp] at h9; exact x_lk h9 ⟨rfl, rfl, rfl, rfl, trivial⟩)
            | (rw [f_cnt_f (p := p_caller K i (kG K 0)) (k := k) hp] at h9; exact x_lk h9 ⟨rfl, rfl, rfl, rfl, trivial⟩)
      · simp only [if_neg hk2]
        have hp : p_caller K i (kG K 0) k = false := by simp only [p_caller, decide_eq_false hk2, Bool.false_and]
        refine x_astoreN F dX6_countCallers_19 (by decide) ?_
        refine x_aloadN F dX6_countCallers_21 rfl ?_
        refine x_ifnullN F dX6_countCallers_23 rfl ?_
        refine x_iincN F dX6_countCallers_42 (by decide) rfl (by decide) ?_
        refine x_goto F dX6_countCallers_45 rfl ?_
        have h9 := ih (k + 1) (by omega)
        first
          | (rw [f_cnt_t (p := p_caller K i (kG K 0)) (k := k) hp] at h9; exact x_lk h9 ⟨rfl, rfl, rfl, rfl, trivial⟩)
          | (rw [f_cnt_f (p := p_caller K i (kG K 0)) (k := k) hp] at h9; exact x_lk h9 ⟨rfl, rfl, rfl, rfl, trivial⟩)
  refine x_iconst (v := 0) F dX6_countCallers_0 (by decide) ?_
  refine x_istore_n F dX6_countCallers_1 rfl (by decide) ?_
  refine x_iconst (v := 0) F dX6_countCallers_2 (by decide) ?_
  refine x_istore_n F dX6_countCallers_3 rfl (by decide) ?_
  exact x_lk (loop 10 0 (by omega)) ⟨rfl, rfl, rfl, rfl, trivial⟩
set_option maxRecDepth 100000 in
set_option maxHeartbeats 4000000 in
theorem c_countGeneratedFor (hR : Rep Z K J w) {i : Nat} (hi : vOk K i) : Ci l D dA B yX6_countGeneratedFor wX6_countGeneratedFor 0 [.ref (Z 0 0), .ref (Z 10 i)] w (fun v w1 => v = .int (nI (f_cnt (p_gen K i) 10)) ∧ w1 = w) := by
  refine x_Ct.of (cc := cX6_countGeneratedFor) (maxL := 5) (by decide) rfl (Nat.le_of_ble_eq_true rfl) ?_
  intro p e s m below meth c F
  have loop : ∀ n1 k, k + n1 = 10 → X p l e (rmd 0 0 0) s m #[.ref (Z 0 0), .ref (Z 10 i)] below meth c (MQ below (x_Q D dA vwCl tyL0 B (fun r w1 => ∃ v, r = some v ∧ (v = .int (nI (f_cnt (p_gen K i) 10)) ∧ w1 = w))) #[.ref (Z 0 0), .ref (Z 10 i)] s 0 0 (fun q => B ≤ q)) D dA vwCl B 5 0 0 4 [(0, .ref (Z 0 0)), (1, .ref (Z 10 i)), (2, .int (nI (f_cnt (p_gen K i) k))), (3, .int (nI k))] [] w := by
    intro n1
    induction n1 with
    | zero =>
      intro k hk
      obtain rfl : k = 10 := by omega
      refine x_iload_n F dX6_countGeneratedFor_4 rfl rfl ?_
      refine x_aload_n F dX6_countGeneratedFor_5 rfl rfl ?_
      refine x_get (ci := 6) (C := RX6) (T := TX6) (N := 12) (k := 1) F dX6_countGeneratedFor_6 rfl inX6 (by decide) q66 rfl hR.main rfl ?_
      refine x_alen (v := 10) F dX6_countGeneratedFor_9 rfl hR.clients rfl ?_
      refine x_icmp_ge F dX6_countGeneratedFor_10 rfl (fun h10 => ?_) (fun hc => absurd hc (fun q => q (Int32.le_refl _)))
      refine x_iload_n F dX6_countGeneratedFor_44 rfl rfl ?_
      refine x_iret F rfl rfl dX6_countGeneratedFor_45 (Nat.le_refl _) (Nat.le_refl _) ?_
      exact ⟨_, rfl, rfl, rfl⟩
    | succ n1 ih =>
      intro k hk
      refine x_iload_n F dX6_countGeneratedFor_4 rfl rfl ?_
      refine x_aload_n F dX6_countGeneratedFor_5 rfl rfl ?_
      refine x_get (ci := 6) (C := RX6) (T := TX6) (N := 12) (k := 1) F dX6_countGeneratedFor_6 rfl inX6 (by decide) q66 rfl hR.main rfl ?_
      refine x_alen (v := 10) F dX6_countGeneratedFor_9 rfl hR.clients rfl ?_
      refine x_icmp_ge F dX6_countGeneratedFor_10 rfl (fun hc => absurd hc (nI_ge (b := 10) (by omega) (by omega))) (fun h10 => ?_)
      refine x_aload_n F dX6_countGeneratedFor_13 rfl rfl ?_
      refine x_get (ci := 6) (C := RX6) (T := TX6) (N := 12) (k := 1) F dX6_countGeneratedFor_14 rfl inX6 (by decide) q66 rfl hR.main rfl ?_
      refine x_iload_n F dX6_countGeneratedFor_17 rfl rfl ?_
      refine x_aaldN F dX6_countGeneratedFor_18 rfl hR.clients (by omega) (by decide) ?_
      by_cases hk2 : k < nc K
      · simp only [if_pos hk2]
        refine x_astore F dX6_countGeneratedFor_19 (by decide) ?_
        refine x_aload F dX6_countGeneratedFor_21 rfl ?_
        refine x_ifnull F dX6_countGeneratedFor_23 ?_
        refine x_aload F dX6_countGeneratedFor_26 rfl ?_
        refine x_get (ci := 1) (C := RX1) (T := TX1) (N := 8) (k := 4) F dX6_countGeneratedFor_28 rfl inX1 (by decide) q253 rfl (hR.cli hk2) rfl ?_
        refine x_aload_n F dX6_countGeneratedFor_31 rfl rfl ?_
        refine x_acmp_neR F dX6_countGeneratedFor_32 rfl (fun h32 => ?_) (fun h32 => ?_)
        · rw [hR.veq (hR.cv hk2) hi] at h32
          have hp : p_gen K i k = false := by unfold p_gen; rw [decide_eq_false h32, Bool.and_false]
          refine x_iincN F dX6_countGeneratedFor_38 (by decide) rfl (by decide) ?_
          refine x_goto F dX6_countGeneratedFor_41 rfl ?_
          have h9 := ih (k + 1) (by omega)
          first
            | (rw [f_cnt_t (p := p_gen K i) (k := k) hp] at h9; exact x_lk h9 ⟨rfl, rfl, rfl, rfl, trivial⟩)
            | (rw [f_cnt_f (p := p_gen K i) (k := k) hp] at h9; exact x_lk h9 ⟨rfl, rfl, rfl, rfl, trivial⟩)
        · rw [hR.veq (hR.cv hk2) hi] at h32
          have hp : p_gen K i k = true := by unfold p_gen; rw [decide_eq_true h32, decide_eq_true hk2]; rfl
          refine x_iincN F dX6_countGeneratedFor_35 (by decide) rfl (by decide) ?_
          refine x_iincN F dX6_countGeneratedFor_38 (by decide) rfl (by decide) ?_
          refine x_goto F dX6_countGeneratedFor_41 rfl ?_
          have h9 := ih (k + 1) (by omega)
          first
            | (rw [f_cnt_t (p := p_gen K i) (k := k) hp] at h9; exact x_lk h9 ⟨rfl, rfl, rfl, rfl, trivial⟩)
            | (rw [f_cnt_f (p := p_gen K i) (k := k) hp] at h9; exact x_lk h9 ⟨rfl, rfl, rfl, rfl, trivial⟩)
      · simp only [if_neg hk2]
        have hp : p_gen K i k = false := by simp only [p_gen, decide_eq_false hk2, Bool.false_and]
        refine x_astoreN F dX6_countGeneratedFor_19 (by decide) ?_
        refine x_aloadN F dX6_countGeneratedFor_21 rfl ?_
        refine x_ifnullN F dX6_countGeneratedFor_23 rfl ?_
        refine x_iincN F dX6_countGeneratedFor_38 (by decide) rfl (by decide) ?_
        refine x_goto F dX6_countGeneratedFor_41 rfl ?_
        have h9 := ih (k + 1) (by omega)
        first
          | (rw [f_cnt_t (p := p_gen K i) (k := k) hp] at h9; exact x_lk h9 ⟨rfl, rfl, rfl, rfl, trivial⟩)
          | (rw [f_cnt_f (p := p_gen K i) (k := k) hp] at h9; exact x_lk h9 ⟨rfl, rfl, rfl, rfl, trivial⟩)
  refine x_iconst (v := 0) F dX6_countGeneratedFor_0 (by decide) ?_
  refine x_istore_n F dX6_countGeneratedFor_1 rfl (by decide) ?_
  refine x_iconst (v := 0) F dX6_countGeneratedFor_2 (by decide) ?_
  refine x_istore_n F dX6_countGeneratedFor_3 rfl (by decide) ?_
  exact x_lk (loop 10 0 (by omega)) ⟨rfl, rfl, rfl, rfl, trivial⟩
def f_since (K : kT) (k i : Nat) : Int32 := if f_called K k i = -1 then -1 else kG K 0 - f_called K k i
def f_askst (K : kT) (o : Int32) (i : Nat) : Int32 := if ¬ kV K i 2 = 1 ∨ f_asked (kVA K i) o = -1 then 0 else if f_answ (kV K i 8) o then 3 else if f_warned (kVA K i) (kV K i 8) o (kG K 0) then 2 else 1
set_option maxRecDepth 100000 in
set_option maxHeartbeats 4000000 in
theorem c_hoursSinceCall (hR : Rep Z K J w) {k i : Nat} (hk : k < nc K) (hi : vOk K i) : Ci l D dA B yX6_hoursSinceCall wX6_hoursSinceCall 1 [.ref (Z 0 0), .ref (Z 13 k), .ref (Z 10 i)] w (fun v w1 => v = .int (f_since K k i) ∧ w1 = w) := by
  refine x_Ct.of (cc := cX6_hoursSinceCall) (maxL := 4) (by decide) rfl (Nat.le_of_ble_eq_true rfl) ?_
  intro p e s m below meth c F
  refine x_aload_n F dX6_hoursSinceCall_0 rfl rfl ?_
  refine x_aload_n F dX6_hoursSinceCall_1 rfl rfl ?_
  refine x_cVi1 (ci := 1) (C := RX1) (T := TX1) (N := 8) F dX6_hoursSinceCall_2 (x_gV q348 q191 q192 q13 q193) rfl (c_calledAtOf hR hk hi) ⟨rfl, rfl, rfl, xd_X1_calledAtOf, ⟨Nat.le_of_ble_eq_true rfl, Nat.le_of_ble_eq_true rfl⟩, Nat.le_of_ble_eq_true rfl, Nat.le_of_ble_eq_true rfl⟩ rfl (hR.cli hk) (Nat.le_of_ble_eq_true rfl) (fun v1 w1 hp => ?_)
  obtain ⟨rfl, hw9⟩ := hp
  replace hw9 := hw9.symm
  subst hw9
  refine x_istore_n F dX6_hoursSinceCall_5 rfl (by decide) ?_
  refine x_iload_n F dX6_hoursSinceCall_6 rfl rfl ?_
  refine x_iconst (v := (-1)) F dX6_hoursSinceCall_7 (by decide) ?_
  refine x_icmp_ne F dX6_hoursSinceCall_8 rfl (fun h8 => ?_) (fun h8 => ?_)
  · refine x_aload_n F dX6_hoursSinceCall_15 rfl rfl ?_
    refine x_get (ci := 6) (C := RX6) (T := TX6) (N := 12) (k := 6) F dX6_hoursSinceCall_16 rfl inX6 (by decide) q71 rfl hR.main rfl ?_
    refine x_iload_n F dX6_hoursSinceCall_19 rfl rfl ?_
    refine x_isub F dX6_hoursSinceCall_20 ?_
    refine x_iret F rfl rfl dX6_hoursSinceCall_21 (Nat.le_refl _) (Nat.le_refl _) ?_
    first | exact ⟨_, rfl, congrArg Value.int (if_pos h8).symm, rfl⟩ | exact ⟨_, rfl, congrArg Value.int (if_neg h8).symm, rfl⟩
  · refine x_iconst (v := (-1)) F dX6_hoursSinceCall_11 (by decide) ?_
    refine x_goto F dX6_hoursSinceCall_12 rfl ?_
    refine x_iret F rfl rfl dX6_hoursSinceCall_21 (Nat.le_refl _) (Nat.le_refl _) ?_
    first | exact ⟨_, rfl, congrArg Value.int (if_pos h8).symm, rfl⟩ | exact ⟨_, rfl, congrArg Value.int (if_neg h8).symm, rfl⟩
set_option maxRecDepth 100000 in
set_option maxHeartbeats 4000000 in
theorem c_askedState (hR : Rep Z K J w) {i : Nat} (hi : vOk K i) (o : Int32) : Ci l D dA B yX6_askedState wX6_askedState 2 [.ref (Z 0 0), .int o, .ref (Z 10 i)] w (fun v w1 => v = .int (f_askst K o i) ∧ w1 = w) := by
  refine x_Ct.of (cc := cX6_askedState) (maxL := 4) (by decide) rfl (Nat.le_of_ble_eq_true rfl) ?_
  intro p e s m below meth c F
  refine x_aload_n F dX6_askedState_0 rfl rfl ?_
  refine x_get (ci := 5) (C := RX5) (T := TX5) (N := 9) (k := 4) F dX6_askedState_1 rfl inX5 (by decide) q147 rfl (hR.ver hi) rfl ?_
  refine x_astore_n F dX6_askedState_4 rfl (by decide) ?_
  refine x_aload_n F dX6_askedState_5 rfl rfl ?_
  refine x_get (ci := 5) (C := RX5) (T := TX5) (N := 9) (k := 5) F dX6_askedState_6 rfl inX5 (by decide) q149 rfl (hR.ver hi) rfl ?_
  refine x_iconst (v := 1) F dX6_askedState_9 (by decide) ?_
  refine x_icmp_ne F dX6_askedState_10 rfl (fun h10 => ?_) (fun h10 => ?_)
  · refine x_iconst (v := 0) F dX6_askedState_22 (by decide) ?_
    refine x_iret F rfl rfl dX6_askedState_23 (Nat.le_refl _) (Nat.le_refl _) ?_
    first | exact ⟨_, rfl, congrArg Value.int (if_pos (Or.inl h10)).symm, rfl⟩ | exact ⟨_, rfl, congrArg Value.int (if_pos (Or.inr (Decidable.not_not.mp h19))).symm, rfl⟩ | exact ⟨_, rfl, congrArg Value.int (if_pos (Or.inr h19)).symm, rfl⟩
  · refine x_aload_n F dX6_askedState_13 rfl rfl ?_
    refine x_iload_n F dX6_askedState_14 rfl rfl ?_
    refine x_cVi1 (ci := 3) (C := RX3) (T := TX3) (N := 4) F dX6_askedState_15 (x_gV q368 q202 q203 q3 q204) rfl (c_askedAtOf (hR.ret hi) (hR.ask hi) o) ⟨rfl, rfl, rfl, xd_X3_askedAtOf, ⟨Nat.le_of_ble_eq_true rfl, Nat.le_of_ble_eq_true rfl⟩, Nat.le_of_ble_eq_true rfl, Nat.le_of_ble_eq_true rfl⟩ rfl (hR.ret hi) (Nat.le_of_ble_eq_true rfl) (fun v1 w1 hp => ?_)
    obtain ⟨rfl, hw9⟩ := hp
    replace hw9 := hw9.symm
    subst hw9
    refine x_iconst (v := (-1)) F dX6_askedState_18 (by decide) ?_
    refine x_icmp_ne F dX6_askedState_19 rfl (fun h19 => ?_) (fun h19 => ?_)
    · refine x_aload_n F dX6_askedState_24 rfl rfl ?_
      refine x_iload_n F dX6_askedState_25 rfl rfl ?_
      refine x_cVi1 (ci := 3) (C := RX3) (T := TX3) (N := 4) F dX6_askedState_26 (x_gV q376 q206 q207 q3 q208) rfl (c_hasAnswered (hR.ret hi) o) ⟨rfl, rfl, rfl, xd_X3_hasAnswered, ⟨Nat.le_of_ble_eq_true rfl, Nat.le_of_ble_eq_true rfl⟩, Nat.le_of_ble_eq_true rfl, Nat.le_of_ble_eq_true rfl⟩ rfl (hR.ret hi) (Nat.le_of_ble_eq_true rfl) (fun v1 w1 hp => ?_)
      obtain ⟨rfl, hw9⟩ := hp
      replace hw9 := hw9.symm
      subst hw9
      refine x_if_eq F dX6_askedState_29 rfl (fun h29 => ?_) (fun h29 => ?_)
      · have g29 := x_b_eq.mp h29
        refine x_aload_n F dX6_askedState_34 rfl rfl ?_
        refine x_iload_n F dX6_askedState_35 rfl rfl ?_
        refine x_aload_n F dX6_askedState_36 rfl rfl ?_
        refine x_get (ci := 6) (C := RX6) (T := TX6) (N := 12) (k := 6) F dX6_askedState_37 rfl inX6 (by decide) q71 rfl hR.main rfl ?_
        refine x_cVi2 (ci := 3) (C := RX3) (T := TX3) (N := 4) F dX6_askedState_40 (x_gV q197 q198 q199 q3 q200) rfl (c_isWarned (hR.ret hi) (hR.ask hi) o (kG K 0)) ⟨rfl, rfl, rfl, xd_X3_isWarned, ⟨Nat.le_of_ble_eq_true rfl, Nat.le_of_ble_eq_true rfl⟩, Nat.le_of_ble_eq_true rfl, Nat.le_of_ble_eq_true rfl⟩ rfl (hR.ret hi) (Nat.le_of_ble_eq_true rfl) (fun v1 w1 hp => ?_)
        obtain ⟨rfl, hw9⟩ := hp
        replace hw9 := hw9.symm
        subst hw9
        refine x_if_eq F dX6_askedState_43 rfl (fun h43 => ?_) (fun h43 => ?_)
        · have g43 := x_b_eq.mp h43
          refine x_iconst (v := 1) F dX6_askedState_50 (by decide) ?_
          refine x_iret F rfl rfl dX6_askedState_51 (Nat.le_refl _) (Nat.le_refl _) ?_
          exact ⟨_, rfl, congrArg Value.int (by simp [f_askst, h10, h19, g29, g43]), rfl⟩
        · have g43 := x_b_ne.mp h43
          refine x_iconst (v := 2) F dX6_askedState_46 (by decide) ?_
          refine x_goto F dX6_askedState_47 rfl ?_
          refine x_iret F rfl rfl dX6_askedState_51 (Nat.le_refl _) (Nat.le_refl _) ?_
          exact ⟨_, rfl, congrArg Value.int (by simp [f_askst, h10, h19, g29, g43]), rfl⟩
      · have g29 := x_b_ne.mp h29
        refine x_iconst (v := 3) F dX6_askedState_32 (by decide) ?_
        refine x_iret F rfl rfl dX6_askedState_33 (Nat.le_refl _) (Nat.le_refl _) ?_
        exact ⟨_, rfl, congrArg Value.int (by simp [f_askst, h10, h19, g29]), rfl⟩
    · refine x_iconst (v := 0) F dX6_askedState_22 (by decide) ?_
      refine x_iret F rfl rfl dX6_askedState_23 (Nat.le_refl _) (Nat.le_refl _) ?_
      first | exact ⟨_, rfl, congrArg Value.int (if_pos (Or.inl h10)).symm, rfl⟩ | exact ⟨_, rfl, congrArg Value.int (if_pos (Or.inr (Decidable.not_not.mp h19))).symm, rfl⟩ | exact ⟨_, rfl, congrArg Value.int (if_pos (Or.inr h19)).symm, rfl⟩
end CNT
