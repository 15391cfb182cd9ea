/-! ===== the calls as the law makes them: one interface, number 0 ===== -/
section WRP
variable {l : Launch} {D : va_G} {dA : Nat → ClassId} {B : Nat} {Z : Nat → Nat → Nat} {K : kT} {J : jT} {w : xW} {V C t n : Nat}
theorem i60 (i : Nat) : 6 * 0 + i = i := by omega
theorem k_ver (hR : Rep Z K J w) {i : Nat} (hi : vOk K i) (h6 : i < 6) {t : Nat} (ht : t ≤ 10) : Ci l D dA B yX6_ofVersion wX6_ofVersion 9 [.ref (Z 0 0), .int 0, .int (nI i), .int (nI t)] w (QP Z K w (f_vfact K i t)) := by
  have h := c_ofVersion (l := l) (D := D) (dA := dA) (B := B) (f := 0) (k := i) (t := t) hR (by rw [i60]; exact hi) h6 ht
  rw [i60] at h
  exact h
theorem k_ver2 (hR : Rep Z K J w) {i : Nat} (hi : vOk K i) (h6 : i < 6) : Ci l D dA B yX6_ofVersion wX6_ofVersion 9 [.ref (Z 0 0), .int 0, .int (nI i), .int 2] w (QP Z K w (kV K i 2)) := k_ver hR hi h6 (t := 2) (by decide)
theorem k_ver4 (hR : Rep Z K J w) {i : Nat} (hi : vOk K i) (h6 : i < 6) : Ci l D dA B yX6_ofVersion wX6_ofVersion 9 [.ref (Z 0 0), .int 0, .int (nI i), .int 4] w (QP Z K w (kV K i 7)) := k_ver hR hi h6 (t := 4) (by decide)
theorem k_asked (hR : Rep Z K J w) {i : Nat} (hi : vOk K i) (h6 : i < 6) {o : Nat} (ho : o < 5) : Ci l D dA B yX6_asked wX6_asked 3 [.ref (Z 0 0), .int (nI o), .int 0, .int (nI i)] w (fun v w1 => v = .int (f_askst K (nI o) i) ∧ w1 = w) := by
  have h := c_asked (l := l) (D := D) (dA := dA) (B := B) (f := 0) (k := i) (o := nI o) hR (by rw [i60]; exact hi) h6 (owner_nI ho)
  rw [i60] at h
  exact h
theorem k_come0 (hR : Rep Z K J w) {k : Nat} (hk : k < nc K) : Ci l D dA B yX6_wouldCome wX6_wouldCome 10 [.ref (Z 0 0), .int (nI k), .int 0] w (QP Z K w (f_ocin K k 0)) := c_wouldCome hR hk (n := 0) (by decide)
theorem k_come1 (hR : Rep Z K J w) {k : Nat} (hk : k < nc K) : Ci l D dA B yX6_wouldCome wX6_wouldCome 10 [.ref (Z 0 0), .int (nI k), .int 1] w (QP Z K w (f_ocin K k 1)) := c_wouldCome hR hk (n := 1) (by decide)
theorem k_now (hR : Rep Z K J w) : Ci l D dA B yX6_many wX6_many 5 [.ref (Z 0 0), .int 10] w (fun v w1 => v = .int (kG K 0) ∧ w1 = w) := c_many hR (t := 10) (by decide)
theorem k_last (hI : IV K V C t) (hR : Rep Z K J w) {k i : Nat} (hk : k < C) (hi : i < V) : Ci l D dA B yX6_lastCall wX6_lastCall 2 [.ref (Z 0 0), .int (nI k), .int (nI i)] w (fun v w1 => v = .int (f_since K k i) ∧ w1 = w) := by
  have h0 := (hI.2.2.2.2.2.1 k hk).1
  have hV := hI.2.2.2.1
  have e0 : kCV K k / 6 = 0 := by omega
  have h := c_lastCall (l := l) (D := D) (dA := dA) (B := B) (k := k) (n := i) hR (by rw [hI.2.2.1]; exact hk) (by rw [e0, i60]; exact hI.vok hi) (by omega)
  rw [e0, i60] at h
  exact h
theorem k_cli2 (hI : IV K V C t) (hR : Rep Z K J w) {k : Nat} (hk : k < C) : Ci l D dA B yX6_ofClient wX6_ofClient 8 [.ref (Z 0 0), .int (nI k), .int 2] w (QP Z K w (nI (kCV K k))) := by
  have h0 := (hI.2.2.2.2.2.1 k hk).1
  have hV := hI.2.2.2.1
  have h := c_ofClient (l := l) (D := D) (dA := dA) (B := B) (k := k) (t := 2) hR (by rw [hI.2.2.1]; exact hk) (by decide)
  have e : f_cfact K k 2 = nI (kCV K k) := by
    show nI (kCV K k % 6) = _
    rw [Nat.mod_eq_of_lt (by omega)]
  rw [e] at h
  exact h
theorem k_cli0 (hR : Rep Z K J w) {k : Nat} (hk : k < nc K) : Ci l D dA B yX6_ofClient wX6_ofClient 8 [.ref (Z 0 0), .int (nI k), .int 0] w (QP Z K w (kC K k 0)) := c_ofClient hR hk (t := 0) (by decide)
theorem k_pass (hR : Rep Z K J w) {K1 : kT} {g : Nat} (hK1 : (f_hour K).1 = K1) (hg : (f_hour K).2 = g) : Ci l D dA B yX6_pass wX6_pass 10 [.ref (Z 0 0), .int 1] w (QM Z K w (nI g) K1) := by
  subst hK1
  subst hg
  exact c_pass1 hR
theorem f_cnt_mono (p : Nat → Bool) {a b : Nat} (h : a ≤ b) : f_cnt p a ≤ f_cnt p b := by
  obtain ⟨d, rfl⟩ : ∃ d, b = a + d := ⟨b - a, by omega⟩
  clear h
  induction d with
  | zero => exact Nat.le_refl _
  | succ d ih => exact Nat.le_trans ih (by show _ ≤ f_cnt p (a + d) + _; omega)
/-- the arrays at their making -/
theorem SK.mk0 {w1 w2 w3 : xW} {a q en : Nat} (hR : Rep Z K J w) (hV : V ≤ 6) (ha : w a = none) (hw1 : w1 = x_set w a (aI V (fun _ => 0))) (hq : ∀ b, q ≤ b → w1 b = none) (hw2 : w2 = x_rows w1 q V 5 5 0) (he : w2 en = none) (hw3 : w3 = x_set w2 en (aI V (fun _ => 0))) : SA Z K w V a q en ∧ SK w w3 V a q en (fun _ => 0) (fun _ => 0) (fun _ _ => 0) ∧ Rep Z K J w3 := by
  have haq : a < q := by
    by_cases g : q ≤ a
    · have := hq a g
      rw [hw1, x_set_eq] at this
      cases this
    · omega
  have h2a : w2 a = some (aI V (fun _ => 0)) := by
    rw [hw2]
    unfold x_rows
    rw [if_neg (by omega), if_neg (by omega), hw1, x_set_eq]
  have hea : ¬ en = a := fun e => by rw [e, h2a] at he; cases he
  have heq : en < q ∨ q + V < en := by
    by_cases g : en < q ∨ q + V < en
    · exact g
    · exfalso
      rw [hw2] at he
      unfold x_rows at he
      by_cases g1 : en = q
      · rw [if_pos g1] at he; cases he
      · rw [if_neg g1, if_pos (by omega)] at he; cases he
  have hwe : w en = none := by
    rw [hw2] at he
    unfold x_rows at he
    rw [if_neg (by omega), if_neg (by omega), hw1, x_set_ne _ _ hea] at he
    exact he
  have hwq : ∀ b, q ≤ b → w b = none := fun b hb => by
    have := hq b hb
    rw [hw1, x_set_ne _ _ (by omega)] at this
    exact this
  have hR1 : Rep Z K J w1 := by rw [hw1]; exact hR.fresh ha _
  have hR2 : Rep Z K J w2 := by rw [hw2]; exact hR1.rows hq
  have hR3 : Rep Z K J w3 := by rw [hw3]; exact hR2.fresh he _
  refine ⟨⟨haq, hea, heq, ha, hwe, hwq, NL.of hR ha, NL.of hR hwe, NL.of hR (hwq q (Nat.le_refl _)), fun i hi => NL.of hR (hwq _ (by omega))⟩, ⟨?_, ?_, ?_, fun i hi => ?_, fun b x hb => ?_⟩, hR3⟩
  · rw [hw3, x_set_ne _ _ (fun e => hea e.symm)]; exact h2a
  · rw [hw3, x_set_eq]
  · rw [hw3, x_set_ne _ _ (by omega), hw2]
    exact if_pos rfl
  · rw [hw3, x_set_ne _ _ (by omega), hw2]
    unfold x_rows
    rw [if_neg (by omega), if_pos (by omega)]
  · have hba : ¬ b = a := fun e => by rw [e, ha] at hb; cases hb
    have hbe : ¬ b = en := fun e => by rw [e, hwe] at hb; cases hb
    have hbq : b < q := by
      by_cases g : q ≤ b
      · rw [hwq b g] at hb; cases hb
      · omega
    rw [hw3, x_set_ne _ _ hbe, hw2]
    unfold x_rows
    rw [if_neg (by omega), if_neg (by omega), hw1, x_set_ne _ _ hba]
    exact hb
/-- one more array -/
def SW (Z : Nat → Nat → Nat) (K : kT) (w : xW) (V a q en wd : Nat) : Prop := NL Z K wd ∧ w wd = none ∧ ¬ wd = a ∧ ¬ wd = en ∧ (wd < q ∨ q + V < wd)
theorem SK.more {u wz : xW} {a q en wd : Nat} {fs fe : Nat → Int32} {fr : Nat → Nat → Int32} (h : SK w u V a q en fs fe fr) (A : SA Z K w V a q en) (hO : Oth Z K u wz) (hR : Rep Z K J wz) (hw : wz wd = none) : SW Z K w V a q en wd := by
  obtain ⟨h1, h2, h3, h4, h5⟩ := h
  obtain ⟨A1, A2, A3, A4, A5, A6, A7, A8, A9, A10⟩ := A
  have hN := NL.of hR hw
  have hu : u wd = none := by rw [← hO wd hN]; exact hw
  refine ⟨hN, ?_, (fun e => by rw [e, h1] at hu; cases hu), (fun e => by rw [e, h2] at hu; cases hu), ?_⟩
  · cases g : w wd with
    | none => rfl
    | some x => rw [h5 wd x g] at hu; cases hu
  · by_cases g : wd < q ∨ q + V < wd
    · exact g
    · exfalso
      by_cases g1 : wd = q
      · rw [g1, h3] at hu; cases hu
      · have := h4 (wd - q - 1) (by omega)
        rw [show q + 1 + (wd - q - 1) = wd by omega, hu] at this
        cases this
theorem SK.setW {u : xW} {a q en wd : Nat} {fs fe : Nat → Int32} {fr : Nat → Nat → Int32} (h : SK w u V a q en fs fe fr) (W : SW Z K w V a q en wd) (x : xE) : SK w (x_set u wd x) V a q en fs fe fr := by
  obtain ⟨h1, h2, h3, h4, h5⟩ := h
  obtain ⟨W1, W2, W3, W4, W5⟩ := W
  refine ⟨by rw [x_set_ne _ _ (fun e => W3 e.symm)]; exact h1, by rw [x_set_ne _ _ (fun e => W4 e.symm)]; exact h2, by rw [x_set_ne _ _ (by omega)]; exact h3, fun i hi => by rw [x_set_ne _ _ (by omega)]; exact h4 i hi, fun b y hb => ?_⟩
  rw [x_set_ne _ _ (fun e => by rw [e, W2] at hb; cases hb)]
  exact h5 b y hb
end WRP
