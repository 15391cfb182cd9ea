/-! ===== a new registry ===== -/
section INI
variable {l : Launch} {D : va_G} {dA : Nat → ClassId} {B : Nat} {w : xW}
def K0 : kT := (fun _ => 0, fun _ => 0, fun _ _ => 0, fun _ _ => 0, fun _ _ => 0, fun _ _ => 0, fun _ _ => 0, fun _ => 0, fun _ _ => 0, fun _ => 0, fun _ => 0)
def J0 : jT := (fun _ => 0, fun _ => 0, none, f_fill 5 (-1) (fun _ => 0), fun b => match b with | 0 => -1 | 1 => -1 | _ => 0)
def Z0 (r a1 a2 a3 ro st tr ka : Nat) : Nat → Nat → Nat := fun kd _ => match kd with | 0 => r | 1 => a1 | 2 => a2 | 3 => a3 | 4 => ro | 5 => st | 6 => tr | _ => ka
theorem Rep.mk0 {r a1 a2 a3 ro st tr ka : Nat} (e0 : w r = some (.inr (6, [.ref a1, .ref a2, .ref a3, .int 0, .int 0, .int 0, .int 0, .int 0, .int 0, .int 0, .ref ro, .ref tr]))) (e1 : w a1 = some (aF 4 (fun _ => none))) (e2 : w a2 = some (aC 10 (fun _ => none))) (e3 : w a3 = some (aA 10 (fun _ => none)))
    (e4 : w ro = some (oRou st 0 0 0 none)) (e5 : w st = some (aI 3 (fun _ => 0))) (e6 : w tr = some (oRet ka (-1) (-1) 0)) (e7 : w ka = some (aI 5 (f_fill 5 (-1) (fun _ => 0))))
    (nra1 : ¬ r = a1) (nra2 : ¬ r = a2) (nra3 : ¬ r = a3) (nrro : ¬ r = ro) (nrst : ¬ r = st) (nrtr : ¬ r = tr) (nrka : ¬ r = ka) (na1a2 : ¬ a1 = a2) (na1a3 : ¬ a1 = a3) (na1ro : ¬ a1 = ro) (na1st : ¬ a1 = st) (na1tr : ¬ a1 = tr) (na1ka : ¬ a1 = ka) (na2a3 : ¬ a2 = a3) (na2ro : ¬ a2 = ro) (na2st : ¬ a2 = st) (na2tr : ¬ a2 = tr) (na2ka : ¬ a2 = ka) (na3ro : ¬ a3 = ro) (na3st : ¬ a3 = st) (na3tr : ¬ a3 = tr) (na3ka : ¬ a3 = ka) (nrost : ¬ ro = st) (nrotr : ¬ ro = tr) (nroka : ¬ ro = ka) (nsttr : ¬ st = tr) (nstka : ¬ st = ka) (ntrka : ¬ tr = ka) : Rep (Z0 r a1 a2 a3 ro st tr ka) K0 J0 w := by
  have hno : ∀ i, ¬ vOk K0 i := fun i h => Nat.not_lt_zero _ h.1
  refine ⟨fun kd ix g => ?_, fun k1 i1 k2 i2 g1 g2 e => ?_, ?_⟩
  · rcases kd with _ | _ | _ | _ | _ | _ | _ | _ | _ | _ | _ | _ | _ | _ | _ | _ | _ | kd
    · exact e0
    · exact e1
    · exact e2
    · exact e3
    · exact e4
    · exact e5
    · exact e6
    · exact e7
    all_goals first
      | exact absurd g (Nat.not_lt_zero _)
      | exact absurd g (hno _)
      | exact absurd g (by unfold live; simp)
  · have hb : ∀ kd ix, live K0 kd ix → kd < 8 ∧ ix = 0 := fun kd ix g => by
      rcases kd with _ | _ | _ | _ | _ | _ | _ | _ | _ | _ | _ | _ | _ | _ | _ | _ | _ | kd
      all_goals first
        | exact ⟨by omega, g⟩
        | exact absurd g (Nat.not_lt_zero _)
        | exact absurd g (hno _)
        | exact absurd g (by unfold live; simp)
    obtain ⟨b1, rfl⟩ := hb _ _ g1
    obtain ⟨b2, rfl⟩ := hb _ _ g2
    refine ⟨?_, rfl⟩
    clear g1 g2 hb
    rcases (show k1 = 0 ∨ k1 = 1 ∨ k1 = 2 ∨ k1 = 3 ∨ k1 = 4 ∨ k1 = 5 ∨ k1 = 6 ∨ k1 = 7 by omega) with rfl | rfl | rfl | rfl | rfl | rfl | rfl | rfl <;> rcases (show k2 = 0 ∨ k2 = 1 ∨ k2 = 2 ∨ k2 = 3 ∨ k2 = 4 ∨ k2 = 5 ∨ k2 = 6 ∨ k2 = 7 by omega) with rfl | rfl | rfl | rfl | rfl | rfl | rfl | rfl <;> first | rfl | (simp only [Z0] at e; first | exact absurd e (by assumption) | exact absurd e.symm (by assumption))
  · exact ⟨by decide, fun f hf => absurd hf (Nat.not_lt_zero _), by decide, by decide, fun k hk => absurd hk (Nat.not_lt_zero _), fun k hk => absurd hk (Nat.not_lt_zero _)⟩
/-- what the constructor leaves -/
def IM (w : xW) (r : Nat) (w1 : xW) : Prop := ∃ Z1, Z1 0 0 = r ∧ Rep Z1 K0 J0 w1 ∧ ∀ a x, w a = some x → ¬ a = r → w1 a = some x ∧ ∀ kd ix, live K0 kd ix → ¬ a = Z1 kd ix
set_option maxRecDepth 100000 in
set_option maxHeartbeats 4000000 in
theorem c_init {r : Nat} (h_r : w r = some (.inr (6, [.null, .null, .null, .int 0, .int 0, .int 0, .int 0, .int 0, .int 0, .int 0, .null, .null]))) : x_Cv l D dA vwCl tyL0 B yX6_init wX6_init (rmd 2 7 41) [.ref r] w (IM w r) 7 41 := by
  refine x_Ct.of (cc := cX6_init) (maxL := 1) (by decide) rfl (Nat.le_of_ble_eq_true rfl) ?_
  intro p e s m below meth c F
  have hf : ∀ b, ¬ b = r → w b = w b := fun b _ => rfl
  refine x_aload_n F dX6_init_0 rfl rfl ?_
  refine x_objInit F dX6_init_1 q22 q23 q24 (Nat.le_of_ble_eq_true rfl) (Nat.le_of_ble_eq_true rfl) ?_
  refine x_aload_n F dX6_init_4 rfl rfl ?_
  refine x_iconst (v := 4) F dX6_init_5 (by decide) ?_
  refine x_newq (t := 1) (N := 4) (C := RX2) F dX6_init_6 rfl q25 (x1 (x_Fix.xt F)) (by decide) rfl (Nat.le_of_ble_eq_true rfl) (Nat.le_of_ble_eq_true rfl) (Nat.le_of_ble_eq_true rfl) (fun a1 ha1 => ?_)
  refine x_wd (fun w1 hw1 => ?_)
  have ne_r_a1 : ¬ r = a1 := fun e => by rw [e, ha1] at h_r; cases h_r
  have fr_a1 : w a1 = none := by rw [← hf a1 (fun e => ne_r_a1 e.symm)]; exact ha1
  have h_r : w1 r = some (.inr (6, [.null, .null, .null, .int 0, .int 0, .int 0, .int 0, .int 0, .int 0, .int 0, .null, .null])) := by rw [hw1, x_set_ne _ _ ne_r_a1]; exact h_r
  have h_a1 : w1 a1 = some (aF 4 (fun _ => none)) := by rw [hw1]; exact x_set_eq _ _ _
  have hf : ∀ b, ¬ b = r → ¬ b = a1 → w1 b = w b := fun b g0 g1 => by rw [hw1]; exact (x_set_ne _ _ g1).trans (hf b g0)
  refine x_putF (ci := 6) (C := RX6) (T := TX6) (N := 12) (k := 0) F dX6_init_9 rfl inX6 tyX6 tyX6_ok nmX6 (by decide) q65 rfl rfl rfl rfl h_r (Nat.le_of_ble_eq_true rfl) rfl rfl ?_
  refine x_wd (fun w2 hw2 => ?_)
  have h_r : w2 r = some (.inr (6, [.ref a1, .null, .null, .int 0, .int 0, .int 0, .int 0, .int 0, .int 0, .int 0, .null, .null])) := by rw [hw2]; exact x_set_eq _ _ _
  have h_a1 : w2 a1 = some (aF 4 (fun _ => none)) := by rw [hw2, x_set_ne _ _ (fun e => ne_r_a1 e.symm)]; exact h_a1
  have hf : ∀ b, ¬ b = r → ¬ b = a1 → w2 b = w b := fun b g0 g1 => by rw [hw2]; exact (x_set_ne _ _ g0).trans (hf b g0 g1)
  refine x_aload_n F dX6_init_12 rfl rfl ?_
  refine x_bipush (v := 10) F dX6_init_13 (by decide) ?_
  refine x_newq (t := 2) (N := 10) (C := RX1) F dX6_init_15 rfl q26 (x2 (x_Fix.xt F)) (by decide) rfl (Nat.le_of_ble_eq_true rfl) (Nat.le_of_ble_eq_true rfl) (Nat.le_of_ble_eq_true rfl) (fun a2 ha2 => ?_)
  refine x_wd (fun w3 hw3 => ?_)
  have ne_r_a2 : ¬ r = a2 := fun e => by rw [e, ha2] at h_r; cases h_r
  have ne_a1_a2 : ¬ a1 = a2 := fun e => by rw [e, ha2] at h_a1; cases h_a1
  have fr_a2 : w a2 = none := by rw [← hf a2 (fun e => ne_r_a2 e.symm) (fun e => ne_a1_a2 e.symm)]; exact ha2
  have h_r : w3 r = some (.inr (6, [.ref a1, .null, .null, .int 0, .int 0, .int 0, .int 0, .int 0, .int 0, .int 0, .null, .null])) := by rw [hw3, x_set_ne _ _ ne_r_a2]; exact h_r
  have h_a1 : w3 a1 = some (aF 4 (fun _ => none)) := by rw [hw3, x_set_ne _ _ ne_a1_a2]; exact h_a1
  have h_a2 : w3 a2 = some (aC 10 (fun _ => none)) := by rw [hw3]; exact x_set_eq _ _ _
  have hf : ∀ b, ¬ b = r → ¬ b = a1 → ¬ b = a2 → w3 b = w b := fun b g0 g1 g2 => by rw [hw3]; exact (x_set_ne _ _ g2).trans (hf b g0 g1)
  refine x_putF (ci := 6) (C := RX6) (T := TX6) (N := 12) (k := 1) F dX6_init_18 rfl inX6 tyX6 tyX6_ok nmX6 (by decide) q66 rfl rfl rfl rfl h_r (Nat.le_of_ble_eq_true rfl) rfl rfl ?_
  refine x_wd (fun w4 hw4 => ?_)
  have h_r : w4 r = some (.inr (6, [.ref a1, .ref a2, .null, .int 0, .int 0, .int 0, .int 0, .int 0, .int 0, .int 0, .null, .null])) := by rw [hw4]; exact x_set_eq _ _ _
  have h_a1 : w4 a1 = some (aF 4 (fun _ => none)) := by rw [hw4, x_set_ne _ _ (fun e => ne_r_a1 e.symm)]; exact h_a1
  have h_a2 : w4 a2 = some (aC 10 (fun _ => none)) := by rw [hw4, x_set_ne _ _ (fun e => ne_r_a2 e.symm)]; exact h_a2
  have hf : ∀ b, ¬ b = r → ¬ b = a1 → ¬ b = a2 → w4 b = w b := fun b g0 g1 g2 => by rw [hw4]; exact (x_set_ne _ _ g0).trans (hf b g0 g1 g2)
  refine x_aload_n F dX6_init_21 rfl rfl ?_
  refine x_bipush (v := 10) F dX6_init_22 (by decide) ?_
  refine x_newq (t := 3) (N := 10) (C := RX0) F dX6_init_24 rfl q27 (x3 (x_Fix.xt F)) (by decide) rfl (Nat.le_of_ble_eq_true rfl) (Nat.le_of_ble_eq_true rfl) (Nat.le_of_ble_eq_true rfl) (fun a3 ha3 => ?_)
  refine x_wd (fun w5 hw5 => ?_)
  have ne_r_a3 : ¬ r = a3 := fun e => by rw [e, ha3] at h_r; cases h_r
  have ne_a1_a3 : ¬ a1 = a3 := fun e => by rw [e, ha3] at h_a1; cases h_a1
  have ne_a2_a3 : ¬ a2 = a3 := fun e => by rw [e, ha3] at h_a2; cases h_a2
  have fr_a3 : w a3 = none := by rw [← hf a3 (fun e => ne_r_a3 e.symm) (fun e => ne_a1_a3 e.symm) (fun e => ne_a2_a3 e.symm)]; exact ha3
  have h_r : w5 r = some (.inr (6, [.ref a1, .ref a2, .null, .int 0, .int 0, .int 0, .int 0, .int 0, .int 0, .int 0, .null, .null])) := by rw [hw5, x_set_ne _ _ ne_r_a3]; exact h_r
  have h_a1 : w5 a1 = some (aF 4 (fun _ => none)) := by rw [hw5, x_set_ne _ _ ne_a1_a3]; exact h_a1
  have h_a2 : w5 a2 = some (aC 10 (fun _ => none)) := by rw [hw5, x_set_ne _ _ ne_a2_a3]; exact h_a2
  have h_a3 : w5 a3 = some (aA 10 (fun _ => none)) := by rw [hw5]; exact x_set_eq _ _ _
  have hf : ∀ b, ¬ b = r → ¬ b = a1 → ¬ b = a2 → ¬ b = a3 → w5 b = w b := fun b g0 g1 g2 g3 => by rw [hw5]; exact (x_set_ne _ _ g3).trans (hf b g0 g1 g2)
  refine x_putF (ci := 6) (C := RX6) (T := TX6) (N := 12) (k := 2) F dX6_init_27 rfl inX6 tyX6 tyX6_ok nmX6 (by decide) q67 rfl rfl rfl rfl h_r (Nat.le_of_ble_eq_true rfl) rfl rfl ?_
  refine x_wd (fun w6 hw6 => ?_)
  have h_r : w6 r = some (.inr (6, [.ref a1, .ref a2, .ref a3, .int 0, .int 0, .int 0, .int 0, .int 0, .int 0, .int 0, .null, .null])) := by rw [hw6]; exact x_set_eq _ _ _
  have h_a1 : w6 a1 = some (aF 4 (fun _ => none)) := by rw [hw6, x_set_ne _ _ (fun e => ne_r_a1 e.symm)]; exact h_a1
  have h_a2 : w6 a2 = some (aC 10 (fun _ => none)) := by rw [hw6, x_set_ne _ _ (fun e => ne_r_a2 e.symm)]; exact h_a2
  have h_a3 : w6 a3 = some (aA 10 (fun _ => none)) := by rw [hw6, x_set_ne _ _ (fun e => ne_r_a3 e.symm)]; exact h_a3
  have hf : ∀ b, ¬ b = r → ¬ b = a1 → ¬ b = a2 → ¬ b = a3 → w6 b = w b := fun b g0 g1 g2 g3 => by rw [hw6]; exact (x_set_ne _ _ g0).trans (hf b g0 g1 g2 g3)
  refine x_aload_n F dX6_init_30 rfl rfl ?_
  refine x_new (ci := 4) (C := RX4) (T := TX4) (N := 5) (fs := [.null, .int 0, .int 0, .int 0, .null]) F dX6_init_31 rfl inX4 tyX4 tyX4_ok q28 q29 q2 (fun j hj => by rcases (show j = 0 ∨ j = 1 ∨ j = 2 ∨ j = 3 ∨ j = 4 by omega) with rfl | rfl | rfl | rfl | rfl <;> rfl) (Nat.le_of_ble_eq_true rfl) (Nat.le_of_ble_eq_true rfl) (fun ro hro => ?_)
  refine x_wd (fun w7 hw7 => ?_)
  have ne_r_ro : ¬ r = ro := fun e => by rw [e, hro] at h_r; cases h_r
  have ne_a1_ro : ¬ a1 = ro := fun e => by rw [e, hro] at h_a1; cases h_a1
  have ne_a2_ro : ¬ a2 = ro := fun e => by rw [e, hro] at h_a2; cases h_a2
  have ne_a3_ro : ¬ a3 = ro := fun e => by rw [e, hro] at h_a3; cases h_a3
  have fr_ro : w ro = none := by rw [← hf ro (fun e => ne_r_ro e.symm) (fun e => ne_a1_ro e.symm) (fun e => ne_a2_ro e.symm) (fun e => ne_a3_ro e.symm)]; exact hro
  have h_r : w7 r = some (.inr (6, [.ref a1, .ref a2, .ref a3, .int 0, .int 0, .int 0, .int 0, .int 0, .int 0, .int 0, .null, .null])) := by rw [hw7, x_set_ne _ _ ne_r_ro]; exact h_r
  have h_a1 : w7 a1 = some (aF 4 (fun _ => none)) := by rw [hw7, x_set_ne _ _ ne_a1_ro]; exact h_a1
  have h_a2 : w7 a2 = some (aC 10 (fun _ => none)) := by rw [hw7, x_set_ne _ _ ne_a2_ro]; exact h_a2
  have h_a3 : w7 a3 = some (aA 10 (fun _ => none)) := by rw [hw7, x_set_ne _ _ ne_a3_ro]; exact h_a3
  have h_ro : w7 ro = some (.inr (4, [.null, .int 0, .int 0, .int 0, .null])) := by rw [hw7]; exact x_set_eq _ _ _
  have hf : ∀ b, ¬ b = r → ¬ b = a1 → ¬ b = a2 → ¬ b = a3 → ¬ b = ro → w7 b = w b := fun b g0 g1 g2 g3 g4 => by rw [hw7]; exact (x_set_ne _ _ g4).trans (hf b g0 g1 g2 g3)
  refine x_dup F dX6_init_34 rfl ?_
  refine x_cIN0 F dX6_init_35 (x_gI q31) q2 (x4 (x_Fix.xt F)) q30 rfl (c_rou_init h_ro) ⟨rfl, rfl, rfl, xd_X4_init, ⟨Nat.le_of_ble_eq_true rfl, Nat.le_of_ble_eq_true rfl⟩, Nat.le_of_ble_eq_true rfl, Nat.le_of_ble_eq_true rfl⟩ (Nat.le_of_ble_eq_true rfl) (fun w1 hp => ?_)
  obtain ⟨st, fst, g_ro, g_st, hf2⟩ := hp
  have ne_r_st : ¬ r = st := fun e => by rw [e, fst] at h_r; cases h_r
  have ne_a1_st : ¬ a1 = st := fun e => by rw [e, fst] at h_a1; cases h_a1
  have ne_a2_st : ¬ a2 = st := fun e => by rw [e, fst] at h_a2; cases h_a2
  have ne_a3_st : ¬ a3 = st := fun e => by rw [e, fst] at h_a3; cases h_a3
  have ne_ro_st : ¬ ro = st := fun e => by rw [e, fst] at h_ro; cases h_ro
  have fr_st : w st = none := by rw [← hf st (fun e => ne_r_st e.symm) (fun e => ne_a1_st e.symm) (fun e => ne_a2_st e.symm) (fun e => ne_a3_st e.symm) (fun e => ne_ro_st e.symm)]; exact fst
  have h_r : w1 r = some (.inr (6, [.ref a1, .ref a2, .ref a3, .int 0, .int 0, .int 0, .int 0, .int 0, .int 0, .int 0, .null, .null])) := by rw [hf2 r ne_r_ro ne_r_st]; exact h_r
  have h_a1 : w1 a1 = some (aF 4 (fun _ => none)) := by rw [hf2 a1 ne_a1_ro ne_a1_st]; exact h_a1
  have h_a2 : w1 a2 = some (aC 10 (fun _ => none)) := by rw [hf2 a2 ne_a2_ro ne_a2_st]; exact h_a2
  have h_a3 : w1 a3 = some (aA 10 (fun _ => none)) := by rw [hf2 a3 ne_a3_ro ne_a3_st]; exact h_a3
  have h_ro : w1 ro = some (oRou st 0 0 0 none) := g_ro
  have h_st : w1 st = some (aI 3 (fun _ => 0)) := g_st
  have hf : ∀ b, ¬ b = r → ¬ b = a1 → ¬ b = a2 → ¬ b = a3 → ¬ b = ro → ¬ b = st → w1 b = w b := fun b g0 g1 g2 g3 g4 g5 => by rw [hf2 b g4 g5]; exact hf b g0 g1 g2 g3 g4
  refine x_putF (ci := 6) (C := RX6) (T := TX6) (N := 12) (k := 10) F dX6_init_38 rfl inX6 tyX6 tyX6_ok nmX6 (by decide) q75 rfl rfl rfl rfl h_r (Nat.le_of_ble_eq_true rfl) rfl rfl ?_
  refine x_wd (fun w8 hw8 => ?_)
  have h_r : w8 r = some (.inr (6, [.ref a1, .ref a2, .ref a3, .int 0, .int 0, .int 0, .int 0, .int 0, .int 0, .int 0, .ref ro, .null])) := by rw [hw8]; exact x_set_eq _ _ _
  have h_a1 : w8 a1 = some (aF 4 (fun _ => none)) := by rw [hw8, x_set_ne _ _ (fun e => ne_r_a1 e.symm)]; exact h_a1
  have h_a2 : w8 a2 = some (aC 10 (fun _ => none)) := by rw [hw8, x_set_ne _ _ (fun e => ne_r_a2 e.symm)]; exact h_a2
  have h_a3 : w8 a3 = some (aA 10 (fun _ => none)) := by rw [hw8, x_set_ne _ _ (fun e => ne_r_a3 e.symm)]; exact h_a3
  have h_ro : w8 ro = some (oRou st 0 0 0 none) := by rw [hw8, x_set_ne _ _ (fun e => ne_r_ro e.symm)]; exact h_ro
  have h_st : w8 st = some (aI 3 (fun _ => 0)) := by rw [hw8, x_set_ne _ _ (fun e => ne_r_st e.symm)]; exact h_st
  have hf : ∀ b, ¬ b = r → ¬ b = a1 → ¬ b = a2 → ¬ b = a3 → ¬ b = ro → ¬ b = st → w8 b = w b := fun b g0 g1 g2 g3 g4 g5 => by rw [hw8]; exact (x_set_ne _ _ g0).trans (hf b g0 g1 g2 g3 g4 g5)
  refine x_aload_n F dX6_init_41 rfl rfl ?_
  refine x_new (ci := 3) (C := RX3) (T := TX3) (N := 4) (fs := [.null, .int 0, .int 0, .int 0]) F dX6_init_42 rfl inX3 tyX3 tyX3_ok q45 q46 q3 (fun j hj => by rcases (show j = 0 ∨ j = 1 ∨ j = 2 ∨ j = 3 by omega) with rfl | rfl | rfl | rfl <;> rfl) (Nat.le_of_ble_eq_true rfl) (Nat.le_of_ble_eq_true rfl) (fun tr htr => ?_)
  refine x_wd (fun w9 hw9 => ?_)
  have ne_r_tr : ¬ r = tr := fun e => by rw [e, htr] at h_r; cases h_r
  have ne_a1_tr : ¬ a1 = tr := fun e => by rw [e, htr] at h_a1; cases h_a1
  have ne_a2_tr : ¬ a2 = tr := fun e => by rw [e, htr] at h_a2; cases h_a2
  have ne_a3_tr : ¬ a3 = tr := fun e => by rw [e, htr] at h_a3; cases h_a3
  have ne_ro_tr : ¬ ro = tr := fun e => by rw [e, htr] at h_ro; cases h_ro
  have ne_st_tr : ¬ st = tr := fun e => by rw [e, htr] at h_st; cases h_st
  have fr_tr : w tr = none := by rw [← hf tr (fun e => ne_r_tr e.symm) (fun e => ne_a1_tr e.symm) (fun e => ne_a2_tr e.symm) (fun e => ne_a3_tr e.symm) (fun e => ne_ro_tr e.symm) (fun e => ne_st_tr e.symm)]; exact htr
  have h_r : w9 r = some (.inr (6, [.ref a1, .ref a2, .ref a3, .int 0, .int 0, .int 0, .int 0, .int 0, .int 0, .int 0, .ref ro, .null])) := by rw [hw9, x_set_ne _ _ ne_r_tr]; exact h_r
  have h_a1 : w9 a1 = some (aF 4 (fun _ => none)) := by rw [hw9, x_set_ne _ _ ne_a1_tr]; exact h_a1
  have h_a2 : w9 a2 = some (aC 10 (fun _ => none)) := by rw [hw9, x_set_ne _ _ ne_a2_tr]; exact h_a2
  have h_a3 : w9 a3 = some (aA 10 (fun _ => none)) := by rw [hw9, x_set_ne _ _ ne_a3_tr]; exact h_a3
  have h_ro : w9 ro = some (oRou st 0 0 0 none) := by rw [hw9, x_set_ne _ _ ne_ro_tr]; exact h_ro
  have h_st : w9 st = some (aI 3 (fun _ => 0)) := by rw [hw9, x_set_ne _ _ ne_st_tr]; exact h_st
  have h_tr : w9 tr = some (.inr (3, [.null, .int 0, .int 0, .int 0])) := by rw [hw9]; exact x_set_eq _ _ _
  have hf : ∀ b, ¬ b = r → ¬ b = a1 → ¬ b = a2 → ¬ b = a3 → ¬ b = ro → ¬ b = st → ¬ b = tr → w9 b = w b := fun b g0 g1 g2 g3 g4 g5 g6 => by rw [hw9]; exact (x_set_ne _ _ g6).trans (hf b g0 g1 g2 g3 g4 g5)
  refine x_dup F dX6_init_45 rfl ?_
  refine x_cI0 F dX6_init_46 (x_gI q49) q3 q47 q48 rfl (c_ret_init h_tr) ⟨rfl, rfl, rfl, xd_X3_init, ⟨Nat.le_of_ble_eq_true rfl, Nat.le_of_ble_eq_true rfl⟩, Nat.le_of_ble_eq_true rfl, Nat.le_of_ble_eq_true rfl⟩ (Nat.le_of_ble_eq_true rfl) (fun w1 hp => ?_)
  obtain ⟨ka, fka, g_tr, g_ka, hf2⟩ := hp
  have ne_r_ka : ¬ r = ka := fun e => by rw [e, fka] at h_r; cases h_r
  have ne_a1_ka : ¬ a1 = ka := fun e => by rw [e, fka] at h_a1; cases h_a1
  have ne_a2_ka : ¬ a2 = ka := fun e => by rw [e, fka] at h_a2; cases h_a2
  have ne_a3_ka : ¬ a3 = ka := fun e => by rw [e, fka] at h_a3; cases h_a3
  have ne_ro_ka : ¬ ro = ka := fun e => by rw [e, fka] at h_ro; cases h_ro
  have ne_st_ka : ¬ st = ka := fun e => by rw [e, fka] at h_st; cases h_st
  have ne_tr_ka : ¬ tr = ka := fun e => by rw [e, fka] at h_tr; cases h_tr
  have fr_ka : w ka = none := by rw [← hf ka (fun e => ne_r_ka e.symm) (fun e => ne_a1_ka e.symm) (fun e => ne_a2_ka e.symm) (fun e => ne_a3_ka e.symm) (fun e => ne_ro_ka e.symm) (fun e => ne_st_ka e.symm) (fun e => ne_tr_ka e.symm)]; exact fka
  have h_r : w1 r = some (.inr (6, [.ref a1, .ref a2, .ref a3, .int 0, .int 0, .int 0, .int 0, .int 0, .int 0, .int 0, .ref ro, .null])) := by rw [hf2 r ne_r_tr ne_r_ka]; exact h_r
  have h_a1 : w1 a1 = some (aF 4 (fun _ => none)) := by rw [hf2 a1 ne_a1_tr ne_a1_ka]; exact h_a1
  have h_a2 : w1 a2 = some (aC 10 (fun _ => none)) := by rw [hf2 a2 ne_a2_tr ne_a2_ka]; exact h_a2
  have h_a3 : w1 a3 = some (aA 10 (fun _ => none)) := by rw [hf2 a3 ne_a3_tr ne_a3_ka]; exact h_a3
  have h_ro : w1 ro = some (oRou st 0 0 0 none) := by rw [hf2 ro ne_ro_tr ne_ro_ka]; exact h_ro
  have h_st : w1 st = some (aI 3 (fun _ => 0)) := by rw [hf2 st ne_st_tr ne_st_ka]; exact h_st
  have h_tr : w1 tr = some (oRet ka (-1) (-1) 0) := g_tr
  have h_ka : w1 ka = some (aI 5 (f_fill 5 (-1) (fun _ => 0))) := g_ka
  have hf : ∀ b, ¬ b = r → ¬ b = a1 → ¬ b = a2 → ¬ b = a3 → ¬ b = ro → ¬ b = st → ¬ b = tr → ¬ b = ka → w1 b = w b := fun b g0 g1 g2 g3 g4 g5 g6 g7 => by rw [hf2 b g6 g7]; exact hf b g0 g1 g2 g3 g4 g5 g6
  refine x_putF (ci := 6) (C := RX6) (T := TX6) (N := 12) (k := 11) F dX6_init_49 rfl inX6 tyX6 tyX6_ok nmX6 (by decide) q76 rfl rfl rfl rfl h_r (Nat.le_of_ble_eq_true rfl) rfl rfl ?_
  refine x_wd (fun w10 hw10 => ?_)
  have h_r : w10 r = some (.inr (6, [.ref a1, .ref a2, .ref a3, .int 0, .int 0, .int 0, .int 0, .int 0, .int 0, .int 0, .ref ro, .ref tr])) := by rw [hw10]; exact x_set_eq _ _ _
  have h_a1 : w10 a1 = some (aF 4 (fun _ => none)) := by rw [hw10, x_set_ne _ _ (fun e => ne_r_a1 e.symm)]; exact h_a1
  have h_a2 : w10 a2 = some (aC 10 (fun _ => none)) := by rw [hw10, x_set_ne _ _ (fun e => ne_r_a2 e.symm)]; exact h_a2
  have h_a3 : w10 a3 = some (aA 10 (fun _ => none)) := by rw [hw10, x_set_ne _ _ (fun e => ne_r_a3 e.symm)]; exact h_a3
  have h_ro : w10 ro = some (oRou st 0 0 0 none) := by rw [hw10, x_set_ne _ _ (fun e => ne_r_ro e.symm)]; exact h_ro
  have h_st : w10 st = some (aI 3 (fun _ => 0)) := by rw [hw10, x_set_ne _ _ (fun e => ne_r_st e.symm)]; exact h_st
  have h_tr : w10 tr = some (oRet ka (-1) (-1) 0) := by rw [hw10, x_set_ne _ _ (fun e => ne_r_tr e.symm)]; exact h_tr
  have h_ka : w10 ka = some (aI 5 (f_fill 5 (-1) (fun _ => 0))) := by rw [hw10, x_set_ne _ _ (fun e => ne_r_ka e.symm)]; exact h_ka
  have hf : ∀ b, ¬ b = r → ¬ b = a1 → ¬ b = a2 → ¬ b = a3 → ¬ b = ro → ¬ b = st → ¬ b = tr → ¬ b = ka → w10 b = w b := fun b g0 g1 g2 g3 g4 g5 g6 g7 => by rw [hw10]; exact (x_set_ne _ _ g0).trans (hf b g0 g1 g2 g3 g4 g5 g6 g7)
  refine x_vret F rfl dX6_init_52 (Nat.le_refl _) (Nat.le_refl _) ?_
  refine ⟨rfl, Z0 r a1 a2 a3 ro st tr ka, rfl, Rep.mk0 h_r h_a1 h_a2 h_a3 h_ro h_st h_tr h_ka ne_r_a1 ne_r_a2 ne_r_a3 ne_r_ro ne_r_st ne_r_tr ne_r_ka ne_a1_a2 ne_a1_a3 ne_a1_ro ne_a1_st ne_a1_tr ne_a1_ka ne_a2_a3 ne_a2_ro ne_a2_st ne_a2_tr ne_a2_ka ne_a3_ro ne_a3_st ne_a3_tr ne_a3_ka ne_ro_st ne_ro_tr ne_ro_ka ne_st_tr ne_st_ka ne_tr_ka, fun a x hx hne => ⟨?_, fun kd ix g e => ?_⟩⟩
  · rw [hf a hne (fun e => by rw [e, fr_a1] at hx; cases hx) (fun e => by rw [e, fr_a2] at hx; cases hx) (fun e => by rw [e, fr_a3] at hx; cases hx) (fun e => by rw [e, fr_ro] at hx; cases hx) (fun e => by rw [e, fr_st] at hx; cases hx) (fun e => by rw [e, fr_tr] at hx; cases hx) (fun e => by rw [e, fr_ka] at hx; cases hx)]
    exact hx
  · unfold Z0 at e
    split at e
    · exact hne e
    all_goals (subst e; first | (rw [fr_a1] at hx; cases hx; done) | (rw [fr_a2] at hx; cases hx; done) | (rw [fr_a3] at hx; cases hx; done) | (rw [fr_ro] at hx; cases hx; done) | (rw [fr_st] at hx; cases hx; done) | (rw [fr_tr] at hx; cases hx; done) | (rw [fr_ka] at hx; cases hx; done))
end INI
