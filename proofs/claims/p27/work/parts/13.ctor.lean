/-! ===== constructors ===== -/
section CTR
variable {l : Launch} {D : va_G} {dA : Nat → ClassId} {B : Nat} {w : xW}
set_option maxRecDepth 100000 in
set_option maxHeartbeats 4000000 in
theorem c_ret_init {r : Nat} (h_r : w r = some (.inr (3, [.null, .int 0, .int 0, .int 0]))) : x_Cv l D dA vwCl tyL0 B yX3_init wX3_init (rmd 1 1 5) [.ref r] w (fun w1 => ∃ ka, w ka = none ∧ w1 r = some (oRet ka (-1) (-1) 0) ∧ w1 ka = some (aI 5 (f_fill 5 (-1) (fun _ => 0))) ∧ ∀ b, ¬ b = r → ¬ b = ka → w1 b = w b) 1 5 := by
  refine x_Ct.of (cc := cX3_init) (maxL := 1) (by decide) rfl (Nat.le_of_ble_eq_true rfl) ?_
  intro p e s m below meth c F
  refine x_aload_n F dX3_init_0 rfl rfl ?_
  refine x_objInit F dX3_init_1 q50 q23 q24 (Nat.le_of_ble_eq_true rfl) (Nat.le_of_ble_eq_true rfl) ?_
  have hf : ∀ b, ¬ b = r → w b = w b := fun b _ => rfl
  refine x_aload_n F dX3_init_4 rfl rfl ?_
  refine x_iconst (v := 5) F dX3_init_5 (by decide) ?_
  refine x_newa (t := 0) (N := 5) F dX3_init_6 rfl q44 (by decide) rfl (Nat.le_of_ble_eq_true rfl) (Nat.le_of_ble_eq_true rfl) (Nat.le_of_ble_eq_true rfl) (fun ka hka => ?_)
  refine x_wd (fun w1 hw1 => ?_)
  have ne_r_k : ¬ r = ka := fun e => by rw [e, hka] at h_r; cases h_r
  have fr_k : w ka = none := by rw [← hf ka (fun e => ne_r_k e.symm)]; exact hka
  have h_r : w1 r = some (.inr (3, [.null, .int 0, .int 0, .int 0])) := by rw [hw1, x_set_ne _ _ ne_r_k]; exact h_r
  have h_k : w1 ka = some (aI 5 (fun _ => 0)) := by rw [hw1]; exact x_set_eq _ _ _
  have hf : ∀ b, ¬ b = r → ¬ b = ka → w1 b = w b := fun b g0 g1 => by rw [hw1]; exact (x_set_ne _ _ g1).trans (hf b g0)
  refine x_putF (ci := 3) (C := RX3) (T := TX3) (N := 4) (k := 0) F dX3_init_8 rfl inX3 tyX3 tyX3_ok nmX3 (by decide) q54 rfl rfl rfl rfl h_r (Nat.le_of_ble_eq_true rfl) rfl rfl ?_
  refine x_wd (fun w2 hw2 => ?_)
  have h_r : w2 r = some (.inr (3, [.ref ka, .int 0, .int 0, .int 0])) := by rw [hw2]; exact x_set_eq _ _ _
  have h_k : w2 ka = some (aI 5 (fun _ => 0)) := by rw [hw2, x_set_ne _ _ (fun e => ne_r_k e.symm)]; exact h_k
  have hf : ∀ b, ¬ b = r → ¬ b = ka → w2 b = w b := fun b g0 g1 => by rw [hw2]; exact (x_set_ne _ _ g0).trans (hf b g0 g1)
  refine x_aload_n F dX3_init_11 rfl rfl ?_
  refine x_iconst (v := (-1)) F dX3_init_12 (by decide) ?_
  refine x_put (ci := 3) (C := RX3) (T := TX3) (N := 4) (k := 1) F dX3_init_13 rfl inX3 tyX3 tyX3_ok nmX3 (by decide) q55 rfl rfl h_r (Nat.le_of_ble_eq_true rfl) rfl rfl ?_
  refine x_wd (fun w3 hw3 => ?_)
  have h_r : w3 r = some (.inr (3, [.ref ka, .int (-1), .int 0, .int 0])) := by rw [hw3]; exact x_set_eq _ _ _
  have h_k : w3 ka = some (aI 5 (fun _ => 0)) := by rw [hw3, x_set_ne _ _ (fun e => ne_r_k e.symm)]; exact h_k
  have hf : ∀ b, ¬ b = r → ¬ b = ka → w3 b = w b := fun b g0 g1 => by rw [hw3]; exact (x_set_ne _ _ g0).trans (hf b g0 g1)
  refine x_aload_n F dX3_init_16 rfl rfl ?_
  refine x_iconst (v := (-1)) F dX3_init_17 (by decide) ?_
  refine x_put (ci := 3) (C := RX3) (T := TX3) (N := 4) (k := 2) F dX3_init_18 rfl inX3 tyX3 tyX3_ok nmX3 (by decide) q57 rfl rfl h_r (Nat.le_of_ble_eq_true rfl) rfl rfl ?_
  refine x_wd (fun w4 hw4 => ?_)
  have h_r : w4 r = some (.inr (3, [.ref ka, .int (-1), .int (-1), .int 0])) := by rw [hw4]; exact x_set_eq _ _ _
  have h_k : w4 ka = some (aI 5 (fun _ => 0)) := by rw [hw4, x_set_ne _ _ (fun e => ne_r_k e.symm)]; exact h_k
  have hf : ∀ b, ¬ b = r → ¬ b = ka → w4 b = w b := fun b g0 g1 => by rw [hw4]; exact (x_set_ne _ _ g0).trans (hf b g0 g1)
  refine x_aload_n F dX3_init_21 rfl rfl ?_
  refine x_get (ci := 3) (C := RX3) (T := TX3) (N := 4) (k := 0) F dX3_init_22 rfl inX3 (by decide) q54 rfl h_r rfl ?_
  refine x_iconst (v := (-1)) F dX3_init_25 (by decide) ?_
  refine x_cSv2 F dX3_init_26 (x_gS q51 q52 q4 q53) (c_fill (by decide) h_k (-1)) ⟨rfl, rfl, rfl, xd_J7_fill_53178, ⟨Nat.le_of_ble_eq_true rfl, Nat.le_of_ble_eq_true rfl⟩, Nat.le_of_ble_eq_true rfl, Nat.le_of_ble_eq_true rfl⟩ (Nat.le_of_ble_eq_true rfl) (fun w1 hp => ?_)
  obtain ⟨w5, hw5⟩ : ∃ w5, w5 = w1 := ⟨_, rfl⟩
  rw [← hw5]
  rw [hp] at hw5
  have h_r : w5 r = some (.inr (3, [.ref ka, .int (-1), .int (-1), .int 0])) := by rw [hw5, x_set_ne _ _ ne_r_k]; exact h_r
  have h_k : w5 ka = some (aI 5 (f_fill 5 (-1) (fun _ => 0))) := by rw [hw5]; exact x_set_eq _ _ _
  have hf : ∀ b, ¬ b = r → ¬ b = ka → w5 b = w b := fun b g0 g1 => by rw [hw5]; exact (x_set_ne _ _ g1).trans (hf b g0 g1)
  refine x_vret F rfl dX3_init_29 (Nat.le_refl _) (Nat.le_refl _) ?_
  exact ⟨rfl, ka, fr_k, h_r, h_k, hf⟩
set_option maxRecDepth 100000 in
set_option maxHeartbeats 4000000 in
theorem c_rou_init {r : Nat} (h_r : w r = some (.inr (4, [.null, .int 0, .int 0, .int 0, .null]))) : x_Cv l D dA vwCl tyL0 B yX4_init wX4_init (rmd 1 1 3) [.ref r] w (fun w1 => ∃ ka, w ka = none ∧ w1 r = some (oRou ka 0 0 0 none) ∧ w1 ka = some (aI 3 (fun _ => 0)) ∧ ∀ b, ¬ b = r → ¬ b = ka → w1 b = w b) 1 3 := by
  refine x_Ct.of (cc := cX4_init) (maxL := 1) (by decide) rfl (Nat.le_of_ble_eq_true rfl) ?_
  intro p e s m below meth c F
  refine x_aload_n F dX4_init_0 rfl rfl ?_
  refine x_objInit F dX4_init_1 q32 q23 q24 (Nat.le_of_ble_eq_true rfl) (Nat.le_of_ble_eq_true rfl) ?_
  have hf : ∀ b, ¬ b = r → w b = w b := fun b _ => rfl
  refine x_aload_n F dX4_init_4 rfl rfl ?_
  refine x_iconst (v := 3) F dX4_init_5 (by decide) ?_
  refine x_newa (t := 0) (N := 3) F dX4_init_6 rfl q44 (by decide) rfl (Nat.le_of_ble_eq_true rfl) (Nat.le_of_ble_eq_true rfl) (Nat.le_of_ble_eq_true rfl) (fun ka hka => ?_)
  refine x_wd (fun w1 hw1 => ?_)
  have ne_r_k : ¬ r = ka := fun e => by rw [e, hka] at h_r; cases h_r
  have fr_k : w ka = none := by rw [← hf ka (fun e => ne_r_k e.symm)]; exact hka
  have h_r : w1 r = some (.inr (4, [.null, .int 0, .int 0, .int 0, .null])) := by rw [hw1, x_set_ne _ _ ne_r_k]; exact h_r
  have h_k : w1 ka = some (aI 3 (fun _ => 0)) := by rw [hw1]; exact x_set_eq _ _ _
  have hf : ∀ b, ¬ b = r → ¬ b = ka → w1 b = w b := fun b g0 g1 => by rw [hw1]; exact (x_set_ne _ _ g1).trans (hf b g0)
  refine x_putF (ci := 4) (C := RX4) (T := TX4) (N := 5) (k := 0) F dX4_init_8 rfl inX4 tyX4 tyX4_ok nmX4 (by decide) q33 rfl rfl rfl rfl h_r (Nat.le_of_ble_eq_true rfl) rfl rfl ?_
  refine x_wd (fun w2 hw2 => ?_)
  have h_r : w2 r = some (.inr (4, [.ref ka, .int 0, .int 0, .int 0, .null])) := by rw [hw2]; exact x_set_eq _ _ _
  have h_k : w2 ka = some (aI 3 (fun _ => 0)) := by rw [hw2, x_set_ne _ _ (fun e => ne_r_k e.symm)]; exact h_k
  have hf : ∀ b, ¬ b = r → ¬ b = ka → w2 b = w b := fun b g0 g1 => by rw [hw2]; exact (x_set_ne _ _ g0).trans (hf b g0 g1)
  refine x_vret F rfl dX4_init_11 (Nat.le_refl _) (Nat.le_refl _) ?_
  exact ⟨rfl, ka, fr_k, h_r, h_k, hf⟩
set_option maxRecDepth 100000 in
set_option maxHeartbeats 4000000 in
theorem c_face_init {r : Nat} (h_r : w r = some (.inr (2, [.int 0, .null, .int 0]))) (n : Int32) : x_Cv l D dA vwCl tyL0 B yX2_init wX2_init (rmd 1 1 6) [.ref r, .int n] w (fun w1 => ∃ ka, w ka = none ∧ w1 r = some (.inr (2, [.int n, .ref ka, .int 0])) ∧ w1 ka = some (aV 6 (fun _ => none)) ∧ ∀ b, ¬ b = r → ¬ b = ka → w1 b = w b) 1 6 := by
  refine x_Ct.of (cc := cX2_init) (maxL := 2) (by decide) rfl (Nat.le_of_ble_eq_true rfl) ?_
  intro p e s m below meth c F
  refine x_aload_n F dX2_init_0 rfl rfl ?_
  refine x_objInit F dX2_init_1 q101 q23 q24 (Nat.le_of_ble_eq_true rfl) (Nat.le_of_ble_eq_true rfl) ?_
  have hf : ∀ b, ¬ b = r → w b = w b := fun b _ => rfl
  refine x_aload_n F dX2_init_4 rfl rfl ?_
  refine x_bipush (v := 6) F dX2_init_5 (by decide) ?_
  refine x_newq (t := 4) (N := 6) (C := RX5) F dX2_init_7 rfl q102 (x5 (x_Fix.xt F)) (by decide) rfl (Nat.le_of_ble_eq_true rfl) (Nat.le_of_ble_eq_true rfl) (Nat.le_of_ble_eq_true rfl) (fun ka hka => ?_)
  refine x_wd (fun w1 hw1 => ?_)
  have ne_r_k : ¬ r = ka := fun e => by rw [e, hka] at h_r; cases h_r
  have fr_k : w ka = none := by rw [← hf ka (fun e => ne_r_k e.symm)]; exact hka
  have h_r : w1 r = some (.inr (2, [.int 0, .null, .int 0])) := by rw [hw1, x_set_ne _ _ ne_r_k]; exact h_r
  have h_k : w1 ka = some (aV 6 (fun _ => none)) := by rw [hw1]; exact x_set_eq _ _ _
  have hf : ∀ b, ¬ b = r → ¬ b = ka → w1 b = w b := fun b g0 g1 => by rw [hw1]; exact (x_set_ne _ _ g1).trans (hf b g0)
  refine x_putF (ci := 2) (C := RX2) (T := TX2) (N := 3) (k := 1) F dX2_init_10 rfl inX2 tyX2 tyX2_ok nmX2 (by decide) q105 rfl rfl rfl rfl h_r (Nat.le_of_ble_eq_true rfl) rfl rfl ?_
  refine x_wd (fun w2 hw2 => ?_)
  have h_r : w2 r = some (.inr (2, [.int 0, .ref ka, .int 0])) := by rw [hw2]; exact x_set_eq _ _ _
  have h_k : w2 ka = some (aV 6 (fun _ => none)) := by rw [hw2, x_set_ne _ _ (fun e => ne_r_k e.symm)]; exact h_k
  have hf : ∀ b, ¬ b = r → ¬ b = ka → w2 b = w b := fun b g0 g1 => by rw [hw2]; exact (x_set_ne _ _ g0).trans (hf b g0 g1)
  refine x_aload_n F dX2_init_13 rfl rfl ?_
  refine x_iload_n F dX2_init_14 rfl rfl ?_
  refine x_putF (ci := 2) (C := RX2) (T := TX2) (N := 3) (k := 0) F dX2_init_15 rfl inX2 tyX2 tyX2_ok nmX2 (by decide) q103 rfl rfl rfl rfl h_r (Nat.le_of_ble_eq_true rfl) rfl rfl ?_
  refine x_wd (fun w3 hw3 => ?_)
  have h_r : w3 r = some (.inr (2, [.int n, .ref ka, .int 0])) := by rw [hw3]; exact x_set_eq _ _ _
  have h_k : w3 ka = some (aV 6 (fun _ => none)) := by rw [hw3, x_set_ne _ _ (fun e => ne_r_k e.symm)]; exact h_k
  have hf : ∀ b, ¬ b = r → ¬ b = ka → w3 b = w b := fun b g0 g1 => by rw [hw3]; exact (x_set_ne _ _ g0).trans (hf b g0 g1)
  refine x_vret F rfl dX2_init_18 (Nat.le_refl _) (Nat.le_refl _) ?_
  exact ⟨rfl, ka, fr_k, h_r, h_k, hf⟩
set_option maxRecDepth 100000 in
set_option maxHeartbeats 4000000 in
theorem c_ada_init {r : Nat} (h_r : w r = some (.inr (0, [.null, .null, .int 0, .int 0]))) (x y : Nat) (u v : Int32) : Cv l D dA B yX0_init wX0_init 1 [.ref r, .ref x, .ref y, .int u, .int v] w (fun w1 => w1 r = some (.inr (0, [.ref x, .ref y, .int u, .int v])) ∧ ∀ b, ¬ b = r → w1 b = w b) := by
  refine x_Ct.of (cc := cX0_init) (maxL := 5) (by decide) rfl (Nat.le_of_ble_eq_true rfl) ?_
  intro p e s m below meth c F
  refine x_aload_n F dX0_init_0 rfl rfl ?_
  refine x_objInit F dX0_init_1 q287 q23 q24 (Nat.le_of_ble_eq_true rfl) (Nat.le_of_ble_eq_true rfl) ?_
  have hf : ∀ b, ¬ b = r → w b = w b := fun b _ => rfl
  refine x_aload_n F dX0_init_4 rfl rfl ?_
  refine x_aload_n F dX0_init_5 rfl rfl ?_
  refine x_putF (ci := 0) (C := RX0) (T := TX0) (N := 4) (k := 0) F dX0_init_6 rfl inX0 tyX0 tyX0_ok nmX0 (by decide) q288 rfl rfl rfl rfl h_r (Nat.le_of_ble_eq_true rfl) rfl rfl ?_
  refine x_wd (fun w2 hw2 => ?_)
  have h_r : w2 r = some (.inr (0, [.ref x, .null, .int 0, .int 0])) := by rw [hw2]; exact x_set_eq _ _ _
  have hf : ∀ b, ¬ b = r → w2 b = w b := fun b g0 => by rw [hw2]; exact (x_set_ne _ _ g0).trans (hf b g0)
  refine x_aload_n F dX0_init_9 rfl rfl ?_
  refine x_aload_n F dX0_init_10 rfl rfl ?_
  refine x_putF (ci := 0) (C := RX0) (T := TX0) (N := 4) (k := 1) F dX0_init_11 rfl inX0 tyX0 tyX0_ok nmX0 (by decide) q290 rfl rfl rfl rfl h_r (Nat.le_of_ble_eq_true rfl) rfl rfl ?_
  refine x_wd (fun w3 hw3 => ?_)
  have h_r : w3 r = some (.inr (0, [.ref x, .ref y, .int 0, .int 0])) := by rw [hw3]; exact x_set_eq _ _ _
  have hf : ∀ b, ¬ b = r → w3 b = w b := fun b g0 => by rw [hw3]; exact (x_set_ne _ _ g0).trans (hf b g0)
  refine x_aload_n F dX0_init_14 rfl rfl ?_
  refine x_iload_n F dX0_init_15 rfl rfl ?_
  refine x_putF (ci := 0) (C := RX0) (T := TX0) (N := 4) (k := 2) F dX0_init_16 rfl inX0 tyX0 tyX0_ok nmX0 (by decide) q292 rfl rfl rfl rfl h_r (Nat.le_of_ble_eq_true rfl) rfl rfl ?_
  refine x_wd (fun w4 hw4 => ?_)
  have h_r : w4 r = some (.inr (0, [.ref x, .ref y, .int u, .int 0])) := by rw [hw4]; exact x_set_eq _ _ _
  have hf : ∀ b, ¬ b = r → w4 b = w b := fun b g0 => by rw [hw4]; exact (x_set_ne _ _ g0).trans (hf b g0)
  refine x_aload_n F dX0_init_19 rfl rfl ?_
  refine x_iload F dX0_init_20 rfl ?_
  refine x_putF (ci := 0) (C := RX0) (T := TX0) (N := 4) (k := 3) F dX0_init_22 rfl inX0 tyX0 tyX0_ok nmX0 (by decide) q293 rfl rfl rfl rfl h_r (Nat.le_of_ble_eq_true rfl) rfl rfl ?_
  refine x_wd (fun w5 hw5 => ?_)
  have h_r : w5 r = some (.inr (0, [.ref x, .ref y, .int u, .int v])) := by rw [hw5]; exact x_set_eq _ _ _
  have hf : ∀ b, ¬ b = r → w5 b = w b := fun b g0 => by rw [hw5]; exact (x_set_ne _ _ g0).trans (hf b g0)
  refine x_vret F rfl dX0_init_25 (Nat.le_refl _) (Nat.le_refl _) ?_
  exact ⟨rfl, h_r, hf⟩
set_option maxRecDepth 100000 in
set_option maxHeartbeats 4000000 in
theorem c_ver_init {r : Nat} (h_r : w r = some (.inr (5, [.null, .int 0, .int 0, .int 0, .null, .int 0, .int 0, .int 0, .int 0]))) (fa : Nat) (n h q : Int32) : x_Cv l D dA vwCl tyL0 B yX5_init wX5_init (rmd 2 2 9) [.ref r, .ref fa, .int n, .int h, .int q] w (fun w1 => ∃ ra ka, w ra = none ∧ w ka = none ∧ ¬ ra = ka ∧ w1 r = some (oVer fa n h q ra 0 0 0 0) ∧ w1 ra = some (oRet ka (-1) (-1) 0) ∧ w1 ka = some (aI 5 (f_fill 5 (-1) (fun _ => 0))) ∧ ∀ b, ¬ b = r → ¬ b = ra → ¬ b = ka → w1 b = w b) 2 9 := by
  refine x_Ct.of (cc := cX5_init) (maxL := 5) (by decide) rfl (Nat.le_of_ble_eq_true rfl) ?_
  intro p e s m below meth c F
  refine x_aload_n F dX5_init_0 rfl rfl ?_
  refine x_objInit F dX5_init_1 q133 q23 q24 (Nat.le_of_ble_eq_true rfl) (Nat.le_of_ble_eq_true rfl) ?_
  have hf : ∀ b, ¬ b = r → w b = w b := fun b _ => rfl
  refine x_aload_n F dX5_init_4 rfl rfl ?_
  refine x_new (ci := 3) (C := RX3) (T := TX3) (N := 4) (fs := [.null, .int 0, .int 0, .int 0]) F dX5_init_5 rfl inX3 tyX3 tyX3_ok q134 q46 q3 (fun j hj => by rcases (show j = 0 ∨ j = 1 ∨ j = 2 ∨ j = 3 by omega) with rfl | rfl | rfl | rfl <;> rfl) (Nat.le_of_ble_eq_true rfl) (Nat.le_of_ble_eq_true rfl) (fun ra hra => ?_)
  refine x_wd (fun w1 hw1 => ?_)
  have ne_r_m : ¬ r = ra := fun e => by rw [e, hra] at h_r; cases h_r
  have fr_m : w ra = none := by rw [← hf ra (fun e => ne_r_m e.symm)]; exact hra
  have h_r : w1 r = some (.inr (5, [.null, .int 0, .int 0, .int 0, .null, .int 0, .int 0, .int 0, .int 0])) := by rw [hw1, x_set_ne _ _ ne_r_m]; exact h_r
  have h_m : w1 ra = some (.inr (3, [.null, .int 0, .int 0, .int 0])) := by rw [hw1]; exact x_set_eq _ _ _
  have hf : ∀ b, ¬ b = r → ¬ b = ra → w1 b = w b := fun b g0 g1 => by rw [hw1]; exact (x_set_ne _ _ g1).trans (hf b g0)
  refine x_dup F dX5_init_8 rfl ?_
  have h_m1 := h_m
  refine x_cI0 F dX5_init_9 (x_gI q49) q3 q135 q48 rfl (c_ret_init h_m) ⟨rfl, rfl, rfl, xd_X3_init, ⟨Nat.le_of_ble_eq_true rfl, Nat.le_of_ble_eq_true rfl⟩, Nat.le_of_ble_eq_true rfl, Nat.le_of_ble_eq_true rfl⟩ (Nat.le_of_ble_eq_true rfl) (fun w1 hp => ?_)
  obtain ⟨ka, fk, h_m, h_k, hf2⟩ := hp
  have ne_r_m2 := ne_r_m
  have ne_r_k : ¬ r = ka := fun e => by rw [e, fk] at h_r; cases h_r
  have ne_m_k : ¬ ra = ka := fun e => by rw [e] at h_m1; rw [fk] at h_m1; cases h_m1
  have h_r : w1 r = some (.inr (5, [.null, .int 0, .int 0, .int 0, .null, .int 0, .int 0, .int 0, .int 0])) := by rw [hf2 r ne_r_m ne_r_k]; exact h_r
  have fr_k : w ka = none := by rw [← hf ka (fun e => ne_r_k e.symm) (fun e => ne_m_k e.symm)]; exact fk
  have hf : ∀ b, ¬ b = r → ¬ b = ra → ¬ b = ka → w1 b = w b := fun b g0 g1 g2 => by rw [hf2 b g1 g2]; exact hf b g0 g1
  refine x_putF (ci := 5) (C := RX5) (T := TX5) (N := 9) (k := 4) F dX5_init_12 rfl inX5 tyX5 tyX5_ok nmX5 (by decide) q146 rfl rfl rfl rfl h_r (Nat.le_of_ble_eq_true rfl) rfl rfl ?_
  refine x_wd (fun w3 hw3 => ?_)
  have h_r : w3 r = some (.inr (5, [.null, .int 0, .int 0, .int 0, .ref ra, .int 0, .int 0, .int 0, .int 0])) := by rw [hw3]; exact x_set_eq _ _ _
  have h_m : w3 ra = some (oRet ka (-1) (-1) 0) := by rw [hw3, x_set_ne _ _ (fun e => ne_r_m e.symm)]; exact h_m
  have h_k : w3 ka = some (aI 5 (f_fill 5 (-1) (fun _ => 0))) := by rw [hw3, x_set_ne _ _ (fun e => ne_r_k e.symm)]; exact h_k
  have hf : ∀ b, ¬ b = r → ¬ b = ra → ¬ b = ka → w3 b = w b := fun b g0 g1 g2 => by rw [hw3]; exact (x_set_ne _ _ g0).trans (hf b g0 g1 g2)
  refine x_aload_n F dX5_init_15 rfl rfl ?_
  refine x_iconst (v := 0) F dX5_init_16 (by decide) ?_
  refine x_put (ci := 5) (C := RX5) (T := TX5) (N := 9) (k := 5) F dX5_init_17 rfl inX5 tyX5 tyX5_ok nmX5 (by decide) q148 rfl rfl h_r (Nat.le_of_ble_eq_true rfl) rfl rfl ?_
  refine x_wd (fun w4 hw4 => ?_)
  have h_r : w4 r = some (.inr (5, [.null, .int 0, .int 0, .int 0, .ref ra, .int 0, .int 0, .int 0, .int 0])) := by rw [hw4]; exact x_set_eq _ _ _
  have h_m : w4 ra = some (oRet ka (-1) (-1) 0) := by rw [hw4, x_set_ne _ _ (fun e => ne_r_m e.symm)]; exact h_m
  have h_k : w4 ka = some (aI 5 (f_fill 5 (-1) (fun _ => 0))) := by rw [hw4, x_set_ne _ _ (fun e => ne_r_k e.symm)]; exact h_k
  have hf : ∀ b, ¬ b = r → ¬ b = ra → ¬ b = ka → w4 b = w b := fun b g0 g1 g2 => by rw [hw4]; exact (x_set_ne _ _ g0).trans (hf b g0 g1 g2)
  refine x_aload_n F dX5_init_20 rfl rfl ?_
  refine x_aload_n F dX5_init_21 rfl rfl ?_
  refine x_putF (ci := 5) (C := RX5) (T := TX5) (N := 9) (k := 0) F dX5_init_22 rfl inX5 tyX5 tyX5_ok nmX5 (by decide) q136 rfl rfl rfl rfl h_r (Nat.le_of_ble_eq_true rfl) rfl rfl ?_
  refine x_wd (fun w5 hw5 => ?_)
  have h_r : w5 r = some (.inr (5, [.ref fa, .int 0, .int 0, .int 0, .ref ra, .int 0, .int 0, .int 0, .int 0])) := by rw [hw5]; exact x_set_eq _ _ _
  have h_m : w5 ra = some (oRet ka (-1) (-1) 0) := by rw [hw5, x_set_ne _ _ (fun e => ne_r_m e.symm)]; exact h_m
  have h_k : w5 ka = some (aI 5 (f_fill 5 (-1) (fun _ => 0))) := by rw [hw5, x_set_ne _ _ (fun e => ne_r_k e.symm)]; exact h_k
  have hf : ∀ b, ¬ b = r → ¬ b = ra → ¬ b = ka → w5 b = w b := fun b g0 g1 g2 => by rw [hw5]; exact (x_set_ne _ _ g0).trans (hf b g0 g1 g2)
  refine x_aload_n F dX5_init_25 rfl rfl ?_
  refine x_iload_n F dX5_init_26 rfl rfl ?_
  refine x_putF (ci := 5) (C := RX5) (T := TX5) (N := 9) (k := 1) F dX5_init_27 rfl inX5 tyX5 tyX5_ok nmX5 (by decide) q139 rfl rfl rfl rfl h_r (Nat.le_of_ble_eq_true rfl) rfl rfl ?_
  refine x_wd (fun w6 hw6 => ?_)
  have h_r : w6 r = some (.inr (5, [.ref fa, .int n, .int 0, .int 0, .ref ra, .int 0, .int 0, .int 0, .int 0])) := by rw [hw6]; exact x_set_eq _ _ _
  have h_m : w6 ra = some (oRet ka (-1) (-1) 0) := by rw [hw6, x_set_ne _ _ (fun e => ne_r_m e.symm)]; exact h_m
  have h_k : w6 ka = some (aI 5 (f_fill 5 (-1) (fun _ => 0))) := by rw [hw6, x_set_ne _ _ (fun e => ne_r_k e.symm)]; exact h_k
  have hf : ∀ b, ¬ b = r → ¬ b = ra → ¬ b = ka → w6 b = w b := fun b g0 g1 g2 => by rw [hw6]; exact (x_set_ne _ _ g0).trans (hf b g0 g1 g2)
  refine x_aload_n F dX5_init_30 rfl rfl ?_
  refine x_iload_n F dX5_init_31 rfl rfl ?_
  refine x_putF (ci := 5) (C := RX5) (T := TX5) (N := 9) (k := 2) F dX5_init_32 rfl inX5 tyX5 tyX5_ok nmX5 (by decide) q142 rfl rfl rfl rfl h_r (Nat.le_of_ble_eq_true rfl) rfl rfl ?_
  refine x_wd (fun w7 hw7 => ?_)
  have h_r : w7 r = some (.inr (5, [.ref fa, .int n, .int h, .int 0, .ref ra, .int 0, .int 0, .int 0, .int 0])) := by rw [hw7]; exact x_set_eq _ _ _
  have h_m : w7 ra = some (oRet ka (-1) (-1) 0) := by rw [hw7, x_set_ne _ _ (fun e => ne_r_m e.symm)]; exact h_m
  have h_k : w7 ka = some (aI 5 (f_fill 5 (-1) (fun _ => 0))) := by rw [hw7, x_set_ne _ _ (fun e => ne_r_k e.symm)]; exact h_k
  have hf : ∀ b, ¬ b = r → ¬ b = ra → ¬ b = ka → w7 b = w b := fun b g0 g1 g2 => by rw [hw7]; exact (x_set_ne _ _ g0).trans (hf b g0 g1 g2)
  refine x_aload_n F dX5_init_35 rfl rfl ?_
  refine x_iload F dX5_init_36 rfl ?_
  refine x_putF (ci := 5) (C := RX5) (T := TX5) (N := 9) (k := 3) F dX5_init_38 rfl inX5 tyX5 tyX5_ok nmX5 (by decide) q144 rfl rfl rfl rfl h_r (Nat.le_of_ble_eq_true rfl) rfl rfl ?_
  refine x_wd (fun w8 hw8 => ?_)
  have h_r : w8 r = some (.inr (5, [.ref fa, .int n, .int h, .int q, .ref ra, .int 0, .int 0, .int 0, .int 0])) := by rw [hw8]; exact x_set_eq _ _ _
  have h_m : w8 ra = some (oRet ka (-1) (-1) 0) := by rw [hw8, x_set_ne _ _ (fun e => ne_r_m e.symm)]; exact h_m
  have h_k : w8 ka = some (aI 5 (f_fill 5 (-1) (fun _ => 0))) := by rw [hw8, x_set_ne _ _ (fun e => ne_r_k e.symm)]; exact h_k
  have hf : ∀ b, ¬ b = r → ¬ b = ra → ¬ b = ka → w8 b = w b := fun b g0 g1 g2 => by rw [hw8]; exact (x_set_ne _ _ g0).trans (hf b g0 g1 g2)
  refine x_vret F rfl dX5_init_41 (Nat.le_refl _) (Nat.le_refl _) ?_
  exact ⟨rfl, ra, ka, fr_m, fr_k, ne_m_k, h_r, h_m, h_k, hf⟩
set_option maxRecDepth 100000 in
set_option maxHeartbeats 4000000 in
theorem c_cli_init {r vv fa ra0 : Nat} {n0 h0 q0 s0 p0 x0 y0 : Int32} (h_r : w r = some (.inr (1, [.int 0, .null, .null, .null, .null, .int 0, .int 0, .int 0]))) (h_v : w vv = some (oVer fa n0 h0 q0 ra0 s0 p0 x0 y0)) (o u : Int32) : x_Cv l D dA vwCl tyL0 B yX1_init wX1_init (rmd 1 2 12) [.ref r, .int o, .ref vv, .int u] w (fun w1 => ∃ ka kb, w ka = none ∧ w kb = none ∧ ¬ ka = kb ∧ w1 r = some (.inr (1, [.int o, .ref fa, .ref ka, .ref kb, .ref vv, .int u, .int 0, .int 0])) ∧ w1 ka = some (aI 6 (f_fill 6 (-1) (fun _ => 0))) ∧ w1 kb = some (aI 6 (fun _ => 0)) ∧ ∀ b, ¬ b = r → ¬ b = ka → ¬ b = kb → w1 b = w b) 2 12 := by
  refine x_Ct.of (cc := cX1_init) (maxL := 4) (by decide) rfl (Nat.le_of_ble_eq_true rfl) ?_
  intro p e s m below meth c F
  refine x_aload_n F dX1_init_0 rfl rfl ?_
  refine x_objInit F dX1_init_1 q243 q23 q24 (Nat.le_of_ble_eq_true rfl) (Nat.le_of_ble_eq_true rfl) ?_
  have hf : ∀ b, ¬ b = r → w b = w b := fun b _ => rfl
  have ne_v_r : ¬ vv = r := fun e => by rw [e, h_r] at h_v; cases h_v
  refine x_aload_n F dX1_init_4 rfl rfl ?_
  refine x_bipush (v := 6) F dX1_init_5 (by decide) ?_
  refine x_newa (t := 0) (N := 6) F dX1_init_7 rfl q44 (by decide) rfl (Nat.le_of_ble_eq_true rfl) (Nat.le_of_ble_eq_true rfl) (Nat.le_of_ble_eq_true rfl) (fun ka hka => ?_)
  refine x_wd (fun w1 hw1 => ?_)
  have ne_r_k : ¬ r = ka := fun e => by rw [e, hka] at h_r; cases h_r
  have ne_v_k : ¬ vv = ka := fun e => by rw [e, hka] at h_v; cases h_v
  have fr_k : w ka = none := by rw [← hf ka (fun e => ne_r_k e.symm)]; exact hka
  have h_r : w1 r = some (.inr (1, [.int 0, .null, .null, .null, .null, .int 0, .int 0, .int 0])) := by rw [hw1, x_set_ne _ _ ne_r_k]; exact h_r
  have h_v : w1 vv = some (oVer fa n0 h0 q0 ra0 s0 p0 x0 y0) := by rw [hw1, x_set_ne _ _ ne_v_k]; exact h_v
  have h_k : w1 ka = some (aI 6 (fun _ => 0)) := by rw [hw1]; exact x_set_eq _ _ _
  have hf : ∀ b, ¬ b = r → ¬ b = ka → w1 b = w b := fun b g0 g1 => by rw [hw1]; exact (x_set_ne _ _ g1).trans (hf b g0)
  refine x_putF (ci := 1) (C := RX1) (T := TX1) (N := 8) (k := 2) F dX1_init_9 rfl inX1 tyX1 tyX1_ok nmX1 (by decide) q249 rfl rfl rfl rfl h_r (Nat.le_of_ble_eq_true rfl) rfl rfl ?_
  refine x_wd (fun w2 hw2 => ?_)
  have h_r : w2 r = some (.inr (1, [.int 0, .null, .ref ka, .null, .null, .int 0, .int 0, .int 0])) := by rw [hw2]; exact x_set_eq _ _ _
  have h_v : w2 vv = some (oVer fa n0 h0 q0 ra0 s0 p0 x0 y0) := by rw [hw2, x_set_ne _ _ ne_v_r]; exact h_v
  have h_k : w2 ka = some (aI 6 (fun _ => 0)) := by rw [hw2, x_set_ne _ _ (fun e => ne_r_k e.symm)]; exact h_k
  have hf : ∀ b, ¬ b = r → ¬ b = ka → w2 b = w b := fun b g0 g1 => by rw [hw2]; exact (x_set_ne _ _ g0).trans (hf b g0 g1)
  refine x_aload_n F dX1_init_12 rfl rfl ?_
  refine x_bipush (v := 6) F dX1_init_13 (by decide) ?_
  refine x_newa (t := 0) (N := 6) F dX1_init_15 rfl q44 (by decide) rfl (Nat.le_of_ble_eq_true rfl) (Nat.le_of_ble_eq_true rfl) (Nat.le_of_ble_eq_true rfl) (fun kb hkb => ?_)
  refine x_wd (fun w3 hw3 => ?_)
  have ne_r_s : ¬ r = kb := fun e => by rw [e, hkb] at h_r; cases h_r
  have ne_v_s : ¬ vv = kb := fun e => by rw [e, hkb] at h_v; cases h_v
  have ne_k_s : ¬ ka = kb := fun e => by rw [e, hkb] at h_k; cases h_k
  have fr_s : w kb = none := by rw [← hf kb (fun e => ne_r_s e.symm) (fun e => ne_k_s e.symm)]; exact hkb
  have h_r : w3 r = some (.inr (1, [.int 0, .null, .ref ka, .null, .null, .int 0, .int 0, .int 0])) := by rw [hw3, x_set_ne _ _ ne_r_s]; exact h_r
  have h_v : w3 vv = some (oVer fa n0 h0 q0 ra0 s0 p0 x0 y0) := by rw [hw3, x_set_ne _ _ ne_v_s]; exact h_v
  have h_k : w3 ka = some (aI 6 (fun _ => 0)) := by rw [hw3, x_set_ne _ _ ne_k_s]; exact h_k
  have h_s : w3 kb = some (aI 6 (fun _ => 0)) := by rw [hw3]; exact x_set_eq _ _ _
  have hf : ∀ b, ¬ b = r → ¬ b = ka → ¬ b = kb → w3 b = w b := fun b g0 g1 g2 => by rw [hw3]; exact (x_set_ne _ _ g2).trans (hf b g0 g1)
  refine x_putF (ci := 1) (C := RX1) (T := TX1) (N := 8) (k := 3) F dX1_init_17 rfl inX1 tyX1 tyX1_ok nmX1 (by decide) q250 rfl rfl rfl rfl h_r (Nat.le_of_ble_eq_true rfl) rfl rfl ?_
  refine x_wd (fun w4 hw4 => ?_)
  have h_r : w4 r = some (.inr (1, [.int 0, .null, .ref ka, .ref kb, .null, .int 0, .int 0, .int 0])) := by rw [hw4]; exact x_set_eq _ _ _
  have h_v : w4 vv = some (oVer fa n0 h0 q0 ra0 s0 p0 x0 y0) := by rw [hw4, x_set_ne _ _ ne_v_r]; exact h_v
  have h_k : w4 ka = some (aI 6 (fun _ => 0)) := by rw [hw4, x_set_ne _ _ (fun e => ne_r_k e.symm)]; exact h_k
  have h_s : w4 kb = some (aI 6 (fun _ => 0)) := by rw [hw4, x_set_ne _ _ (fun e => ne_r_s e.symm)]; exact h_s
  have hf : ∀ b, ¬ b = r → ¬ b = ka → ¬ b = kb → w4 b = w b := fun b g0 g1 g2 => by rw [hw4]; exact (x_set_ne _ _ g0).trans (hf b g0 g1 g2)
  refine x_aload_n F dX1_init_20 rfl rfl ?_
  refine x_iload_n F dX1_init_21 rfl rfl ?_
  refine x_putF (ci := 1) (C := RX1) (T := TX1) (N := 8) (k := 0) F dX1_init_22 rfl inX1 tyX1 tyX1_ok nmX1 (by decide) q245 rfl rfl rfl rfl h_r (Nat.le_of_ble_eq_true rfl) rfl rfl ?_
  refine x_wd (fun w5 hw5 => ?_)
  have h_r : w5 r = some (.inr (1, [.int o, .null, .ref ka, .ref kb, .null, .int 0, .int 0, .int 0])) := by rw [hw5]; exact x_set_eq _ _ _
  have h_v : w5 vv = some (oVer fa n0 h0 q0 ra0 s0 p0 x0 y0) := by rw [hw5, x_set_ne _ _ ne_v_r]; exact h_v
  have h_k : w5 ka = some (aI 6 (fun _ => 0)) := by rw [hw5, x_set_ne _ _ (fun e => ne_r_k e.symm)]; exact h_k
  have h_s : w5 kb = some (aI 6 (fun _ => 0)) := by rw [hw5, x_set_ne _ _ (fun e => ne_r_s e.symm)]; exact h_s
  have hf : ∀ b, ¬ b = r → ¬ b = ka → ¬ b = kb → w5 b = w b := fun b g0 g1 g2 => by rw [hw5]; exact (x_set_ne _ _ g0).trans (hf b g0 g1 g2)
  refine x_aload_n F dX1_init_25 rfl rfl ?_
  refine x_aload_n F dX1_init_26 rfl rfl ?_
  refine x_get (ci := 5) (C := RX5) (T := TX5) (N := 9) (k := 0) F dX1_init_27 rfl inX5 (by decide) q137 rfl h_v rfl ?_
  refine x_putF (ci := 1) (C := RX1) (T := TX1) (N := 8) (k := 1) F dX1_init_30 rfl inX1 tyX1 tyX1_ok nmX1 (by decide) q247 rfl rfl rfl rfl h_r (Nat.le_of_ble_eq_true rfl) rfl rfl ?_
  refine x_wd (fun w6 hw6 => ?_)
  have h_r : w6 r = some (.inr (1, [.int o, .ref fa, .ref ka, .ref kb, .null, .int 0, .int 0, .int 0])) := by rw [hw6]; exact x_set_eq _ _ _
  have h_v : w6 vv = some (oVer fa n0 h0 q0 ra0 s0 p0 x0 y0) := by rw [hw6, x_set_ne _ _ ne_v_r]; exact h_v
  have h_k : w6 ka = some (aI 6 (fun _ => 0)) := by rw [hw6, x_set_ne _ _ (fun e => ne_r_k e.symm)]; exact h_k
  have h_s : w6 kb = some (aI 6 (fun _ => 0)) := by rw [hw6, x_set_ne _ _ (fun e => ne_r_s e.symm)]; exact h_s
  have hf : ∀ b, ¬ b = r → ¬ b = ka → ¬ b = kb → w6 b = w b := fun b g0 g1 g2 => by rw [hw6]; exact (x_set_ne _ _ g0).trans (hf b g0 g1 g2)
  refine x_aload_n F dX1_init_33 rfl rfl ?_
  refine x_aload_n F dX1_init_34 rfl rfl ?_
  refine x_put (ci := 1) (C := RX1) (T := TX1) (N := 8) (k := 4) F dX1_init_35 rfl inX1 tyX1 tyX1_ok nmX1 (by decide) q252 rfl rfl h_r (Nat.le_of_ble_eq_true rfl) rfl rfl ?_
  refine x_wd (fun w7 hw7 => ?_)
  have h_r : w7 r = some (.inr (1, [.int o, .ref fa, .ref ka, .ref kb, .ref vv, .int 0, .int 0, .int 0])) := by rw [hw7]; exact x_set_eq _ _ _
  have h_v : w7 vv = some (oVer fa n0 h0 q0 ra0 s0 p0 x0 y0) := by rw [hw7, x_set_ne _ _ ne_v_r]; exact h_v
  have h_k : w7 ka = some (aI 6 (fun _ => 0)) := by rw [hw7, x_set_ne _ _ (fun e => ne_r_k e.symm)]; exact h_k
  have h_s : w7 kb = some (aI 6 (fun _ => 0)) := by rw [hw7, x_set_ne _ _ (fun e => ne_r_s e.symm)]; exact h_s
  have hf : ∀ b, ¬ b = r → ¬ b = ka → ¬ b = kb → w7 b = w b := fun b g0 g1 g2 => by rw [hw7]; exact (x_set_ne _ _ g0).trans (hf b g0 g1 g2)
  refine x_aload_n F dX1_init_38 rfl rfl ?_
  refine x_iload_n F dX1_init_39 rfl rfl ?_
  refine x_put (ci := 1) (C := RX1) (T := TX1) (N := 8) (k := 5) F dX1_init_40 rfl inX1 tyX1 tyX1_ok nmX1 (by decide) q254 rfl rfl h_r (Nat.le_of_ble_eq_true rfl) rfl rfl ?_
  refine x_wd (fun w8 hw8 => ?_)
  have h_r : w8 r = some (.inr (1, [.int o, .ref fa, .ref ka, .ref kb, .ref vv, .int u, .int 0, .int 0])) := by rw [hw8]; exact x_set_eq _ _ _
  have h_v : w8 vv = some (oVer fa n0 h0 q0 ra0 s0 p0 x0 y0) := by rw [hw8, x_set_ne _ _ ne_v_r]; exact h_v
  have h_k : w8 ka = some (aI 6 (fun _ => 0)) := by rw [hw8, x_set_ne _ _ (fun e => ne_r_k e.symm)]; exact h_k
  have h_s : w8 kb = some (aI 6 (fun _ => 0)) := by rw [hw8, x_set_ne _ _ (fun e => ne_r_s e.symm)]; exact h_s
  have hf : ∀ b, ¬ b = r → ¬ b = ka → ¬ b = kb → w8 b = w b := fun b g0 g1 g2 => by rw [hw8]; exact (x_set_ne _ _ g0).trans (hf b g0 g1 g2)
  refine x_aload_n F dX1_init_43 rfl rfl ?_
  refine x_get (ci := 1) (C := RX1) (T := TX1) (N := 8) (k := 2) F dX1_init_44 rfl inX1 (by decide) q249 rfl h_r rfl ?_
  refine x_iconst (v := (-1)) F dX1_init_47 (by decide) ?_
  refine x_cSv2 F dX1_init_48 (x_gS q244 q52 q4 q53) (c_fill (by decide) h_k (-1)) ⟨rfl, rfl, rfl, xd_J7_fill_53178, ⟨Nat.le_of_ble_eq_true rfl, Nat.le_of_ble_eq_true rfl⟩, Nat.le_of_ble_eq_true rfl, Nat.le_of_ble_eq_true rfl⟩ (Nat.le_of_ble_eq_true rfl) (fun w1 hp => ?_)
  obtain ⟨w9, hw9⟩ : ∃ w9, w9 = w1 := ⟨_, rfl⟩
  rw [← hw9]
  rw [hp] at hw9
  have h_r : w9 r = some (.inr (1, [.int o, .ref fa, .ref ka, .ref kb, .ref vv, .int u, .int 0, .int 0])) := by rw [hw9, x_set_ne _ _ ne_r_k]; exact h_r
  have h_v : w9 vv = some (oVer fa n0 h0 q0 ra0 s0 p0 x0 y0) := by rw [hw9, x_set_ne _ _ ne_v_k]; exact h_v
  have h_k : w9 ka = some (aI 6 (f_fill 6 (-1) (fun _ => 0))) := by rw [hw9]; exact x_set_eq _ _ _
  have h_s : w9 kb = some (aI 6 (fun _ => 0)) := by rw [hw9, x_set_ne _ _ (fun e => ne_k_s e.symm)]; exact h_s
  have hf : ∀ b, ¬ b = r → ¬ b = ka → ¬ b = kb → w9 b = w b := fun b g0 g1 g2 => by rw [hw9]; exact (x_set_ne _ _ g1).trans (hf b g0 g1 g2)
  refine x_vret F rfl dX1_init_51 (Nat.le_refl _) (Nat.le_refl _) ?_
  exact ⟨rfl, ka, kb, fr_k, fr_s, ne_k_s, h_r, h_k, h_s, hf⟩
end CTR
