theorem dJ7_fill_53178_5 : decode cJ7_fill_53178 5 = .ok (.iload_n 2, 1) := by decide +kernel
theorem dJ7_fill_53178_6 : decode cJ7_fill_53178 6 = .ok (.iload_n 3, 1) := by decide +kernel
theorem dJ7_fill_53178_7 : decode cJ7_fill_53178 7 = .ok (.if_icmp .ge 13, 3) := by decide +kernel
theorem dJ7_fill_53178_20 : decode cJ7_fill_53178 20 = .ok (.return_, 1) := by decide +kernel
theorem dJ7_fill_53178_10 : decode cJ7_fill_53178 10 = .ok (.aload_n 0, 1) := by decide +kernel
theorem dJ7_fill_53178_11 : decode cJ7_fill_53178 11 = .ok (.iload_n 2, 1) := by decide +kernel
theorem dJ7_fill_53178_12 : decode cJ7_fill_53178 12 = .ok (.iload_n 1, 1) := by decide +kernel
theorem dJ7_fill_53178_13 : decode cJ7_fill_53178 13 = .ok (.iastore, 1) := by decide +kernel
theorem dJ7_fill_53178_14 : decode cJ7_fill_53178 14 = .ok (.iinc 2 1, 3) := by decide +kernel
theorem dJ7_fill_53178_17 : decode cJ7_fill_53178 17 = .ok (.goto (-12), 3) := by decide +kernel
theorem dJ7_fill_53178_0 : decode cJ7_fill_53178 0 = .ok (.iconst 0, 1) := by decide +kernel
theorem dJ7_fill_53178_1 : decode cJ7_fill_53178 1 = .ok (.istore_n 2, 1) := by decide +kernel
theorem dJ7_fill_53178_2 : decode cJ7_fill_53178 2 = .ok (.aload_n 0, 1) := by decide +kernel
theorem dJ7_fill_53178_3 : decode cJ7_fill_53178 3 = .ok (.arraylength, 1) := by decide +kernel
theorem dJ7_fill_53178_4 : decode cJ7_fill_53178 4 = .ok (.istore_n 3, 1) := by decide +kernel
theorem dX3_init_0 : decode cX3_init 0 = .ok (.aload_n 0, 1) := by decide +kernel
theorem dX3_init_1 : decode cX3_init 1 = .ok (.invokespecial 3, 3) := by decide +kernel
theorem dX3_init_4 : decode cX3_init 4 = .ok (.aload_n 0, 1) := by decide +kernel
theorem dX3_init_5 : decode cX3_init 5 = .ok (.iconst 5, 1) := by decide +kernel
theorem dX3_init_6 : decode cX3_init 6 = .ok (.newarray .int, 2) := by decide +kernel
theorem dX3_init_8 : decode cX3_init 8 = .ok (.putfield 9, 3) := by decide +kernel
theorem dX3_init_11 : decode cX3_init 11 = .ok (.aload_n 0, 1) := by decide +kernel
theorem dX3_init_12 : decode cX3_init 12 = .ok (.iconst (-1), 1) := by decide +kernel
theorem dX3_init_13 : decode cX3_init 13 = .ok (.putfield 15, 3) := by decide +kernel
theorem dX3_init_16 : decode cX3_init 16 = .ok (.aload_n 0, 1) := by decide +kernel
theorem dX3_init_17 : decode cX3_init 17 = .ok (.iconst (-1), 1) := by decide +kernel
theorem dX3_init_18 : decode cX3_init 18 = .ok (.putfield 19, 3) := by decide +kernel
theorem dX3_init_21 : decode cX3_init 21 = .ok (.aload_n 0, 1) := by decide +kernel
theorem dX3_init_22 : decode cX3_init 22 = .ok (.getfield 9, 3) := by decide +kernel
theorem dX3_init_25 : decode cX3_init 25 = .ok (.iconst (-1), 1) := by decide +kernel
theorem dX3_init_26 : decode cX3_init 26 = .ok (.invokestatic 22, 3) := by decide +kernel
theorem dX3_init_29 : decode cX3_init 29 = .ok (.return_, 1) := by decide +kernel
theorem dX4_init_0 : decode cX4_init 0 = .ok (.aload_n 0, 1) := by decide +kernel
theorem dX4_init_1 : decode cX4_init 1 = .ok (.invokespecial 3, 3) := by decide +kernel
theorem dX4_init_4 : decode cX4_init 4 = .ok (.aload_n 0, 1) := by decide +kernel
theorem dX4_init_5 : decode cX4_init 5 = .ok (.iconst 3, 1) := by decide +kernel
theorem dX4_init_6 : decode cX4_init 6 = .ok (.newarray .int, 2) := by decide +kernel
theorem dX4_init_8 : decode cX4_init 8 = .ok (.putfield 9, 3) := by decide +kernel
theorem dX4_init_11 : decode cX4_init 11 = .ok (.return_, 1) := by decide +kernel
theorem dX2_init_0 : decode cX2_init 0 = .ok (.aload_n 0, 1) := by decide +kernel
theorem dX2_init_1 : decode cX2_init 1 = .ok (.invokespecial 3, 3) := by decide +kernel
theorem dX2_init_4 : decode cX2_init 4 = .ok (.aload_n 0, 1) := by decide +kernel
theorem dX2_init_5 : decode cX2_init 5 = .ok (.bipush 6, 2) := by decide +kernel
theorem dX2_init_7 : decode cX2_init 7 = .ok (.anewarray 9, 3) := by decide +kernel
theorem dX2_init_10 : decode cX2_init 10 = .ok (.putfield 11, 3) := by decide +kernel
theorem dX2_init_13 : decode cX2_init 13 = .ok (.aload_n 0, 1) := by decide +kernel
theorem dX2_init_14 : decode cX2_init 14 = .ok (.iload_n 1, 1) := by decide +kernel
theorem dX2_init_15 : decode cX2_init 15 = .ok (.putfield 17, 3) := by decide +kernel
theorem dX2_init_18 : decode cX2_init 18 = .ok (.return_, 1) := by decide +kernel
theorem dX6_init_0 : decode cX6_init 0 = .ok (.aload_n 0, 1) := by decide +kernel
theorem dX6_init_1 : decode cX6_init 1 = .ok (.invokespecial 1, 3) := by decide +kernel
theorem dX6_init_4 : decode cX6_init 4 = .ok (.aload_n 0, 1) := by decide +kernel
theorem dX6_init_5 : decode cX6_init 5 = .ok (.iconst 4, 1) := by decide +kernel
theorem dX6_init_6 : decode cX6_init 6 = .ok (.anewarray 9, 3) := by decide +kernel
theorem dX6_init_9 : decode cX6_init 9 = .ok (.putfield 11, 3) := by decide +kernel
theorem dX6_init_12 : decode cX6_init 12 = .ok (.aload_n 0, 1) := by decide +kernel
theorem dX6_init_13 : decode cX6_init 13 = .ok (.bipush 10, 2) := by decide +kernel
theorem dX6_init_15 : decode cX6_init 15 = .ok (.anewarray 15, 3) := by decide +kernel
theorem dX6_init_18 : decode cX6_init 18 = .ok (.putfield 17, 3) := by decide +kernel
theorem dX6_init_21 : decode cX6_init 21 = .ok (.aload_n 0, 1) := by decide +kernel
theorem dX6_init_22 : decode cX6_init 22 = .ok (.bipush 10, 2) := by decide +kernel
theorem dX6_init_24 : decode cX6_init 24 = .ok (.anewarray 21, 3) := by decide +kernel
theorem dX6_init_27 : decode cX6_init 27 = .ok (.putfield 23, 3) := by decide +kernel
theorem dX6_init_30 : decode cX6_init 30 = .ok (.aload_n 0, 1) := by decide +kernel
theorem dX6_init_31 : decode cX6_init 31 = .ok (.new 27, 3) := by decide +kernel
theorem dX6_init_34 : decode cX6_init 34 = .ok (.dup, 1) := by decide +kernel
theorem dX6_init_35 : decode cX6_init 35 = .ok (.invokespecial 29, 3) := by decide +kernel
theorem dX6_init_38 : decode cX6_init 38 = .ok (.putfield 30, 3) := by decide +kernel
theorem dX6_init_41 : decode cX6_init 41 = .ok (.aload_n 0, 1) := by decide +kernel
theorem dX6_init_42 : decode cX6_init 42 = .ok (.new 34, 3) := by decide +kernel
theorem dX6_init_45 : decode cX6_init 45 = .ok (.dup, 1) := by decide +kernel
theorem dX6_init_46 : decode cX6_init 46 = .ok (.invokespecial 36, 3) := by decide +kernel
theorem dX6_init_49 : decode cX6_init 49 = .ok (.putfield 37, 3) := by decide +kernel
theorem dX6_init_52 : decode cX6_init 52 = .ok (.return_, 1) := by decide +kernel
theorem dX6_open_0 : decode cX6_open 0 = .ok (.aload_n 0, 1) := by decide +kernel
theorem dX6_open_1 : decode cX6_open 1 = .ok (.getfield 41, 3) := by decide +kernel
theorem dX6_open_4 : decode cX6_open 4 = .ok (.ifCond .lt 15, 3) := by decide +kernel
theorem dX6_open_7 : decode cX6_open 7 = .ok (.aload_n 0, 1) := by decide +kernel
theorem dX6_open_8 : decode cX6_open 8 = .ok (.getfield 41, 3) := by decide +kernel
theorem dX6_open_11 : decode cX6_open 11 = .ok (.aload_n 0, 1) := by decide +kernel
theorem dX6_open_12 : decode cX6_open 12 = .ok (.getfield 11, 3) := by decide +kernel
theorem dX6_open_15 : decode cX6_open 15 = .ok (.arraylength, 1) := by decide +kernel
theorem dX6_open_16 : decode cX6_open 16 = .ok (.if_icmp .lt 13, 3) := by decide +kernel
theorem dX6_open_29 : decode cX6_open 29 = .ok (.aload_n 0, 1) := by decide +kernel
theorem dX6_open_30 : decode cX6_open 30 = .ok (.getfield 11, 3) := by decide +kernel
theorem dX6_open_33 : decode cX6_open 33 = .ok (.aload_n 0, 1) := by decide +kernel
theorem dX6_open_34 : decode cX6_open 34 = .ok (.getfield 41, 3) := by decide +kernel
theorem dX6_open_37 : decode cX6_open 37 = .ok (.new 9, 3) := by decide +kernel
theorem dX6_open_40 : decode cX6_open 40 = .ok (.dup, 1) := by decide +kernel
theorem dX6_open_41 : decode cX6_open 41 = .ok (.aload_n 0, 1) := by decide +kernel
theorem dX6_open_42 : decode cX6_open 42 = .ok (.getfield 41, 3) := by decide +kernel
theorem dX6_open_45 : decode cX6_open 45 = .ok (.invokespecial 52, 3) := by decide +kernel
theorem dX6_open_48 : decode cX6_open 48 = .ok (.aastore, 1) := by decide +kernel
theorem dX6_open_49 : decode cX6_open 49 = .ok (.aload_n 0, 1) := by decide +kernel
theorem dX6_open_50 : decode cX6_open 50 = .ok (.dup, 1) := by decide +kernel
theorem dX6_open_51 : decode cX6_open 51 = .ok (.getfield 41, 3) := by decide +kernel
theorem dX6_open_54 : decode cX6_open 54 = .ok (.dup_x1, 1) := by decide +kernel
theorem dX6_open_55 : decode cX6_open 55 = .ok (.iconst 1, 1) := by decide +kernel
theorem dX6_open_56 : decode cX6_open 56 = .ok (.iadd, 1) := by decide +kernel
theorem dX6_open_57 : decode cX6_open 57 = .ok (.putfield 41, 3) := by decide +kernel
theorem dX6_open_60 : decode cX6_open 60 = .ok (.ireturn, 1) := by decide +kernel
/-! ===== the class: constructors, and its first interface ===== -/
abbrev oRet (ka : Nat) (b e n : Int32) : xE := .inr (3, [.ref ka, .int b, .int e, .int n])
abbrev oRou (a : Nat) (n k m : Int32) (v : Option Nat) : xE := .inr (4, [.ref a, .int n, .int k, .int m, va_rf v])
section CTR
variable {l : Launch} {D : va_G} {dA : Nat → ClassId} {B : Nat} {w : xW} {M Fa Ca Aa Ro Tr : Nat} {n : Int32}
def f_fill (n : Nat) (v : Int32) (f : Nat → Int32) : Nat → Int32 := fun j => if j < n then v else f j
theorem f_fill_0 (v : Int32) (f : Nat → Int32) : f_fill 0 v f = f := by funext j; exact if_neg (Nat.not_lt_zero j)
theorem f_fill_s (n : Nat) (v : Int32) (f : Nat → Int32) : upd (f_fill n v f) n v = f_fill (n + 1) v f := by
  funext j
  unfold upd f_fill
  by_cases h : j = n
  · subst h; simp
  · by_cases h2 : j < n
    · simp [h, h2, show j < n + 1 by omega]
    · simp [h, h2, show ¬ j < n + 1 by omega]
set_option maxRecDepth 100000 in
set_option maxHeartbeats 4000000 in
theorem c_fill {a n : Nat} (hn : n < 2 ^ 31) {f : Nat → Int32} (ha : w a = some (aI n f)) (v : Int32) : Cv l D dA B yJ7_fill_53178 wJ7_fill_53178 0 [.ref a, .int v] w (fun w1 => w1 = x_set w a (aI n (f_fill n v f))) := by
  refine x_Ct.of (cc := cJ7_fill_53178) (maxL := 4) (by decide) rfl (Nat.le_of_ble_eq_true rfl) ?_
  intro p e s m below meth c F
  have loop : ∀ n1 k, k + n1 = n → ∀ wz, wz = x_set w a (aI n (f_fill k v f)) → X p l e (rmd 0 0 0) s m #[.ref a, .int v] below meth c (MQ below (x_Q D dA vwC1 tyL1 B (fun r w1 => r = none ∧ (w1 = x_set w a (aI n (f_fill n v f))))) #[.ref a, .int v] s 0 0 (fun q => B ≤ q)) D dA vwC1 B 4 0 0 5 [(0, .ref a), (1, .int v), (2, .int (nI k)), (3, .int (nI n))] [] wz := by
    intro n1
    induction n1 with
    | zero =>
      intro k hk1 wz hw
      obtain rfl : k = n := by omega
      refine x_iload_n F dJ7_fill_53178_5 rfl rfl ?_
      refine x_iload_n F dJ7_fill_53178_6 rfl rfl ?_
      refine x_icmp_ge F dJ7_fill_53178_7 rfl (fun h7 => ?_) (fun hc => absurd hc (fun q => q (Int32.le_refl _)))
      refine x_vret F rfl dJ7_fill_53178_20 (Nat.le_of_ble_eq_true rfl) (Nat.le_of_ble_eq_true rfl) ?_
      exact ⟨rfl, hw⟩
    | succ n1 ih =>
      intro k hk1 wz hw
      refine x_iload_n F dJ7_fill_53178_5 rfl rfl ?_
      refine x_iload_n F dJ7_fill_53178_6 rfl rfl ?_
      refine x_icmp_ge F dJ7_fill_53178_7 rfl (fun hc => absurd hc (nI_ge (by omega) hn)) (fun h7 => ?_)
      refine x_aload_n F dJ7_fill_53178_10 rfl rfl ?_
      refine x_iload_n F dJ7_fill_53178_11 rfl rfl ?_
      refine x_iload_n F dJ7_fill_53178_12 rfl rfl ?_
      refine x_iastN F dJ7_fill_53178_13 rfl (show wz a = some (aI n (f_fill k v f)) by rw [hw]; exact x_set_eq _ _ _) (by omega) hn ?_
      refine x_wd (fun w1 hw1 => ?_)
      refine x_iincN F dJ7_fill_53178_14 (by decide) rfl (by decide) ?_
      refine x_goto F dJ7_fill_53178_17 rfl ?_
      exact x_lk (ih (k + 1) (by omega) w1 (by rw [hw1, hw, x_set_set, f_fill_s])) ⟨rfl, rfl, rfl, rfl, trivial⟩
  refine x_iconst (v := 0) F dJ7_fill_53178_0 (by decide) ?_
  refine x_istore_n F dJ7_fill_53178_1 rfl (by decide) ?_
  refine x_aload_n F dJ7_fill_53178_2 rfl rfl ?_
  refine x_alen F dJ7_fill_53178_3 rfl ha rfl ?_
  refine x_istore_n F dJ7_fill_53178_4 rfl (by decide) ?_
  exact x_lk (loop n 0 (by omega) w (by rw [f_fill_0, x_set_self ha])) ⟨rfl, rfl, rfl, rfl, trivial⟩
set_option maxRecDepth 100000 in
set_option maxHeartbeats 4000000 in
theorem c_ret_init {r : Nat} (h_r : w r = some (.inr (3, [.null, .int 0, .int 0, .int 0]))) : x_Cv l D dA vwC1 tyL1 B yX3_init wX3_init (rmd 1 1 5) [.ref r] w (fun w1 => ∃ ka, w ka = none ∧ w1 r = some (oRet ka (-1) (-1) 0) ∧ w1 ka = some (aI 5 (f_fill 5 (-1) (fun _ => 0))) ∧ ∀ b, ¬ b = r → ¬ b = ka → w1 b = w b) 1 5 := by
  refine x_Ct.of (cc := cX3_init) (maxL := 1) (by decide) rfl (Nat.le_of_ble_eq_true rfl) ?_
  intro p e s m below meth c F
  refine x_aload_n F dX3_init_0 rfl rfl ?_
  refine x_objInit F dX3_init_1 q64 q37 q38 (Nat.le_of_ble_eq_true rfl) (Nat.le_of_ble_eq_true rfl) ?_
  have hf : ∀ b, ¬ b = r → w b = w b := fun b _ => rfl
  refine x_aload_n F dX3_init_4 rfl rfl ?_
  refine x_iconst (v := 5) F dX3_init_5 (by decide) ?_
  refine x_newa (t := 0) (N := 5) F dX3_init_6 rfl q58 (by decide) rfl (Nat.le_of_ble_eq_true rfl) (Nat.le_of_ble_eq_true rfl) (Nat.le_of_ble_eq_true rfl) (fun ka hka => ?_)
  refine x_wd (fun w1 hw1 => ?_)
  have ne_r_k : ¬ r = ka := fun e => by rw [e, hka] at h_r; cases h_r
  have fr_k : w ka = none := by rw [← hf ka (fun e => ne_r_k e.symm)]; exact hka
  have h_r : w1 r = some (.inr (3, [.null, .int 0, .int 0, .int 0])) := by rw [hw1, x_set_ne _ _ ne_r_k]; exact h_r
  have h_k : w1 ka = some (aI 5 (fun _ => 0)) := by rw [hw1]; exact x_set_eq _ _ _
  have hf : ∀ b, ¬ b = r → ¬ b = ka → w1 b = w b := fun b g0 g1 => by rw [hw1]; exact (x_set_ne _ _ g1).trans (hf b g0)
  refine x_putF (ci := 3) (C := RX3) (T := TX3) (N := 4) (k := 0) F dX3_init_8 rfl inX3 tyX3 tyX3_ok nmX3 (by decide) q68 rfl rfl rfl rfl h_r (Nat.le_of_ble_eq_true rfl) rfl rfl ?_
  refine x_wd (fun w2 hw2 => ?_)
  have h_r : w2 r = some (.inr (3, [.ref ka, .int 0, .int 0, .int 0])) := by rw [hw2]; exact x_set_eq _ _ _
  have h_k : w2 ka = some (aI 5 (fun _ => 0)) := by rw [hw2, x_set_ne _ _ (fun e => ne_r_k e.symm)]; exact h_k
  have hf : ∀ b, ¬ b = r → ¬ b = ka → w2 b = w b := fun b g0 g1 => by rw [hw2]; exact (x_set_ne _ _ g0).trans (hf b g0 g1)
  refine x_aload_n F dX3_init_11 rfl rfl ?_
  refine x_iconst (v := (-1)) F dX3_init_12 (by decide) ?_
  refine x_put (ci := 3) (C := RX3) (T := TX3) (N := 4) (k := 1) F dX3_init_13 rfl inX3 tyX3 tyX3_ok nmX3 (by decide) q69 rfl rfl h_r (Nat.le_of_ble_eq_true rfl) rfl rfl ?_
  refine x_wd (fun w3 hw3 => ?_)
  have h_r : w3 r = some (.inr (3, [.ref ka, .int (-1), .int 0, .int 0])) := by rw [hw3]; exact x_set_eq _ _ _
  have h_k : w3 ka = some (aI 5 (fun _ => 0)) := by rw [hw3, x_set_ne _ _ (fun e => ne_r_k e.symm)]; exact h_k
  have hf : ∀ b, ¬ b = r → ¬ b = ka → w3 b = w b := fun b g0 g1 => by rw [hw3]; exact (x_set_ne _ _ g0).trans (hf b g0 g1)
  refine x_aload_n F dX3_init_16 rfl rfl ?_
  refine x_iconst (v := (-1)) F dX3_init_17 (by decide) ?_
  refine x_put (ci := 3) (C := RX3) (T := TX3) (N := 4) (k := 2) F dX3_init_18 rfl inX3 tyX3 tyX3_ok nmX3 (by decide) q71 rfl rfl h_r (Nat.le_of_ble_eq_true rfl) rfl rfl ?_
  refine x_wd (fun w4 hw4 => ?_)
  have h_r : w4 r = some (.inr (3, [.ref ka, .int (-1), .int (-1), .int 0])) := by rw [hw4]; exact x_set_eq _ _ _
  have h_k : w4 ka = some (aI 5 (fun _ => 0)) := by rw [hw4, x_set_ne _ _ (fun e => ne_r_k e.symm)]; exact h_k
  have hf : ∀ b, ¬ b = r → ¬ b = ka → w4 b = w b := fun b g0 g1 => by rw [hw4]; exact (x_set_ne _ _ g0).trans (hf b g0 g1)
  refine x_aload_n F dX3_init_21 rfl rfl ?_
  refine x_get (ci := 3) (C := RX3) (T := TX3) (N := 4) (k := 0) F dX3_init_22 rfl inX3 (by decide) q68 rfl h_r rfl ?_
  refine x_iconst (v := (-1)) F dX3_init_25 (by decide) ?_
  refine x_cSv2 F dX3_init_26 (x_gS q65 q66 q4 q67) (c_fill (by decide) h_k (-1)) ⟨rfl, rfl, rfl, xd_J7_fill_53178, ⟨Nat.le_of_ble_eq_true rfl, Nat.le_of_ble_eq_true rfl⟩, Nat.le_of_ble_eq_true rfl, Nat.le_of_ble_eq_true rfl⟩ (Nat.le_of_ble_eq_true rfl) (fun w1 hp => ?_)
  obtain ⟨w5, hw5⟩ : ∃ w5, w5 = w1 := ⟨_, rfl⟩
  rw [← hw5]
  rw [hp] at hw5
  have h_r : w5 r = some (.inr (3, [.ref ka, .int (-1), .int (-1), .int 0])) := by rw [hw5, x_set_ne _ _ ne_r_k]; exact h_r
  have h_k : w5 ka = some (aI 5 (f_fill 5 (-1) (fun _ => 0))) := by rw [hw5]; exact x_set_eq _ _ _
  have hf : ∀ b, ¬ b = r → ¬ b = ka → w5 b = w b := fun b g0 g1 => by rw [hw5]; exact (x_set_ne _ _ g1).trans (hf b g0 g1)
  refine x_vret F rfl dX3_init_29 (Nat.le_of_ble_eq_true rfl) (Nat.le_of_ble_eq_true rfl) ?_
  exact ⟨rfl, ka, fr_k, h_r, h_k, hf⟩
set_option maxRecDepth 100000 in
set_option maxHeartbeats 4000000 in
theorem c_rou_init {r : Nat} (h_r : w r = some (.inr (4, [.null, .int 0, .int 0, .int 0, .null]))) : x_Cv l D dA vwC1 tyL1 B yX4_init wX4_init (rmd 1 1 3) [.ref r] w (fun w1 => ∃ ka, w ka = none ∧ w1 r = some (oRou ka 0 0 0 none) ∧ w1 ka = some (aI 3 (fun _ => 0)) ∧ ∀ b, ¬ b = r → ¬ b = ka → w1 b = w b) 1 3 := by
  refine x_Ct.of (cc := cX4_init) (maxL := 1) (by decide) rfl (Nat.le_of_ble_eq_true rfl) ?_
  intro p e s m below meth c F
  refine x_aload_n F dX4_init_0 rfl rfl ?_
  refine x_objInit F dX4_init_1 q46 q37 q38 (Nat.le_of_ble_eq_true rfl) (Nat.le_of_ble_eq_true rfl) ?_
  have hf : ∀ b, ¬ b = r → w b = w b := fun b _ => rfl
  refine x_aload_n F dX4_init_4 rfl rfl ?_
  refine x_iconst (v := 3) F dX4_init_5 (by decide) ?_
  refine x_newa (t := 0) (N := 3) F dX4_init_6 rfl q58 (by decide) rfl (Nat.le_of_ble_eq_true rfl) (Nat.le_of_ble_eq_true rfl) (Nat.le_of_ble_eq_true rfl) (fun ka hka => ?_)
  refine x_wd (fun w1 hw1 => ?_)
  have ne_r_k : ¬ r = ka := fun e => by rw [e, hka] at h_r; cases h_r
  have fr_k : w ka = none := by rw [← hf ka (fun e => ne_r_k e.symm)]; exact hka
  have h_r : w1 r = some (.inr (4, [.null, .int 0, .int 0, .int 0, .null])) := by rw [hw1, x_set_ne _ _ ne_r_k]; exact h_r
  have h_k : w1 ka = some (aI 3 (fun _ => 0)) := by rw [hw1]; exact x_set_eq _ _ _
  have hf : ∀ b, ¬ b = r → ¬ b = ka → w1 b = w b := fun b g0 g1 => by rw [hw1]; exact (x_set_ne _ _ g1).trans (hf b g0)
  refine x_putF (ci := 4) (C := RX4) (T := TX4) (N := 5) (k := 0) F dX4_init_8 rfl inX4 tyX4 tyX4_ok nmX4 (by decide) q47 rfl rfl rfl rfl h_r (Nat.le_of_ble_eq_true rfl) rfl rfl ?_
  refine x_wd (fun w2 hw2 => ?_)
  have h_r : w2 r = some (.inr (4, [.ref ka, .int 0, .int 0, .int 0, .null])) := by rw [hw2]; exact x_set_eq _ _ _
  have h_k : w2 ka = some (aI 3 (fun _ => 0)) := by rw [hw2, x_set_ne _ _ (fun e => ne_r_k e.symm)]; exact h_k
  have hf : ∀ b, ¬ b = r → ¬ b = ka → w2 b = w b := fun b g0 g1 => by rw [hw2]; exact (x_set_ne _ _ g0).trans (hf b g0 g1)
  refine x_vret F rfl dX4_init_11 (Nat.le_of_ble_eq_true rfl) (Nat.le_of_ble_eq_true rfl) ?_
  exact ⟨rfl, ka, fr_k, h_r, h_k, hf⟩
set_option maxRecDepth 100000 in
set_option maxHeartbeats 4000000 in
theorem c_face_init {r : Nat} (h_r : w r = some (.inr (2, [.int 0, .null, .int 0]))) (n : Int32) : x_Cv l D dA vwC1 tyL1 B yX2_init wX2_init (rmd 1 1 6) [.ref r, .int n] w (fun w1 => ∃ ka, w ka = none ∧ w1 r = some (.inr (2, [.int n, .ref ka, .int 0])) ∧ w1 ka = some (aV 6 (fun _ => none)) ∧ ∀ b, ¬ b = r → ¬ b = ka → w1 b = w b) 1 6 := by
  refine x_Ct.of (cc := cX2_init) (maxL := 2) (by decide) rfl (Nat.le_of_ble_eq_true rfl) ?_
  intro p e s m below meth c F
  refine x_aload_n F dX2_init_0 rfl rfl ?_
  refine x_objInit F dX2_init_1 q144 q37 q38 (Nat.le_of_ble_eq_true rfl) (Nat.le_of_ble_eq_true rfl) ?_
  have hf : ∀ b, ¬ b = r → w b = w b := fun b _ => rfl
  refine x_aload_n F dX2_init_4 rfl rfl ?_
  refine x_bipush (v := 6) F dX2_init_5 (by decide) ?_
  refine x_newq (t := 4) (N := 6) (C := RX5) F dX2_init_7 rfl q145 (x8 (x_Fix.xt F)) (by decide) rfl (Nat.le_of_ble_eq_true rfl) (Nat.le_of_ble_eq_true rfl) (Nat.le_of_ble_eq_true rfl) (fun ka hka => ?_)
  refine x_wd (fun w1 hw1 => ?_)
  have ne_r_k : ¬ r = ka := fun e => by rw [e, hka] at h_r; cases h_r
  have fr_k : w ka = none := by rw [← hf ka (fun e => ne_r_k e.symm)]; exact hka
  have h_r : w1 r = some (.inr (2, [.int 0, .null, .int 0])) := by rw [hw1, x_set_ne _ _ ne_r_k]; exact h_r
  have h_k : w1 ka = some (aV 6 (fun _ => none)) := by rw [hw1]; exact x_set_eq _ _ _
  have hf : ∀ b, ¬ b = r → ¬ b = ka → w1 b = w b := fun b g0 g1 => by rw [hw1]; exact (x_set_ne _ _ g1).trans (hf b g0)
  refine x_putF (ci := 2) (C := RX2) (T := TX2) (N := 3) (k := 1) F dX2_init_10 rfl inX2 tyX2 tyX2_ok nmX2 (by decide) q148 rfl rfl rfl rfl h_r (Nat.le_of_ble_eq_true rfl) rfl rfl ?_
  refine x_wd (fun w2 hw2 => ?_)
  have h_r : w2 r = some (.inr (2, [.int 0, .ref ka, .int 0])) := by rw [hw2]; exact x_set_eq _ _ _
  have h_k : w2 ka = some (aV 6 (fun _ => none)) := by rw [hw2, x_set_ne _ _ (fun e => ne_r_k e.symm)]; exact h_k
  have hf : ∀ b, ¬ b = r → ¬ b = ka → w2 b = w b := fun b g0 g1 => by rw [hw2]; exact (x_set_ne _ _ g0).trans (hf b g0 g1)
  refine x_aload_n F dX2_init_13 rfl rfl ?_
  refine x_iload_n F dX2_init_14 rfl rfl ?_
  refine x_putF (ci := 2) (C := RX2) (T := TX2) (N := 3) (k := 0) F dX2_init_15 rfl inX2 tyX2 tyX2_ok nmX2 (by decide) q146 rfl rfl rfl rfl h_r (Nat.le_of_ble_eq_true rfl) rfl rfl ?_
  refine x_wd (fun w3 hw3 => ?_)
  have h_r : w3 r = some (.inr (2, [.int n, .ref ka, .int 0])) := by rw [hw3]; exact x_set_eq _ _ _
  have h_k : w3 ka = some (aV 6 (fun _ => none)) := by rw [hw3, x_set_ne _ _ (fun e => ne_r_k e.symm)]; exact h_k
  have hf : ∀ b, ¬ b = r → ¬ b = ka → w3 b = w b := fun b g0 g1 => by rw [hw3]; exact (x_set_ne _ _ g0).trans (hf b g0 g1)
  refine x_vret F rfl dX2_init_18 (Nat.le_of_ble_eq_true rfl) (Nat.le_of_ble_eq_true rfl) ?_
  exact ⟨rfl, ka, fr_k, h_r, h_k, hf⟩
set_option maxRecDepth 100000 in
set_option maxHeartbeats 4000000 in
theorem c_init {r : Nat} (h_r : w r = some (.inr (5, [.null, .null, .null, .int 0, .int 0, .int 0, .int 0, .int 0, .int 0, .int 0, .null, .null]))) : x_Cv l D dA vwC1 tyL1 B yX6_init wX6_init (rmd 2 7 41) [.ref r] w (fun w1 => ∃ Fa Ca Aa Ro Tr, FR w1 r Fa Ca Aa Ro Tr 0 ∧ ∀ a x, w a = some x → ¬ a = r → w1 a = some x) 7 41 := by
  refine x_Ct.of (cc := cX6_init) (maxL := 1) (by decide) rfl (Nat.le_of_ble_eq_true rfl) ?_
  intro p e s m below meth c F
  have hf : ∀ b, ¬ b = r → w b = w b := fun b _ => rfl
  refine x_aload_n F dX6_init_0 rfl rfl ?_
  refine x_objInit F dX6_init_1 q36 q37 q38 (Nat.le_of_ble_eq_true rfl) (Nat.le_of_ble_eq_true rfl) ?_
  refine x_aload_n F dX6_init_4 rfl rfl ?_
  refine x_iconst (v := 4) F dX6_init_5 (by decide) ?_
  refine x_newq (t := 1) (N := 4) (C := RX2) F dX6_init_6 rfl q39 (x1 (x_Fix.xt F)) (by decide) rfl (Nat.le_of_ble_eq_true rfl) (Nat.le_of_ble_eq_true rfl) (Nat.le_of_ble_eq_true rfl) (fun a1 ha1 => ?_)
  refine x_wd (fun w1 hw1 => ?_)
  have ne_r_a1 : ¬ r = a1 := fun e => by rw [e, ha1] at h_r; cases h_r
  have fr_a1 : w a1 = none := by rw [← hf a1 (fun e => ne_r_a1 e.symm)]; exact ha1
  have h_r : w1 r = some (.inr (5, [.null, .null, .null, .int 0, .int 0, .int 0, .int 0, .int 0, .int 0, .int 0, .null, .null])) := by rw [hw1, x_set_ne _ _ ne_r_a1]; exact h_r
  have h_a1 : w1 a1 = some (aF 4 (fun _ => none)) := by rw [hw1]; exact x_set_eq _ _ _
  have hf : ∀ b, ¬ b = r → ¬ b = a1 → w1 b = w b := fun b g0 g1 => by rw [hw1]; exact (x_set_ne _ _ g1).trans (hf b g0)
  refine x_putF (ci := 5) (C := RX6) (T := TX6) (N := 12) (k := 0) F dX6_init_9 rfl inX6 tyX6 tyX6_ok nmX6 (by decide) q79 rfl rfl rfl rfl h_r (Nat.le_of_ble_eq_true rfl) rfl rfl ?_
  refine x_wd (fun w2 hw2 => ?_)
  have h_r : w2 r = some (.inr (5, [.ref a1, .null, .null, .int 0, .int 0, .int 0, .int 0, .int 0, .int 0, .int 0, .null, .null])) := by rw [hw2]; exact x_set_eq _ _ _
  have h_a1 : w2 a1 = some (aF 4 (fun _ => none)) := by rw [hw2, x_set_ne _ _ (fun e => ne_r_a1 e.symm)]; exact h_a1
  have hf : ∀ b, ¬ b = r → ¬ b = a1 → w2 b = w b := fun b g0 g1 => by rw [hw2]; exact (x_set_ne _ _ g0).trans (hf b g0 g1)
  refine x_aload_n F dX6_init_12 rfl rfl ?_
  refine x_bipush (v := 10) F dX6_init_13 (by decide) ?_
  refine x_newq (t := 2) (N := 10) (C := RX1) F dX6_init_15 rfl q40 (x2 (x_Fix.xt F)) (by decide) rfl (Nat.le_of_ble_eq_true rfl) (Nat.le_of_ble_eq_true rfl) (Nat.le_of_ble_eq_true rfl) (fun a2 ha2 => ?_)
  refine x_wd (fun w3 hw3 => ?_)
  have ne_r_a2 : ¬ r = a2 := fun e => by rw [e, ha2] at h_r; cases h_r
  have ne_a1_a2 : ¬ a1 = a2 := fun e => by rw [e, ha2] at h_a1; cases h_a1
  have fr_a2 : w a2 = none := by rw [← hf a2 (fun e => ne_r_a2 e.symm) (fun e => ne_a1_a2 e.symm)]; exact ha2
  have h_r : w3 r = some (.inr (5, [.ref a1, .null, .null, .int 0, .int 0, .int 0, .int 0, .int 0, .int 0, .int 0, .null, .null])) := by rw [hw3, x_set_ne _ _ ne_r_a2]; exact h_r
  have h_a1 : w3 a1 = some (aF 4 (fun _ => none)) := by rw [hw3, x_set_ne _ _ ne_a1_a2]; exact h_a1
  have h_a2 : w3 a2 = some (aC 10 (fun _ => none)) := by rw [hw3]; exact x_set_eq _ _ _
  have hf : ∀ b, ¬ b = r → ¬ b = a1 → ¬ b = a2 → w3 b = w b := fun b g0 g1 g2 => by rw [hw3]; exact (x_set_ne _ _ g2).trans (hf b g0 g1)
  refine x_putF (ci := 5) (C := RX6) (T := TX6) (N := 12) (k := 1) F dX6_init_18 rfl inX6 tyX6 tyX6_ok nmX6 (by decide) q80 rfl rfl rfl rfl h_r (Nat.le_of_ble_eq_true rfl) rfl rfl ?_
  refine x_wd (fun w4 hw4 => ?_)
  have h_r : w4 r = some (.inr (5, [.ref a1, .ref a2, .null, .int 0, .int 0, .int 0, .int 0, .int 0, .int 0, .int 0, .null, .null])) := by rw [hw4]; exact x_set_eq _ _ _
  have h_a1 : w4 a1 = some (aF 4 (fun _ => none)) := by rw [hw4, x_set_ne _ _ (fun e => ne_r_a1 e.symm)]; exact h_a1
  have h_a2 : w4 a2 = some (aC 10 (fun _ => none)) := by rw [hw4, x_set_ne _ _ (fun e => ne_r_a2 e.symm)]; exact h_a2
  have hf : ∀ b, ¬ b = r → ¬ b = a1 → ¬ b = a2 → w4 b = w b := fun b g0 g1 g2 => by rw [hw4]; exact (x_set_ne _ _ g0).trans (hf b g0 g1 g2)
  refine x_aload_n F dX6_init_21 rfl rfl ?_
  refine x_bipush (v := 10) F dX6_init_22 (by decide) ?_
  refine x_newq (t := 3) (N := 10) (C := RX0) F dX6_init_24 rfl q41 (x3 (x_Fix.xt F)) (by decide) rfl (Nat.le_of_ble_eq_true rfl) (Nat.le_of_ble_eq_true rfl) (Nat.le_of_ble_eq_true rfl) (fun a3 ha3 => ?_)
  refine x_wd (fun w5 hw5 => ?_)
  have ne_r_a3 : ¬ r = a3 := fun e => by rw [e, ha3] at h_r; cases h_r
  have ne_a1_a3 : ¬ a1 = a3 := fun e => by rw [e, ha3] at h_a1; cases h_a1
  have ne_a2_a3 : ¬ a2 = a3 := fun e => by rw [e, ha3] at h_a2; cases h_a2
  have fr_a3 : w a3 = none := by rw [← hf a3 (fun e => ne_r_a3 e.symm) (fun e => ne_a1_a3 e.symm) (fun e => ne_a2_a3 e.symm)]; exact ha3
  have h_r : w5 r = some (.inr (5, [.ref a1, .ref a2, .null, .int 0, .int 0, .int 0, .int 0, .int 0, .int 0, .int 0, .null, .null])) := by rw [hw5, x_set_ne _ _ ne_r_a3]; exact h_r
  have h_a1 : w5 a1 = some (aF 4 (fun _ => none)) := by rw [hw5, x_set_ne _ _ ne_a1_a3]; exact h_a1
  have h_a2 : w5 a2 = some (aC 10 (fun _ => none)) := by rw [hw5, x_set_ne _ _ ne_a2_a3]; exact h_a2
  have h_a3 : w5 a3 = some (aA 10 (fun _ => none)) := by rw [hw5]; exact x_set_eq _ _ _
  have hf : ∀ b, ¬ b = r → ¬ b = a1 → ¬ b = a2 → ¬ b = a3 → w5 b = w b := fun b g0 g1 g2 g3 => by rw [hw5]; exact (x_set_ne _ _ g3).trans (hf b g0 g1 g2)
  refine x_putF (ci := 5) (C := RX6) (T := TX6) (N := 12) (k := 2) F dX6_init_27 rfl inX6 tyX6 tyX6_ok nmX6 (by decide) q81 rfl rfl rfl rfl h_r (Nat.le_of_ble_eq_true rfl) rfl rfl ?_
  refine x_wd (fun w6 hw6 => ?_)
  have h_r : w6 r = some (.inr (5, [.ref a1, .ref a2, .ref a3, .int 0, .int 0, .int 0, .int 0, .int 0, .int 0, .int 0, .null, .null])) := by rw [hw6]; exact x_set_eq _ _ _
  have h_a1 : w6 a1 = some (aF 4 (fun _ => none)) := by rw [hw6, x_set_ne _ _ (fun e => ne_r_a1 e.symm)]; exact h_a1
  have h_a2 : w6 a2 = some (aC 10 (fun _ => none)) := by rw [hw6, x_set_ne _ _ (fun e => ne_r_a2 e.symm)]; exact h_a2
  have h_a3 : w6 a3 = some (aA 10 (fun _ => none)) := by rw [hw6, x_set_ne _ _ (fun e => ne_r_a3 e.symm)]; exact h_a3
  have hf : ∀ b, ¬ b = r → ¬ b = a1 → ¬ b = a2 → ¬ b = a3 → w6 b = w b := fun b g0 g1 g2 g3 => by rw [hw6]; exact (x_set_ne _ _ g0).trans (hf b g0 g1 g2 g3)
  refine x_aload_n F dX6_init_30 rfl rfl ?_
  refine x_new (ci := 4) (C := RX4) (T := TX4) (N := 5) (fs := [.null, .int 0, .int 0, .int 0, .null]) F dX6_init_31 rfl inX4 tyX4 tyX4_ok q42 q43 q2 (fun j hj => by rcases (show j = 0 ∨ j = 1 ∨ j = 2 ∨ j = 3 ∨ j = 4 by omega) with rfl | rfl | rfl | rfl | rfl <;> rfl) (Nat.le_of_ble_eq_true rfl) (Nat.le_of_ble_eq_true rfl) (fun ro hro => ?_)
  refine x_wd (fun w7 hw7 => ?_)
  have ne_r_ro : ¬ r = ro := fun e => by rw [e, hro] at h_r; cases h_r
  have ne_a1_ro : ¬ a1 = ro := fun e => by rw [e, hro] at h_a1; cases h_a1
  have ne_a2_ro : ¬ a2 = ro := fun e => by rw [e, hro] at h_a2; cases h_a2
  have ne_a3_ro : ¬ a3 = ro := fun e => by rw [e, hro] at h_a3; cases h_a3
  have fr_ro : w ro = none := by rw [← hf ro (fun e => ne_r_ro e.symm) (fun e => ne_a1_ro e.symm) (fun e => ne_a2_ro e.symm) (fun e => ne_a3_ro e.symm)]; exact hro
  have h_r : w7 r = some (.inr (5, [.ref a1, .ref a2, .ref a3, .int 0, .int 0, .int 0, .int 0, .int 0, .int 0, .int 0, .null, .null])) := by rw [hw7, x_set_ne _ _ ne_r_ro]; exact h_r
  have h_a1 : w7 a1 = some (aF 4 (fun _ => none)) := by rw [hw7, x_set_ne _ _ ne_a1_ro]; exact h_a1
  have h_a2 : w7 a2 = some (aC 10 (fun _ => none)) := by rw [hw7, x_set_ne _ _ ne_a2_ro]; exact h_a2
  have h_a3 : w7 a3 = some (aA 10 (fun _ => none)) := by rw [hw7, x_set_ne _ _ ne_a3_ro]; exact h_a3
  have h_ro : w7 ro = some (.inr (4, [.null, .int 0, .int 0, .int 0, .null])) := by rw [hw7]; exact x_set_eq _ _ _
  have hf : ∀ b, ¬ b = r → ¬ b = a1 → ¬ b = a2 → ¬ b = a3 → ¬ b = ro → w7 b = w b := fun b g0 g1 g2 g3 g4 => by rw [hw7]; exact (x_set_ne _ _ g4).trans (hf b g0 g1 g2 g3)
  refine x_dup F dX6_init_34 rfl ?_
  refine x_cIN0 F dX6_init_35 (x_gI q45) q2 (x4 (x_Fix.xt F)) q44 rfl (c_rou_init h_ro) ⟨rfl, rfl, rfl, xd_X4_init, ⟨Nat.le_of_ble_eq_true rfl, Nat.le_of_ble_eq_true rfl⟩, Nat.le_of_ble_eq_true rfl, Nat.le_of_ble_eq_true rfl⟩ (Nat.le_of_ble_eq_true rfl) (fun w1 hp => ?_)
  obtain ⟨st, fst, g_ro, g_st, hf2⟩ := hp
  have ne_r_st : ¬ r = st := fun e => by rw [e, fst] at h_r; cases h_r
  have ne_a1_st : ¬ a1 = st := fun e => by rw [e, fst] at h_a1; cases h_a1
  have ne_a2_st : ¬ a2 = st := fun e => by rw [e, fst] at h_a2; cases h_a2
  have ne_a3_st : ¬ a3 = st := fun e => by rw [e, fst] at h_a3; cases h_a3
  have ne_ro_st : ¬ ro = st := fun e => by rw [e, fst] at h_ro; cases h_ro
  have fr_st : w st = none := by rw [← hf st (fun e => ne_r_st e.symm) (fun e => ne_a1_st e.symm) (fun e => ne_a2_st e.symm) (fun e => ne_a3_st e.symm) (fun e => ne_ro_st e.symm)]; exact fst
  have h_r : w1 r = some (.inr (5, [.ref a1, .ref a2, .ref a3, .int 0, .int 0, .int 0, .int 0, .int 0, .int 0, .int 0, .null, .null])) := by rw [hf2 r ne_r_ro ne_r_st]; exact h_r
  have h_a1 : w1 a1 = some (aF 4 (fun _ => none)) := by rw [hf2 a1 ne_a1_ro ne_a1_st]; exact h_a1
  have h_a2 : w1 a2 = some (aC 10 (fun _ => none)) := by rw [hf2 a2 ne_a2_ro ne_a2_st]; exact h_a2
  have h_a3 : w1 a3 = some (aA 10 (fun _ => none)) := by rw [hf2 a3 ne_a3_ro ne_a3_st]; exact h_a3
  have h_ro : w1 ro = some (oRou st 0 0 0 none) := g_ro
  have h_st : w1 st = some (aI 3 (fun _ => 0)) := g_st
  have hf : ∀ b, ¬ b = r → ¬ b = a1 → ¬ b = a2 → ¬ b = a3 → ¬ b = ro → ¬ b = st → w1 b = w b := fun b g0 g1 g2 g3 g4 g5 => by rw [hf2 b g4 g5]; exact hf b g0 g1 g2 g3 g4
  refine x_putF (ci := 5) (C := RX6) (T := TX6) (N := 12) (k := 10) F dX6_init_38 rfl inX6 tyX6 tyX6_ok nmX6 (by decide) q89 rfl rfl rfl rfl h_r (Nat.le_of_ble_eq_true rfl) rfl rfl ?_
  refine x_wd (fun w8 hw8 => ?_)
  have h_r : w8 r = some (.inr (5, [.ref a1, .ref a2, .ref a3, .int 0, .int 0, .int 0, .int 0, .int 0, .int 0, .int 0, .ref ro, .null])) := by rw [hw8]; exact x_set_eq _ _ _
  have h_a1 : w8 a1 = some (aF 4 (fun _ => none)) := by rw [hw8, x_set_ne _ _ (fun e => ne_r_a1 e.symm)]; exact h_a1
  have h_a2 : w8 a2 = some (aC 10 (fun _ => none)) := by rw [hw8, x_set_ne _ _ (fun e => ne_r_a2 e.symm)]; exact h_a2
  have h_a3 : w8 a3 = some (aA 10 (fun _ => none)) := by rw [hw8, x_set_ne _ _ (fun e => ne_r_a3 e.symm)]; exact h_a3
  have h_ro : w8 ro = some (oRou st 0 0 0 none) := by rw [hw8, x_set_ne _ _ (fun e => ne_r_ro e.symm)]; exact h_ro
  have h_st : w8 st = some (aI 3 (fun _ => 0)) := by rw [hw8, x_set_ne _ _ (fun e => ne_r_st e.symm)]; exact h_st
  have hf : ∀ b, ¬ b = r → ¬ b = a1 → ¬ b = a2 → ¬ b = a3 → ¬ b = ro → ¬ b = st → w8 b = w b := fun b g0 g1 g2 g3 g4 g5 => by rw [hw8]; exact (x_set_ne _ _ g0).trans (hf b g0 g1 g2 g3 g4 g5)
  refine x_aload_n F dX6_init_41 rfl rfl ?_
  refine x_new (ci := 3) (C := RX3) (T := TX3) (N := 4) (fs := [.null, .int 0, .int 0, .int 0]) F dX6_init_42 rfl inX3 tyX3 tyX3_ok q59 q60 q3 (fun j hj => by rcases (show j = 0 ∨ j = 1 ∨ j = 2 ∨ j = 3 by omega) with rfl | rfl | rfl | rfl <;> rfl) (Nat.le_of_ble_eq_true rfl) (Nat.le_of_ble_eq_true rfl) (fun tr htr => ?_)
  refine x_wd (fun w9 hw9 => ?_)
  have ne_r_tr : ¬ r = tr := fun e => by rw [e, htr] at h_r; cases h_r
  have ne_a1_tr : ¬ a1 = tr := fun e => by rw [e, htr] at h_a1; cases h_a1
  have ne_a2_tr : ¬ a2 = tr := fun e => by rw [e, htr] at h_a2; cases h_a2
  have ne_a3_tr : ¬ a3 = tr := fun e => by rw [e, htr] at h_a3; cases h_a3
  have ne_ro_tr : ¬ ro = tr := fun e => by rw [e, htr] at h_ro; cases h_ro
  have ne_st_tr : ¬ st = tr := fun e => by rw [e, htr] at h_st; cases h_st
  have fr_tr : w tr = none := by rw [← hf tr (fun e => ne_r_tr e.symm) (fun e => ne_a1_tr e.symm) (fun e => ne_a2_tr e.symm) (fun e => ne_a3_tr e.symm) (fun e => ne_ro_tr e.symm) (fun e => ne_st_tr e.symm)]; exact htr
  have h_r : w9 r = some (.inr (5, [.ref a1, .ref a2, .ref a3, .int 0, .int 0, .int 0, .int 0, .int 0, .int 0, .int 0, .ref ro, .null])) := by rw [hw9, x_set_ne _ _ ne_r_tr]; exact h_r
  have h_a1 : w9 a1 = some (aF 4 (fun _ => none)) := by rw [hw9, x_set_ne _ _ ne_a1_tr]; exact h_a1
  have h_a2 : w9 a2 = some (aC 10 (fun _ => none)) := by rw [hw9, x_set_ne _ _ ne_a2_tr]; exact h_a2
  have h_a3 : w9 a3 = some (aA 10 (fun _ => none)) := by rw [hw9, x_set_ne _ _ ne_a3_tr]; exact h_a3
  have h_ro : w9 ro = some (oRou st 0 0 0 none) := by rw [hw9, x_set_ne _ _ ne_ro_tr]; exact h_ro
  have h_st : w9 st = some (aI 3 (fun _ => 0)) := by rw [hw9, x_set_ne _ _ ne_st_tr]; exact h_st
  have h_tr : w9 tr = some (.inr (3, [.null, .int 0, .int 0, .int 0])) := by rw [hw9]; exact x_set_eq _ _ _
  have hf : ∀ b, ¬ b = r → ¬ b = a1 → ¬ b = a2 → ¬ b = a3 → ¬ b = ro → ¬ b = st → ¬ b = tr → w9 b = w b := fun b g0 g1 g2 g3 g4 g5 g6 => by rw [hw9]; exact (x_set_ne _ _ g6).trans (hf b g0 g1 g2 g3 g4 g5)
  refine x_dup F dX6_init_45 rfl ?_
  refine x_cI0 F dX6_init_46 (x_gI q63) q3 q61 q62 rfl (c_ret_init h_tr) ⟨rfl, rfl, rfl, xd_X3_init, ⟨Nat.le_of_ble_eq_true rfl, Nat.le_of_ble_eq_true rfl⟩, Nat.le_of_ble_eq_true rfl, Nat.le_of_ble_eq_true rfl⟩ (Nat.le_of_ble_eq_true rfl) (fun w1 hp => ?_)
  obtain ⟨ka, fka, g_tr, g_ka, hf2⟩ := hp
  have ne_r_ka : ¬ r = ka := fun e => by rw [e, fka] at h_r; cases h_r
  have ne_a1_ka : ¬ a1 = ka := fun e => by rw [e, fka] at h_a1; cases h_a1
  have ne_a2_ka : ¬ a2 = ka := fun e => by rw [e, fka] at h_a2; cases h_a2
  have ne_a3_ka : ¬ a3 = ka := fun e => by rw [e, fka] at h_a3; cases h_a3
  have ne_ro_ka : ¬ ro = ka := fun e => by rw [e, fka] at h_ro; cases h_ro
  have ne_st_ka : ¬ st = ka := fun e => by rw [e, fka] at h_st; cases h_st
  have ne_tr_ka : ¬ tr = ka := fun e => by rw [e, fka] at h_tr; cases h_tr
  have fr_ka : w ka = none := by rw [← hf ka (fun e => ne_r_ka e.symm) (fun e => ne_a1_ka e.symm) (fun e => ne_a2_ka e.symm) (fun e => ne_a3_ka e.symm) (fun e => ne_ro_ka e.symm) (fun e => ne_st_ka e.symm) (fun e => ne_tr_ka e.symm)]; exact fka
  have h_r : w1 r = some (.inr (5, [.ref a1, .ref a2, .ref a3, .int 0, .int 0, .int 0, .int 0, .int 0, .int 0, .int 0, .ref ro, .null])) := by rw [hf2 r ne_r_tr ne_r_ka]; exact h_r
  have h_a1 : w1 a1 = some (aF 4 (fun _ => none)) := by rw [hf2 a1 ne_a1_tr ne_a1_ka]; exact h_a1
  have h_a2 : w1 a2 = some (aC 10 (fun _ => none)) := by rw [hf2 a2 ne_a2_tr ne_a2_ka]; exact h_a2
  have h_a3 : w1 a3 = some (aA 10 (fun _ => none)) := by rw [hf2 a3 ne_a3_tr ne_a3_ka]; exact h_a3
  have h_ro : w1 ro = some (oRou st 0 0 0 none) := by rw [hf2 ro ne_ro_tr ne_ro_ka]; exact h_ro
  have h_st : w1 st = some (aI 3 (fun _ => 0)) := by rw [hf2 st ne_st_tr ne_st_ka]; exact h_st
  have h_tr : w1 tr = some (oRet ka (-1) (-1) 0) := g_tr
  have h_ka : w1 ka = some (aI 5 (f_fill 5 (-1) (fun _ => 0))) := g_ka
  have hf : ∀ b, ¬ b = r → ¬ b = a1 → ¬ b = a2 → ¬ b = a3 → ¬ b = ro → ¬ b = st → ¬ b = tr → ¬ b = ka → w1 b = w b := fun b g0 g1 g2 g3 g4 g5 g6 g7 => by rw [hf2 b g6 g7]; exact hf b g0 g1 g2 g3 g4 g5 g6
  refine x_putF (ci := 5) (C := RX6) (T := TX6) (N := 12) (k := 11) F dX6_init_49 rfl inX6 tyX6 tyX6_ok nmX6 (by decide) q90 rfl rfl rfl rfl h_r (Nat.le_of_ble_eq_true rfl) rfl rfl ?_
  refine x_wd (fun w10 hw10 => ?_)
  have h_r : w10 r = some (.inr (5, [.ref a1, .ref a2, .ref a3, .int 0, .int 0, .int 0, .int 0, .int 0, .int 0, .int 0, .ref ro, .ref tr])) := by rw [hw10]; exact x_set_eq _ _ _
  have h_a1 : w10 a1 = some (aF 4 (fun _ => none)) := by rw [hw10, x_set_ne _ _ (fun e => ne_r_a1 e.symm)]; exact h_a1
  have h_a2 : w10 a2 = some (aC 10 (fun _ => none)) := by rw [hw10, x_set_ne _ _ (fun e => ne_r_a2 e.symm)]; exact h_a2
  have h_a3 : w10 a3 = some (aA 10 (fun _ => none)) := by rw [hw10, x_set_ne _ _ (fun e => ne_r_a3 e.symm)]; exact h_a3
  have h_ro : w10 ro = some (oRou st 0 0 0 none) := by rw [hw10, x_set_ne _ _ (fun e => ne_r_ro e.symm)]; exact h_ro
  have h_st : w10 st = some (aI 3 (fun _ => 0)) := by rw [hw10, x_set_ne _ _ (fun e => ne_r_st e.symm)]; exact h_st
  have h_tr : w10 tr = some (oRet ka (-1) (-1) 0) := by rw [hw10, x_set_ne _ _ (fun e => ne_r_tr e.symm)]; exact h_tr
  have h_ka : w10 ka = some (aI 5 (f_fill 5 (-1) (fun _ => 0))) := by rw [hw10, x_set_ne _ _ (fun e => ne_r_ka e.symm)]; exact h_ka
  have hf : ∀ b, ¬ b = r → ¬ b = a1 → ¬ b = a2 → ¬ b = a3 → ¬ b = ro → ¬ b = st → ¬ b = tr → ¬ b = ka → w10 b = w b := fun b g0 g1 g2 g3 g4 g5 g6 g7 => by rw [hw10]; exact (x_set_ne _ _ g0).trans (hf b g0 g1 g2 g3 g4 g5 g6 g7)
  refine x_vret F rfl dX6_init_52 (Nat.le_of_ble_eq_true rfl) (Nat.le_of_ble_eq_true rfl) ?_
  refine ⟨rfl, a1, a2, a3, ro, tr, ⟨h_r, h_a1, h_a2⟩, fun a x hx hne => ?_⟩
  rw [hf a hne (fun e => by rw [e, fr_a1] at hx; cases hx) (fun e => by rw [e, fr_a2] at hx; cases hx) (fun e => by rw [e, fr_a3] at hx; cases hx) (fun e => by rw [e, fr_ro] at hx; cases hx) (fun e => by rw [e, fr_st] at hx; cases hx) (fun e => by rw [e, fr_tr] at hx; cases hx) (fun e => by rw [e, fr_ka] at hx; cases hx)]
  exact hx
set_option maxRecDepth 100000 in
set_option maxHeartbeats 4000000 in
theorem c_open (hF : FR w M Fa Ca Aa Ro Tr n) : x_Ci l D dA vwC1 tyL1 B yX6_open wX6_open (rmd 2 2 9) [.ref M] w (fun v w1 => v = .int 0 ∧ ∀ a x, w a = some x → ¬ a = M → ¬ a = Fa → w1 a = some x) 2 9 := by
  refine x_Ct.of (cc := cX6_open) (maxL := 1) (by decide) rfl (Nat.le_of_ble_eq_true rfl) ?_
  intro p e s m below meth c F
  obtain ⟨h_m, h_f, -⟩ := hF
  have ne_m_f : ¬ M = Fa := w_ne h_m h_f (fun z => by cases z)
  have hf : ∀ b, ¬ b = M → ¬ b = Fa → w b = w b := fun b _ _ => rfl
  refine x_aload_n F dX6_open_0 rfl rfl ?_
  refine x_get (ci := 5) (C := RX6) (T := TX6) (N := 12) (k := 3) F dX6_open_1 rfl inX6 (by decide) q82 rfl h_m rfl ?_
  refine x_if_lt F dX6_open_4 rfl (fun hc => absurd hc (by decide)) (fun _ => ?_)
  refine x_aload_n F dX6_open_7 rfl rfl ?_
  refine x_get (ci := 5) (C := RX6) (T := TX6) (N := 12) (k := 3) F dX6_open_8 rfl inX6 (by decide) q82 rfl h_m rfl ?_
  refine x_aload_n F dX6_open_11 rfl rfl ?_
  refine x_get (ci := 5) (C := RX6) (T := TX6) (N := 12) (k := 0) F dX6_open_12 rfl inX6 (by decide) q79 rfl h_m rfl ?_
  refine x_alen (v := 4) F dX6_open_15 rfl h_f rfl ?_
  refine x_icmp_lt F dX6_open_16 rfl (fun _ => ?_) (fun hc => absurd hc (by decide))
  refine x_aload_n F dX6_open_29 rfl rfl ?_
  refine x_get (ci := 5) (C := RX6) (T := TX6) (N := 12) (k := 0) F dX6_open_30 rfl inX6 (by decide) q79 rfl h_m rfl ?_
  refine x_aload_n F dX6_open_33 rfl rfl ?_
  refine x_get (ci := 5) (C := RX6) (T := TX6) (N := 12) (k := 3) F dX6_open_34 rfl inX6 (by decide) q82 rfl h_m rfl ?_
  refine x_new (ci := 2) (C := RX2) (T := TX2) (N := 3) (fs := [.int 0, .null, .int 0]) F dX6_open_37 rfl inX2 tyX2 tyX2_ok q39 q140 q14 (fun j hj => by rcases (show j = 0 ∨ j = 1 ∨ j = 2 by omega) with rfl | rfl | rfl <;> rfl) (Nat.le_of_ble_eq_true rfl) (Nat.le_of_ble_eq_true rfl) (fun fa hfa => ?_)
  refine x_wd (fun w1 hw1 => ?_)
  have ne_m_n : ¬ M = fa := fun e => by rw [e, hfa] at h_m; cases h_m
  have ne_f_n : ¬ Fa = fa := fun e => by rw [e, hfa] at h_f; cases h_f
  have fr_n : w fa = none := by rw [← hf fa (fun e => ne_m_n e.symm) (fun e => ne_f_n e.symm)]; exact hfa
  have h_m : w1 M = some (oX Fa Ca Aa Ro Tr 0 n) := by rw [hw1, x_set_ne _ _ ne_m_n]; exact h_m
  have h_f : w1 Fa = some (aF 4 (fun _ => none)) := by rw [hw1, x_set_ne _ _ ne_f_n]; exact h_f
  have h_n : w1 fa = some (.inr (2, [.int 0, .null, .int 0])) := by rw [hw1]; exact x_set_eq _ _ _
  have hf : ∀ b, ¬ b = M → ¬ b = Fa → ¬ b = fa → w1 b = w b := fun b g0 g1 g2 => by rw [hw1]; exact (x_set_ne _ _ g2).trans (hf b g0 g1)
  refine x_dup F dX6_open_40 rfl ?_
  refine x_aload_n F dX6_open_41 rfl rfl ?_
  refine x_get (ci := 5) (C := RX6) (T := TX6) (N := 12) (k := 3) F dX6_open_42 rfl inX6 (by decide) q82 rfl h_m rfl ?_
  refine x_cI1 F dX6_open_45 (x_gI q143) q14 q141 q142 rfl (c_face_init h_n 0) ⟨rfl, rfl, rfl, xd_X2_init, ⟨Nat.le_of_ble_eq_true rfl, Nat.le_of_ble_eq_true rfl⟩, Nat.le_of_ble_eq_true rfl, Nat.le_of_ble_eq_true rfl⟩ (Nat.le_of_ble_eq_true rfl) (fun w1 hp => ?_)
  obtain ⟨ka, fka, g_n, g_ka, hf2⟩ := hp
  have ne_m_ka : ¬ M = ka := fun e => by rw [e, fka] at h_m; cases h_m
  have ne_f_ka : ¬ Fa = ka := fun e => by rw [e, fka] at h_f; cases h_f
  have ne_n_ka : ¬ fa = ka := fun e => by rw [e, fka] at h_n; cases h_n
  have fr_ka : w ka = none := by rw [← hf ka (fun e => ne_m_ka e.symm) (fun e => ne_f_ka e.symm) (fun e => ne_n_ka e.symm)]; exact fka
  have h_m : w1 M = some (oX Fa Ca Aa Ro Tr 0 n) := by rw [hf2 M ne_m_n ne_m_ka]; exact h_m
  have h_f : w1 Fa = some (aF 4 (fun _ => none)) := by rw [hf2 Fa ne_f_n ne_f_ka]; exact h_f
  have h_n : w1 fa = some (.inr (2, [.int 0, .ref ka, .int 0])) := g_n
  have h_ka : w1 ka = some (aV 6 (fun _ => none)) := g_ka
  have hf : ∀ b, ¬ b = M → ¬ b = Fa → ¬ b = fa → ¬ b = ka → w1 b = w b := fun b g0 g1 g2 g3 => by rw [hf2 b g2 g3]; exact hf b g0 g1 g2
  refine x_aast F dX6_open_48 rfl rfl h_f h_n (by unfold vp_in; decide) ?_
  refine x_wd (fun w2 hw2 => ?_)
  have h_m : w2 M = some (oX Fa Ca Aa Ro Tr 0 n) := by rw [hw2, x_set_ne _ _ ne_m_f]; exact h_m
  have h_f : w2 Fa = some (aF 4 (va_up (fun _ => none) (0 : Int32).toNatClampNeg (some fa))) := by rw [hw2]; exact x_set_eq _ _ _
  have h_n : w2 fa = some (.inr (2, [.int 0, .ref ka, .int 0])) := by rw [hw2, x_set_ne _ _ (fun e => ne_f_n e.symm)]; exact h_n
  have h_ka : w2 ka = some (aV 6 (fun _ => none)) := by rw [hw2, x_set_ne _ _ (fun e => ne_f_ka e.symm)]; exact h_ka
  have hf : ∀ b, ¬ b = M → ¬ b = Fa → ¬ b = fa → ¬ b = ka → w2 b = w b := fun b g0 g1 g2 g3 => by rw [hw2]; exact (x_set_ne _ _ g1).trans (hf b g0 g1 g2 g3)
  refine x_aload_n F dX6_open_49 rfl rfl ?_
  refine x_dup F dX6_open_50 rfl ?_
  refine x_get (ci := 5) (C := RX6) (T := TX6) (N := 12) (k := 3) F dX6_open_51 rfl inX6 (by decide) q82 rfl h_m rfl ?_
  refine x_dup_x1 F dX6_open_54 rfl rfl ?_
  refine x_iconst (v := 1) F dX6_open_55 (by decide) ?_
  refine x_iadd F dX6_open_56 ?_
  refine x_put (ci := 5) (C := RX6) (T := TX6) (N := 12) (k := 3) F dX6_open_57 rfl inX6 tyX6 tyX6_ok nmX6 (by decide) q82 rfl rfl h_m (Nat.le_of_ble_eq_true rfl) rfl rfl ?_
  refine x_wd (fun w3 hw3 => ?_)
  have h_m : w3 M = some (oX Fa Ca Aa Ro Tr 1 n) := by rw [hw3]; exact x_set_eq _ _ _
  have h_f : w3 Fa = some (aF 4 (va_up (fun _ => none) (0 : Int32).toNatClampNeg (some fa))) := by rw [hw3, x_set_ne _ _ (fun e => ne_m_f e.symm)]; exact h_f
  have h_n : w3 fa = some (.inr (2, [.int 0, .ref ka, .int 0])) := by rw [hw3, x_set_ne _ _ (fun e => ne_m_n e.symm)]; exact h_n
  have h_ka : w3 ka = some (aV 6 (fun _ => none)) := by rw [hw3, x_set_ne _ _ (fun e => ne_m_ka e.symm)]; exact h_ka
  have hf : ∀ b, ¬ b = M → ¬ b = Fa → ¬ b = fa → ¬ b = ka → w3 b = w b := fun b g0 g1 g2 g3 => by rw [hw3]; exact (x_set_ne _ _ g0).trans (hf b g0 g1 g2 g3)
  refine x_iret F rfl rfl dX6_open_60 (Nat.le_of_ble_eq_true rfl) (Nat.le_of_ble_eq_true rfl) ?_
  refine ⟨_, rfl, rfl, fun a x hx h1 h2 => ?_⟩
  rw [hf a h1 h2 (fun e => by rw [e, fr_n] at hx; cases hx) (fun e => by rw [e, fr_ka] at hx; cases hx)]
  exact hx
end CTR
