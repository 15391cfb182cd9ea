/-! ===== retirements, answers, hours ===== -/
section HRS
variable {l : Launch} {D : va_G} {dA : Nat → ClassId} {B : Nat} {Z : Nat → Nat → Nat} {K : kT} {J : jT} {w : xW}
def f_fill (n : Nat) (v : Int32) (f : Nat → Int32) : Nat → Int32 := fun j => if j < n then v else f j
theorem f_fill_0 (v : Int32) (f : Nat → Int32) : f_fill 0 v f = f := by funext j; exact if_neg (Nat.not_lt_zero j)
theorem f_fill_s (n : Nat) (v : Int32) (f : Nat → Int32) : upd (f_fill n v f) n v = f_fill (n + 1) v f := by
  funext j
  unfold upd f_fill
  by_cases h : j = n
  · subst h; simp
  · by_cases h2 : j < n
    · simp [h, h2, show j < n + 1 by omega]
    · simp [h, h2, show ¬ j < n + 1 by omega]
set_option maxRecDepth 100000 in
set_option maxHeartbeats 4000000 in
theorem c_fill {a n : Nat} (hn : n < 2 ^ 31) {f : Nat → Int32} (ha : w a = some (aI n f)) (v : Int32) : Cv l D dA B yJ7_fill_53178 wJ7_fill_53178 0 [.ref a, .int v] w (fun w1 => w1 = x_set w a (aI n (f_fill n v f))) := by
  refine x_Ct.of (cc := cJ7_fill_53178) (maxL := 4) (by decide) rfl (Nat.le_of_ble_eq_true rfl) ?_
  intro p e s m below meth c F
  have loop : ∀ n1 k, k + n1 = n → ∀ wz, wz = x_set w a (aI n (f_fill k v f)) → X p l e (rmd 0 0 0) s m #[.ref a, .int v] below meth c (MQ below (x_Q D dA vwCl tyL0 B (fun r w1 => r = none ∧ (w1 = x_set w a (aI n (f_fill n v f))))) #[.ref a, .int v] s 0 0 (fun q => B ≤ q)) D dA vwCl B 4 0 0 5 [(0, .ref a), (1, .int v), (2, .int (nI k)), (3, .int (nI n))] [] wz := by
    intro n1
    induction n1 with
    | zero =>
      intro k hk1 wz hw
      obtain rfl : k = n := by omega
      refine x_iload_n F dJ7_fill_53178_5 rfl rfl ?_
      refine x_iload_n F dJ7_fill_53178_6 rfl rfl ?_
      refine x_icmp_ge F dJ7_fill_53178_7 rfl (fun h7 => ?_) (fun hc => absurd hc (fun q => q (Int32.le_refl _)))
      refine x_vret F rfl dJ7_fill_53178_20 (Nat.le_refl _) (Nat.le_refl _) ?_
      exact ⟨rfl, hw⟩
    | succ n1 ih =>
      intro k hk1 wz hw
      refine x_iload_n F dJ7_fill_53178_5 rfl rfl ?_
      refine x_iload_n F dJ7_fill_53178_6 rfl rfl ?_
      refine x_icmp_ge F dJ7_fill_53178_7 rfl (fun hc => absurd hc (nI_ge (by omega) hn)) (fun h7 => ?_)
      refine x_aload_n F dJ7_fill_53178_10 rfl rfl ?_
      refine x_iload_n F dJ7_fill_53178_11 rfl rfl ?_
      refine x_iload_n F dJ7_fill_53178_12 rfl rfl ?_
      refine x_iastN F dJ7_fill_53178_13 rfl (show wz a = some (aI n (f_fill k v f)) by rw [hw]; exact x_set_eq _ _ _) (by omega) hn ?_
      refine x_wd (fun w1 hw1 => ?_)
      refine x_iincN F dJ7_fill_53178_14 (by decide) rfl (by decide) ?_
      refine x_goto F dJ7_fill_53178_17 rfl ?_
      exact x_lk (ih (k + 1) (by omega) w1 (by rw [hw1, hw, x_set_set, f_fill_s])) ⟨rfl, rfl, rfl, rfl, trivial⟩
  refine x_iconst (v := 0) F dJ7_fill_53178_0 (by decide) ?_
  refine x_istore_n F dJ7_fill_53178_1 rfl (by decide) ?_
  refine x_aload_n F dJ7_fill_53178_2 rfl rfl ?_
  refine x_alen F dJ7_fill_53178_3 rfl ha rfl ?_
  refine x_istore_n F dJ7_fill_53178_4 rfl (by decide) ?_
  exact x_lk (loop n 0 (by omega) w (by rw [f_fill_0, x_set_self ha])) ⟨rfl, rfl, rfl, rfl, trivial⟩
def f_clearK (K : kT) (i : Nat) : kT := kPutVA (kPutV (kPutV (kPutV K i 6 (-1)) i 7 (-1)) i 8 0) i (f_fill 5 (-1) (kVA K i))
theorem kN_clear (K : kT) (i : Nat) : kN (f_clearK K i) = kN K := by unfold f_clearK; rw [kN_ofVA, kN_ofV, kN_ofV, kN_ofV]
def f_startK (K : kT) (i : Nat) (d : Int32) : kT := kPutV (kPutV (f_clearK K i) i 6 (kG K 0)) i 7 (kG K 0 + d * 24)
set_option maxRecDepth 100000 in
set_option maxHeartbeats 4000000 in
theorem c_clear (hR : Rep Z K J w) {i : Nat} (hi : vOk K i) : Cv l D dA B yX3_clear wX3_clear 1 [.ref (Z 11 i)] w (VM Z K w (f_clearK K i)) := by
  refine x_Ct.of (cc := cX3_clear) (maxL := 1) (by decide) rfl (Nat.le_of_ble_eq_true rfl) ?_
  intro p e s m below meth c F
  have hO : Oth Z K w w := Oth.rfl
  refine x_aload_n F dX3_clear_0 rfl rfl ?_
  refine x_iconst (v := (-1)) F dX3_clear_1 (by decide) ?_
  refine x_put (ci := 3) (C := RX3) (T := TX3) (N := 4) (k := 1) F dX3_clear_2 rfl inX3 tyX3 tyX3_ok nmX3 (by decide) q55 rfl rfl (hR.ret hi) (Nat.le_of_ble_eq_true rfl) rfl rfl ?_
  refine x_wd (fun w1 hw1 => ?_)
  have hO : Oth Z K w w1 := hO.trans (by rw [hw1]; exact Oth.set (kind := 11) (idx := i) hi _) rfl
  have hR : Rep Z (kPutV K i 6 (-1)) J w1 := by rw [hw1]; exact hR.putR hi 6 (by decide) _ (by first | (simp [obj, kV_put, kC_put, kG_put, kCV_put, kC_ofCV, kV_ofCV, kCV_ofC, kCV_ofV]; done) | (simp [obj, kV_put, kC_put, kG_put, kCV_put, kC_ofCV, kV_ofCV, kCV_ofC, kCV_ofV]; exact ⟨rfl, rfl⟩) | (simp [obj, kV_put, kC_put, kG_put, kCV_put, kC_ofCV, kV_ofCV, kCV_ofC, kCV_ofV]; rfl) | (simp [obj, kV_put, kC_put, kG_put, kCV_put, kC_ofCV, kV_ofCV, kCV_ofC, kCV_ofV]; and_intros <;> rfl))
  refine x_aload_n F dX3_clear_5 rfl rfl ?_
  refine x_iconst (v := (-1)) F dX3_clear_6 (by decide) ?_
  refine x_put (ci := 3) (C := RX3) (T := TX3) (N := 4) (k := 2) F dX3_clear_7 rfl inX3 tyX3 tyX3_ok nmX3 (by decide) q57 rfl rfl (hR.ret hi) (Nat.le_of_ble_eq_true rfl) rfl rfl ?_
  refine x_wd (fun w2 hw2 => ?_)
  have hO : Oth Z K w w2 := hO.trans (by rw [hw2]; exact Oth.set (kind := 11) (idx := i) hi _) rfl
  have hR : Rep Z (kPutV (kPutV K i 6 (-1)) i 7 (-1)) J w2 := by rw [hw2]; exact hR.putR hi 7 (by decide) _ (by first | (simp [obj, kV_put, kC_put, kG_put, kCV_put, kC_ofCV, kV_ofCV, kCV_ofC, kCV_ofV]; done) | (simp [obj, kV_put, kC_put, kG_put, kCV_put, kC_ofCV, kV_ofCV, kCV_ofC, kCV_ofV]; exact ⟨rfl, rfl⟩) | (simp [obj, kV_put, kC_put, kG_put, kCV_put, kC_ofCV, kV_ofCV, kCV_ofC, kCV_ofV]; rfl) | (simp [obj, kV_put, kC_put, kG_put, kCV_put, kC_ofCV, kV_ofCV, kCV_ofC, kCV_ofV]; and_intros <;> rfl))
  refine x_aload_n F dX3_clear_10 rfl rfl ?_
  refine x_iconst (v := 0) F dX3_clear_11 (by decide) ?_
  refine x_put (ci := 3) (C := RX3) (T := TX3) (N := 4) (k := 3) F dX3_clear_12 rfl inX3 tyX3 tyX3_ok nmX3 (by decide) q59 rfl rfl (hR.ret hi) (Nat.le_of_ble_eq_true rfl) rfl rfl ?_
  refine x_wd (fun w3 hw3 => ?_)
  have hO : Oth Z K w w3 := hO.trans (by rw [hw3]; exact Oth.set (kind := 11) (idx := i) hi _) rfl
  have hR : Rep Z (kPutV (kPutV (kPutV K i 6 (-1)) i 7 (-1)) i 8 0) J w3 := by rw [hw3]; exact hR.putR hi 8 (by decide) _ (by first | (simp [obj, kV_put, kC_put, kG_put, kCV_put, kC_ofCV, kV_ofCV, kCV_ofC, kCV_ofV]; done) | (simp [obj, kV_put, kC_put, kG_put, kCV_put, kC_ofCV, kV_ofCV, kCV_ofC, kCV_ofV]; exact ⟨rfl, rfl⟩) | (simp [obj, kV_put, kC_put, kG_put, kCV_put, kC_ofCV, kV_ofCV, kCV_ofC, kCV_ofV]; rfl) | (simp [obj, kV_put, kC_put, kG_put, kCV_put, kC_ofCV, kV_ofCV, kCV_ofC, kCV_ofV]; and_intros <;> rfl))
  refine x_aload_n F dX3_clear_15 rfl rfl ?_
  refine x_get (ci := 3) (C := RX3) (T := TX3) (N := 4) (k := 0) F dX3_clear_16 rfl inX3 (by decide) q54 rfl (hR.ret hi) rfl ?_
  refine x_iconst (v := (-1)) F dX3_clear_19 (by decide) ?_
  refine x_cSv2 F dX3_clear_20 (x_gS q51 q52 q4 q53) (c_fill (by decide) (hR.ask hi) (-1)) ⟨rfl, rfl, rfl, xd_J7_fill_53178, ⟨Nat.le_of_ble_eq_true rfl, Nat.le_of_ble_eq_true rfl⟩, Nat.le_of_ble_eq_true rfl, Nat.le_of_ble_eq_true rfl⟩ (Nat.le_of_ble_eq_true rfl) (fun w1 hp => ?_)
  have hO : Oth Z K w w1 := hO.trans (by rw [hp]; exact Oth.set (kind := 12) (idx := i) hi _) rfl
  have hR : Rep Z (f_clearK K i) J w1 := by rw [hp]; exact hR.putVA hi (f_fill 5 (-1) (kVA K i))
  refine x_vret F rfl dX3_clear_23 (Nat.le_refl _) (Nat.le_refl _) ?_
  exact ⟨rfl, J, hR, hO⟩
set_option maxRecDepth 100000 in
set_option maxHeartbeats 4000000 in
theorem c_start (hR : Rep Z K J w) {i : Nat} (hi : vOk K i) (d : Int32) : Cv l D dA B yX3_start wX3_start 2 [.ref (Z 11 i), .int (kG K 0), .int d] w (VM Z K w (f_startK K i d)) := by
  refine x_Ct.of (cc := cX3_start) (maxL := 3) (by decide) rfl (Nat.le_of_ble_eq_true rfl) ?_
  intro p e s m below meth c F
  have tail : ∀ Kc J1 wz, Rep Z Kc J1 wz → Oth Z K w wz → vOk Kc i → kN Kc = kN K → kPutV (kPutV Kc i 6 (kG K 0)) i 7 (kG K 0 + d * 24) = f_startK K i d → X p l e (rmd 2 0 0) s m #[.ref (Z 11 i), .int (kG K 0), .int d] below meth c (MQ below (x_Q D dA vwCl tyL0 B (fun r w1 => r = none ∧ (VM Z K w (f_startK K i d) w1))) #[.ref (Z 11 i), .int (kG K 0), .int d] s 0 0 (fun q => B ≤ q)) D dA vwCl B 3 0 0 4 [(0, .ref (Z 11 i)), (1, .int (kG K 0)), (2, .int d)] [] wz := by
    intro Kc J1 wz hR hO hv hN hT
    refine x_aload_n F dX3_start_4 rfl rfl ?_
    refine x_iload_n F dX3_start_5 rfl rfl ?_
    refine x_put (ci := 3) (C := RX3) (T := TX3) (N := 4) (k := 1) F dX3_start_6 rfl inX3 tyX3 tyX3_ok nmX3 (by decide) q55 rfl rfl (hR.ret hv) (Nat.le_of_ble_eq_true rfl) rfl rfl ?_
    refine x_wd (fun w2 hw2 => ?_)
    have hO : Oth Z K w w2 := hO.trans (K1 := Kc) (by rw [hw2]; exact Oth.set (kind := 11) (idx := i) hv _) hN
    have hR : Rep Z (kPutV Kc i 6 (kG K 0)) J1 w2 := by rw [hw2]; exact hR.putR hv 6 (by decide) _ (by first | (simp [obj, kV_put, kC_put, kG_put, kCV_put, kC_ofCV, kV_ofCV, kCV_ofC, kCV_ofV]; done) | (simp [obj, kV_put, kC_put, kG_put, kCV_put, kC_ofCV, kV_ofCV, kCV_ofC, kCV_ofV]; exact ⟨rfl, rfl⟩) | (simp [obj, kV_put, kC_put, kG_put, kCV_put, kC_ofCV, kV_ofCV, kCV_ofC, kCV_ofV]; rfl) | (simp [obj, kV_put, kC_put, kG_put, kCV_put, kC_ofCV, kV_ofCV, kCV_ofC, kCV_ofV]; and_intros <;> rfl))
    refine x_aload_n F dX3_start_9 rfl rfl ?_
    refine x_iload_n F dX3_start_10 rfl rfl ?_
    refine x_iload_n F dX3_start_11 rfl rfl ?_
    refine x_bipush (v := 24) F dX3_start_12 (by decide) ?_
    refine x_imul F dX3_start_14 ?_
    refine x_iadd F dX3_start_15 ?_
    refine x_put (ci := 3) (C := RX3) (T := TX3) (N := 4) (k := 2) F dX3_start_16 rfl inX3 tyX3 tyX3_ok nmX3 (by decide) q57 rfl rfl (hR.ret hv) (Nat.le_of_ble_eq_true rfl) rfl rfl ?_
    refine x_wd (fun w3 hw3 => ?_)
    have hO : Oth Z K w w3 := hO.trans (K1 := Kc) (by rw [hw3]; exact Oth.set (kind := 11) (idx := i) hv _) hN
    have hR : Rep Z (kPutV (kPutV Kc i 6 (kG K 0)) i 7 (kG K 0 + d * 24)) J1 w3 := by rw [hw3]; exact hR.putR hv 7 (by decide) _ (by first | (simp [obj, kV_put, kC_put, kG_put, kCV_put, kC_ofCV, kV_ofCV, kCV_ofC, kCV_ofV]; done) | (simp [obj, kV_put, kC_put, kG_put, kCV_put, kC_ofCV, kV_ofCV, kCV_ofC, kCV_ofV]; exact ⟨rfl, rfl⟩) | (simp [obj, kV_put, kC_put, kG_put, kCV_put, kC_ofCV, kV_ofCV, kCV_ofC, kCV_ofV]; rfl) | (simp [obj, kV_put, kC_put, kG_put, kCV_put, kC_ofCV, kV_ofCV, kCV_ofC, kCV_ofV]; and_intros <;> rfl))
    refine x_vret F rfl dX3_start_19 (Nat.le_refl _) (Nat.le_refl _) ?_
    exact ⟨rfl, J1, by rw [← hT]; exact hR, hO⟩
  refine x_aload_n F dX3_start_0 rfl rfl ?_
  refine x_cVv0 (ci := 3) (C := RX3) (T := TX3) (N := 4) F dX3_start_1 (x_gV q360 q361 q362 q3 q363) rfl (c_clear hR hi) ⟨rfl, rfl, rfl, xd_X3_clear, ⟨Nat.le_of_ble_eq_true rfl, Nat.le_of_ble_eq_true rfl⟩, Nat.le_of_ble_eq_true rfl, Nat.le_of_ble_eq_true rfl⟩ rfl (hR.ret hi) (Nat.le_of_ble_eq_true rfl) (fun w1 hp => ?_)
  obtain ⟨J1, hR, hO⟩ := hp
  exact x_lk (tail _ _ _ hR hO (vOk_of (kN_clear K i) hi) (kN_clear K i) rfl) ⟨rfl, rfl, rfl, trivial⟩
def f_srT (K : kT) (i : Nat) (n k : Nat) (row : Nat → Int32) (c : Nat) : (Nat → Int32) × Nat := match n with
  | 0 => (row, c)
  | n + 1 => if decide (k < nc K) && f_caller K k i (kG K 0) then f_srT K i n (k + 1) (f_askrow row (kC K k 0) (kG K 0)) (c + (if f_askok row (kC K k 0) then 1 else 0)) else f_srT K i n (k + 1) row c
theorem f_srT_t {K : kT} {i n k : Nat} {row : Nat → Int32} {c : Nat} (h : (decide (k < nc K) && f_caller K k i (kG K 0)) = true) : f_srT K i (n + 1) k row c = f_srT K i n (k + 1) (f_askrow row (kC K k 0) (kG K 0)) (c + (if f_askok row (kC K k 0) then 1 else 0)) := if_pos h
theorem f_srT_f {K : kT} {i n k : Nat} {row : Nat → Int32} {c : Nat} (h : (decide (k < nc K) && f_caller K k i (kG K 0)) = false) : f_srT K i (n + 1) k row c = f_srT K i n (k + 1) row c := if_neg (by rw [h]; decide)
def f_sr (K : kT) (i : Nat) : (Nat → Int32) × Nat := f_srT K i 10 0 (f_fill 5 (-1) (kVA K i)) 0
def f_retK (K : kT) (i : Nat) (d : Int32) : kT := kPutVA (f_startK K i d) i (f_sr K i).1
set_option maxRecDepth 100000 in
set_option maxHeartbeats 4000000 in
theorem c_startRetirement (hR : Rep Z K J w) {i : Nat} (hi : vOk K i) (d : Int32) : Ci l D dA B yX6_startRetirement wX6_startRetirement 3 [.ref (Z 0 0), .ref (Z 10 i), .ref (Z 11 i), .int d] w (QM Z K w (nI (f_sr K i).2) (f_retK K i d)) := by
  refine x_Ct.of (cc := cX6_startRetirement) (maxL := 7) (by decide) rfl (Nat.le_of_ble_eq_true rfl) ?_
  intro p e s m below meth c F
  have loop : ∀ n1 k, k + n1 = 10 → ∀ row c0 Jz wz, Rep Z (kPutVA (f_startK K i d) i row) Jz wz → Oth Z K w wz → f_sr K i = f_srT K i n1 k row c0 → X p l e (rmd 3 0 0) s m #[.ref (Z 0 0), .ref (Z 10 i), .ref (Z 11 i), .int d] below meth c (MQ below (x_Q D dA vwCl tyL0 B (fun r w1 => ∃ v, r = some v ∧ (QM Z K w (nI (f_sr K i).2) (f_retK K i d) v w1))) #[.ref (Z 0 0), .ref (Z 10 i), .ref (Z 11 i), .int d] s 0 0 (fun q => B ≤ q)) D dA vwCl B 7 0 0 15 [(0, .ref (Z 0 0)), (1, .ref (Z 10 i)), (2, .ref (Z 11 i)), (3, .int d), (4, .int (nI c0)), (5, .int (nI k))] [] wz := by
    intro n1
    induction n1 with
    | zero =>
      intro k hk1 row c0 Jz wz hR hO hf
      obtain rfl : k = 10 := by omega
      refine x_iload F dX6_startRetirement_15 rfl ?_
      refine x_aload_n F dX6_startRetirement_17 rfl rfl ?_
      refine x_get (ci := 6) (C := RX6) (T := TX6) (N := 12) (k := 1) F dX6_startRetirement_18 rfl inX6 (by decide) q66 rfl hR.main rfl ?_
      refine x_alen (v := 10) F dX6_startRetirement_21 rfl hR.clients rfl ?_
      refine x_icmp_ge F dX6_startRetirement_22 rfl (fun h22 => ?_) (fun hc => absurd hc (fun q => q (Int32.le_refl _)))
      refine x_iload F dX6_startRetirement_77 rfl ?_
      refine x_iret F rfl rfl dX6_startRetirement_79 (Nat.le_refl _) (Nat.le_refl _) ?_
      exact ⟨_, rfl, Jz, by rw [hf]; rfl, by unfold f_retK; rw [hf]; exact hR, hO⟩
    | succ n1 ih =>
      intro k hk1 row c0 Jz wz hR hO hf
      refine x_iload F dX6_startRetirement_15 rfl ?_
      refine x_aload_n F dX6_startRetirement_17 rfl rfl ?_
      refine x_get (ci := 6) (C := RX6) (T := TX6) (N := 12) (k := 1) F dX6_startRetirement_18 rfl inX6 (by decide) q66 rfl hR.main rfl ?_
      refine x_alen (v := 10) F dX6_startRetirement_21 rfl hR.clients rfl ?_
      refine x_icmp_ge F dX6_startRetirement_22 rfl (fun hc => absurd hc (nI_ge (b := 10) (by omega) (by decide))) (fun h22 => ?_)
      refine x_aload_n F dX6_startRetirement_25 rfl rfl ?_
      refine x_get (ci := 6) (C := RX6) (T := TX6) (N := 12) (k := 1) F dX6_startRetirement_26 rfl inX6 (by decide) q66 rfl hR.main rfl ?_
      refine x_iload F dX6_startRetirement_29 rfl ?_
      refine x_aaldN F dX6_startRetirement_31 rfl hR.clients (by omega) (by decide) ?_
      by_cases hk2 : k < nc K
      · simp only [show nc (kPutVA (f_startK K i d) i row) = nc K from rfl, if_pos hk2]
        refine x_astore F dX6_startRetirement_32 (by decide) ?_
        refine x_aload F dX6_startRetirement_34 rfl ?_
        refine x_ifnull F dX6_startRetirement_36 ?_
        refine x_aload F dX6_startRetirement_39 rfl ?_
        refine x_aload_n F dX6_startRetirement_41 rfl rfl ?_
        refine x_aload_n F dX6_startRetirement_42 rfl rfl ?_
        refine x_get (ci := 6) (C := RX6) (T := TX6) (N := 12) (k := 6) F dX6_startRetirement_43 rfl inX6 (by decide) q71 rfl hR.main rfl ?_
        refine x_cVi2 (ci := 1) (C := RX1) (T := TX1) (N := 8) F dX6_startRetirement_46 (x_gV q186 q187 q188 q13 q189) rfl (c_isCallerOf hR hk2 hi (kG K 0)) ⟨rfl, rfl, rfl, xd_X1_isCallerOf, ⟨Nat.le_of_ble_eq_true rfl, Nat.le_of_ble_eq_true rfl⟩, Nat.le_of_ble_eq_true rfl, Nat.le_of_ble_eq_true rfl⟩ rfl (hR.cli hk2) (Nat.le_of_ble_eq_true rfl) (fun v1 w1 hp => ?_)
        obtain ⟨rfl, hw9⟩ := hp
        replace hw9 := hw9.symm
        subst hw9
        refine x_if_eq F dX6_startRetirement_49 rfl (fun h49 => ?_) (fun h49 => ?_)
        · rw [f_srT_f (by rw [show f_caller K k i (kG K 0) = false from x_b_eq.mp h49, Bool.and_false])] at hf
          refine x_iincN F dX6_startRetirement_71 (by decide) rfl (by decide) ?_
          refine x_goto F dX6_startRetirement_74 rfl ?_
          exact x_lk (ih (k + 1) (by omega) _ _ _ _ hR hO hf) ⟨rfl, rfl, rfl, rfl, rfl, rfl, trivial⟩
        · rw [f_srT_t (by rw [decide_eq_true hk2, show f_caller K k i (kG K 0) = true from x_b_ne.mp h49]; rfl)] at hf
          refine x_aload_n F dX6_startRetirement_52 rfl rfl ?_
          refine x_aload F dX6_startRetirement_53 rfl ?_
          refine x_get (ci := 1) (C := RX1) (T := TX1) (N := 8) (k := 0) F dX6_startRetirement_55 rfl inX1 (by decide) q246 rfl (hR.cli hk2) rfl ?_
          refine x_aload_n F dX6_startRetirement_58 rfl rfl ?_
          refine x_get (ci := 6) (C := RX6) (T := TX6) (N := 12) (k := 6) F dX6_startRetirement_59 rfl inX6 (by decide) q71 rfl hR.main rfl ?_
          refine x_cVi2 (ci := 3) (C := RX3) (T := TX3) (N := 4) F dX6_startRetirement_62 (x_gV q315 q316 q317 q3 q318) rfl (c_ask hR hi (kC K k 0) (kG K 0)) ⟨rfl, rfl, rfl, xd_X3_ask, ⟨Nat.le_of_ble_eq_true rfl, Nat.le_of_ble_eq_true rfl⟩, Nat.le_of_ble_eq_true rfl, Nat.le_of_ble_eq_true rfl⟩ rfl (hR.ret hi) (Nat.le_of_ble_eq_true rfl) (fun v1 w1 hp => ?_)
          obtain ⟨J2, rfl, hR, hO2⟩ := hp
          have hO := hO.trans hO2 rfl
          rw [kVA_put_e, kPutVA_twice] at hR
          rw [kVA_put_e]
          refine x_if_eq F dX6_startRetirement_65 rfl (fun h65 => ?_) (fun h65 => ?_)
          · rw [x_b_eq.mp h65, if_neg (by decide), Nat.add_zero] at hf
            refine x_iincN F dX6_startRetirement_71 (by decide) rfl (by decide) ?_
            refine x_goto F dX6_startRetirement_74 rfl ?_
            exact x_lk (ih (k + 1) (by omega) _ _ _ _ hR hO hf) ⟨rfl, rfl, rfl, rfl, rfl, rfl, trivial⟩
          · rw [x_b_ne.mp h65, if_pos rfl] at hf
            refine x_iincN F dX6_startRetirement_68 (by decide) rfl (by decide) ?_
            refine x_iincN F dX6_startRetirement_71 (by decide) rfl (by decide) ?_
            refine x_goto F dX6_startRetirement_74 rfl ?_
            exact x_lk (ih (k + 1) (by omega) _ _ _ _ hR hO hf) ⟨rfl, rfl, rfl, rfl, rfl, rfl, trivial⟩
      · simp only [show nc (kPutVA (f_startK K i d) i row) = nc K from rfl, if_neg hk2]
        rw [f_srT_f (by rw [decide_eq_false hk2]; rfl)] at hf
        refine x_astoreN F dX6_startRetirement_32 (by decide) ?_
        refine x_aloadN F dX6_startRetirement_34 rfl ?_
        refine x_ifnullN F dX6_startRetirement_36 rfl ?_
        refine x_iincN F dX6_startRetirement_71 (by decide) rfl (by decide) ?_
        refine x_goto F dX6_startRetirement_74 rfl ?_
        exact x_lk (ih (k + 1) (by omega) _ _ _ _ hR hO hf) ⟨rfl, rfl, rfl, rfl, rfl, rfl, trivial⟩
  refine x_aload_n F dX6_startRetirement_0 rfl rfl ?_
  refine x_aload_n F dX6_startRetirement_1 rfl rfl ?_
  refine x_get (ci := 6) (C := RX6) (T := TX6) (N := 12) (k := 6) F dX6_startRetirement_2 rfl inX6 (by decide) q71 rfl hR.main rfl ?_
  refine x_iload_n F dX6_startRetirement_5 rfl rfl ?_
  refine x_cVv2 (ci := 3) (C := RX3) (T := TX3) (N := 4) F dX6_startRetirement_6 (x_gV q356 q357 q358 q3 q359) rfl (c_start hR hi d) ⟨rfl, rfl, rfl, xd_X3_start, ⟨Nat.le_of_ble_eq_true rfl, Nat.le_of_ble_eq_true rfl⟩, Nat.le_of_ble_eq_true rfl, Nat.le_of_ble_eq_true rfl⟩ rfl (hR.ret hi) (Nat.le_of_ble_eq_true rfl) (fun w1 hp => ?_)
  obtain ⟨J1, hR, hO⟩ := hp
  have hR : Rep Z (kPutVA (f_startK K i d) i (f_fill 5 (-1) (kVA K i))) J1 w1 := by rw [show f_fill 5 (-1) (kVA K i) = kVA (f_startK K i d) i from (kVA_put_e (K := kPutV (kPutV (kPutV K i 6 (-1)) i 7 (-1)) i 8 0)).symm, kPutVA_self]; exact hR
  refine x_iconst (v := 0) F dX6_startRetirement_9 (by decide) ?_
  refine x_istore F dX6_startRetirement_10 (by decide) ?_
  refine x_iconst (v := 0) F dX6_startRetirement_12 (by decide) ?_
  refine x_istore F dX6_startRetirement_13 (by decide) ?_
  exact x_lk (loop 10 0 (by omega) _ 0 J1 w1 hR hO rfl) ⟨rfl, rfl, rfl, rfl, rfl, rfl, trivial⟩
set_option maxRecDepth 100000 in
set_option maxHeartbeats 4000000 in
theorem c_retire (hR : Rep Z K J w) {f k : Nat} (hi : vOk K (6 * f + k)) (hk : k < 6) {d : Int32} (hd1 : ¬ d < 1) (hd9 : d ≤ 9) (hs : kV K (6 * f + k) 2 = 0) : Ci l D dA B yX6_retire wX6_retire 4 [.ref (Z 0 0), .int (nI f), .int (nI k), .int d] w (QM Z K w (nI (f_sr (kPutV K (6 * f + k) 2 1) (6 * f + k)).2) (f_retK (kPutV K (6 * f + k) 2 1) (6 * f + k) d)) := by
  refine x_Ct.of (cc := cX6_retire) (maxL := 5) (by decide) rfl (Nat.le_of_ble_eq_true rfl) ?_
  intro p e s m below meth c F
  have hO : Oth Z K w w := Oth.rfl
  refine x_aload_n F dX6_retire_0 rfl rfl ?_
  refine x_iload_n F dX6_retire_1 rfl rfl ?_
  refine x_iload_n F dX6_retire_2 rfl rfl ?_
  refine x_cVi2 (ci := 6) (C := RX6) (T := TX6) (N := 12) F dX6_retire_3 (x_gV q177 q178 q449 q1 q179) rfl (c_versionAt hR (nI f) (nI k)) ⟨rfl, rfl, rfl, xd_X6_versionAt, ⟨Nat.le_of_ble_eq_true rfl, Nat.le_of_ble_eq_true rfl⟩, Nat.le_of_ble_eq_true rfl, Nat.le_of_ble_eq_true rfl⟩ rfl hR.main (Nat.le_of_ble_eq_true rfl) (fun v1 w1 hp => ?_)
  obtain ⟨rfl, hw9⟩ := hp
  replace hw9 := hw9.symm
  subst hw9
  rw [verAt_some hR hi hk]
  refine x_astore F dX6_retire_6 (by decide) ?_
  refine x_aload F dX6_retire_8 rfl ?_
  refine x_ifnonnull F dX6_retire_10 rfl ?_
  refine x_iload_n F dX6_retire_23 rfl rfl ?_
  refine x_iconst (v := 1) F dX6_retire_24 (by decide) ?_
  refine x_icmp_lt F dX6_retire_25 rfl (fun hc => absurd hc hd1) (fun h25 => ?_)
  refine x_iload_n F dX6_retire_28 rfl rfl ?_
  refine x_bipush (v := 9) F dX6_retire_29 (by decide) ?_
  refine x_icmp_le F dX6_retire_31 rfl (fun h31 => ?_) (fun hc => absurd hc (fun q => q hd9))
  refine x_aload F dX6_retire_44 rfl ?_
  refine x_get (ci := 5) (C := RX5) (T := TX5) (N := 9) (k := 5) F dX6_retire_46 rfl inX5 (by decide) q149 rfl (hR.ver hi) rfl ?_
  refine x_if_eq F dX6_retire_49 rfl (fun h49 => ?_) (fun hc => absurd hc (fun q => q hs))
  refine x_aload F dX6_retire_62 rfl ?_
  refine x_iconst (v := 1) F dX6_retire_64 (by decide) ?_
  refine x_put (ci := 5) (C := RX5) (T := TX5) (N := 9) (k := 5) F dX6_retire_65 rfl inX5 tyX5 tyX5_ok nmX5 (by decide) q149 rfl rfl (hR.ver hi) (Nat.le_of_ble_eq_true rfl) rfl rfl ?_
  refine x_wd (fun w2 hw2 => ?_)
  have hO : Oth Z K w w2 := hO.trans (by rw [hw2]; exact Oth.set (kind := 10) (idx := (6 * f + k)) hi _) rfl
  have hR : Rep Z (kPutV K (6 * f + k) 2 1) J w2 := by rw [hw2]; exact hR.putV hi 2 (by decide) _ (by first | (simp [obj, kV_put, kC_put, kG_put, kCV_put, kC_ofCV, kV_ofCV, kCV_ofC, kCV_ofV]; done) | (simp [obj, kV_put, kC_put, kG_put, kCV_put, kC_ofCV, kV_ofCV, kCV_ofC, kCV_ofV]; exact ⟨rfl, rfl⟩) | (simp [obj, kV_put, kC_put, kG_put, kCV_put, kC_ofCV, kV_ofCV, kCV_ofC, kCV_ofV]; rfl) | (simp [obj, kV_put, kC_put, kG_put, kCV_put, kC_ofCV, kV_ofCV, kCV_ofC, kCV_ofV]; and_intros <;> rfl))
  refine x_aload_n F dX6_retire_68 rfl rfl ?_
  refine x_aload F dX6_retire_69 rfl ?_
  refine x_aload F dX6_retire_71 rfl ?_
  refine x_get (ci := 5) (C := RX5) (T := TX5) (N := 9) (k := 4) F dX6_retire_73 rfl inX5 (by decide) q147 rfl (hR.ver hi) rfl ?_
  refine x_iload_n F dX6_retire_76 rfl rfl ?_
  refine x_cVi3 (ci := 6) (C := RX6) (T := TX6) (N := 12) F dX6_retire_77 (x_gV q353 q354 q462 q1 q355) rfl (c_startRetirement hR hi d) ⟨rfl, rfl, rfl, xd_X6_startRetirement, ⟨Nat.le_of_ble_eq_true rfl, Nat.le_of_ble_eq_true rfl⟩, Nat.le_of_ble_eq_true rfl, Nat.le_of_ble_eq_true rfl⟩ rfl hR.main (Nat.le_of_ble_eq_true rfl) (fun v1 w1 hp => ?_)
  obtain ⟨J2, rfl, hR, hO2⟩ := hp
  have hO := hO.trans hO2 rfl
  refine x_iret F rfl rfl dX6_retire_80 (Nat.le_refl _) (Nat.le_refl _) ?_
  exact ⟨_, rfl, J2, rfl, hR, hO⟩
set_option maxRecDepth 100000 in
set_option maxHeartbeats 4000000 in
theorem c_answer (hR : Rep Z K J w) {f k : Nat} (hi : vOk K (6 * f + k)) (hk : k < 6) {o : Int32} (ho : f_owner o = true) (hs : kV K (6 * f + k) 2 = 1) (ha : ¬ f_asked (kVA K (6 * f + k)) o = -1) : Ci l D dA B yX6_answer wX6_answer 3 [.ref (Z 0 0), .int o, .int (nI f), .int (nI k)] w (QM Z K w (x_b (f_warned (kVA K (6 * f + k)) (kV K (6 * f + k) 8) o (kG K 0))) (kPutV K (6 * f + k) 8 (kV K (6 * f + k) 8 ||| (1 <<< (o &&& 31))))) := by
  refine x_Ct.of (cc := cX6_answer) (maxL := 6) (by decide) rfl (Nat.le_of_ble_eq_true rfl) ?_
  intro p e s m below meth c F
  have hO : Oth Z K w w := Oth.rfl
  refine x_aload_n F dX6_answer_0 rfl rfl ?_
  refine x_iload_n F dX6_answer_1 rfl rfl ?_
  refine x_iload_n F dX6_answer_2 rfl rfl ?_
  refine x_cVi2 (ci := 6) (C := RX6) (T := TX6) (N := 12) F dX6_answer_3 (x_gV q177 q178 q449 q1 q179) rfl (c_versionAt hR (nI f) (nI k)) ⟨rfl, rfl, rfl, xd_X6_versionAt, ⟨Nat.le_of_ble_eq_true rfl, Nat.le_of_ble_eq_true rfl⟩, Nat.le_of_ble_eq_true rfl, Nat.le_of_ble_eq_true rfl⟩ rfl hR.main (Nat.le_of_ble_eq_true rfl) (fun v1 w1 hp => ?_)
  obtain ⟨rfl, hw9⟩ := hp
  replace hw9 := hw9.symm
  subst hw9
  rw [verAt_some hR hi hk]
  refine x_astore F dX6_answer_6 (by decide) ?_
  refine x_aload F dX6_answer_8 rfl ?_
  refine x_ifnull F dX6_answer_10 ?_
  refine x_iload_n F dX6_answer_13 rfl rfl ?_
  refine x_cSi1 F dX6_answer_14 (x_gS q236 q237 q1 q238) (c_isOwner o) ⟨rfl, rfl, rfl, xd_X6_isOwner, ⟨Nat.le_of_ble_eq_true rfl, Nat.le_of_ble_eq_true rfl⟩, Nat.le_of_ble_eq_true rfl, Nat.le_of_ble_eq_true rfl⟩ (Nat.le_of_ble_eq_true rfl) (fun v1 w1 hp => ?_)
  obtain ⟨rfl, hw9⟩ := hp
  replace hw9 := hw9.symm
  subst hw9
  refine x_if_ne F dX6_answer_17 rfl (fun h17 => ?_) (fun hc => absurd hc (by rw [ho]; decide))
  refine x_aload F dX6_answer_30 rfl ?_
  refine x_get (ci := 5) (C := RX5) (T := TX5) (N := 9) (k := 5) F dX6_answer_32 rfl inX5 (by decide) q149 rfl (hR.ver hi) rfl ?_
  refine x_iconst (v := 1) F dX6_answer_35 (by decide) ?_
  refine x_icmp_ne F dX6_answer_36 rfl (fun hc => absurd hc (fun q => q hs)) (fun h36 => ?_)
  refine x_aload F dX6_answer_39 rfl ?_
  refine x_get (ci := 5) (C := RX5) (T := TX5) (N := 9) (k := 4) F dX6_answer_41 rfl inX5 (by decide) q147 rfl (hR.ver hi) rfl ?_
  refine x_iload_n F dX6_answer_44 rfl rfl ?_
  refine x_cVi1 (ci := 3) (C := RX3) (T := TX3) (N := 4) F dX6_answer_45 (x_gV q368 q202 q203 q3 q204) rfl (c_askedAtOf (hR.ret hi) (hR.ask hi) o) ⟨rfl, rfl, rfl, xd_X3_askedAtOf, ⟨Nat.le_of_ble_eq_true rfl, Nat.le_of_ble_eq_true rfl⟩, Nat.le_of_ble_eq_true rfl, Nat.le_of_ble_eq_true rfl⟩ rfl (hR.ret hi) (Nat.le_of_ble_eq_true rfl) (fun v1 w1 hp => ?_)
  obtain ⟨rfl, hw9⟩ := hp
  replace hw9 := hw9.symm
  subst hw9
  refine x_iconst (v := (-1)) F dX6_answer_48 (by decide) ?_
  refine x_icmp_ne F dX6_answer_49 rfl (fun h49 => ?_) (fun hc => absurd hc ha)
  refine x_aload F dX6_answer_62 rfl ?_
  refine x_get (ci := 5) (C := RX5) (T := TX5) (N := 9) (k := 4) F dX6_answer_64 rfl inX5 (by decide) q147 rfl (hR.ver hi) rfl ?_
  refine x_iload_n F dX6_answer_67 rfl rfl ?_
  refine x_aload_n F dX6_answer_68 rfl rfl ?_
  refine x_get (ci := 6) (C := RX6) (T := TX6) (N := 12) (k := 6) F dX6_answer_69 rfl inX6 (by decide) q71 rfl hR.main rfl ?_
  refine x_cVi2 (ci := 3) (C := RX3) (T := TX3) (N := 4) F dX6_answer_72 (x_gV q197 q198 q199 q3 q200) rfl (c_isWarned (hR.ret hi) (hR.ask hi) o (kG K 0)) ⟨rfl, rfl, rfl, xd_X3_isWarned, ⟨Nat.le_of_ble_eq_true rfl, Nat.le_of_ble_eq_true rfl⟩, Nat.le_of_ble_eq_true rfl, Nat.le_of_ble_eq_true rfl⟩ rfl (hR.ret hi) (Nat.le_of_ble_eq_true rfl) (fun v1 w1 hp => ?_)
  obtain ⟨rfl, hw9⟩ := hp
  replace hw9 := hw9.symm
  subst hw9
  refine x_istore F dX6_answer_75 (by decide) ?_
  refine x_aload F dX6_answer_77 rfl ?_
  refine x_get (ci := 5) (C := RX5) (T := TX5) (N := 9) (k := 4) F dX6_answer_79 rfl inX5 (by decide) q147 rfl (hR.ver hi) rfl ?_
  refine x_dup F dX6_answer_82 rfl ?_
  refine x_get (ci := 3) (C := RX3) (T := TX3) (N := 4) (k := 3) F dX6_answer_83 rfl inX3 (by decide) q60 rfl (hR.ret hi) rfl ?_
  refine x_iconst (v := 1) F dX6_answer_86 (by decide) ?_
  refine x_iload_n F dX6_answer_87 rfl rfl ?_
  refine x_ishl F dX6_answer_88 ?_
  refine x_ior F dX6_answer_89 ?_
  refine x_put (ci := 3) (C := RX3) (T := TX3) (N := 4) (k := 3) F dX6_answer_90 rfl inX3 tyX3 tyX3_ok nmX3 (by decide) q60 rfl rfl (hR.ret hi) (Nat.le_of_ble_eq_true rfl) rfl rfl ?_
  refine x_wd (fun w2 hw2 => ?_)
  have hO : Oth Z K w w2 := hO.trans (by rw [hw2]; exact Oth.set (kind := 11) (idx := (6 * f + k)) hi _) rfl
  have hR : Rep Z (kPutV K (6 * f + k) 8 (kV K (6 * f + k) 8 ||| (1 <<< (o &&& 31)))) J w2 := by rw [hw2]; exact hR.putR hi 8 (by decide) _ (by first | (simp [obj, kV_put, kC_put, kG_put, kCV_put, kC_ofCV, kV_ofCV, kCV_ofC, kCV_ofV]; done) | (simp [obj, kV_put, kC_put, kG_put, kCV_put, kC_ofCV, kV_ofCV, kCV_ofC, kCV_ofV]; exact ⟨rfl, rfl⟩) | (simp [obj, kV_put, kC_put, kG_put, kCV_put, kC_ofCV, kV_ofCV, kCV_ofC, kCV_ofV]; rfl) | (simp [obj, kV_put, kC_put, kG_put, kCV_put, kC_ofCV, kV_ofCV, kCV_ofC, kCV_ofV]; and_intros <;> rfl))
  refine x_iload F dX6_answer_93 rfl ?_
  refine x_iret F rfl x_b_nar dX6_answer_95 (Nat.le_refl _) (Nat.le_refl _) ?_
  exact ⟨_, rfl, J, rfl, hR, hO⟩
theorem Rep.putCV (h : Rep Z K J w) {k v : Nat} (hk : k < nc K) (hv : vOk K v) (hf : v / 6 = kCV K k / 6) {c : xE} (hc : c = obj Z (kPutCV K k v) J 13 k) : Rep Z (kPutCV K k v) J (x_set w (Z 13 k) c) := by
  subst hc
  refine ⟨fun k2 i2 h2 => ?_, fun k1 i1 k2 i2 h1 h2 e => h.2.1 k1 i1 k2 i2 h1 h2 e, ?_⟩
  · by_cases hc : k2 = 13 ∧ i2 = k
    · obtain ⟨rfl, rfl⟩ := hc
      exact x_set_eq _ _ _
    · rw [x_set_ne _ _ (fun e => hc (h.inj (k2 := 13) (i2 := k) h2 hk e)), h.1 _ _ h2]
      rcases k2 with _ | _ | _ | _ | _ | _ | _ | _ | _ | _ | _ | _ | _ | _ | _ | _ | k2
      all_goals first
        | rfl
        | (have hi2 : ¬ i2 = k := fun e => hc ⟨rfl, e⟩
           simp [obj, kCV_put, hi2]; exact ⟨rfl, rfl, rfl, rfl⟩)
        | (have hi2 : ¬ i2 = k := fun e => hc ⟨rfl, e⟩
           simp [obj, kCV_put, hi2]; rfl)
        | (have hi2 : ¬ i2 = k := fun e => hc ⟨rfl, e⟩
           simp [obj, kCV_put, hi2]; and_intros <;> rfl)
  · obtain ⟨a1, a2, a3, a4, a5, a6⟩ := h.2.2
    refine ⟨a1, a2, a3, a4, fun q hq => ?_, a6⟩
    rw [kCV_put]
    by_cases e : q = k
    · rw [if_pos e]; exact hv
    · rw [if_neg e]; exact a5 q hq
set_option maxRecDepth 100000 in
set_option maxHeartbeats 4000000 in
theorem c_again (hR : Rep Z K J w) {k n : Nat} (hk : k < nc K) (hi : vOk K (6 * (kCV K k / 6) + n)) (hn : n < 6) (hs : kV K (6 * (kCV K k / 6) + n) 2 = 0) : Ci l D dA B yX6_again wX6_again 2 [.ref (Z 0 0), .int (nI k), .int (nI n)] w (QM Z K w (f_again (kV K (6 * (kCV K k / 6) + n) 0) (kV K (6 * (kCV K k / 6) + n) 1) (kC K k 1)) (kPutCV (kPutC K k 1 (f_again (kV K (6 * (kCV K k / 6) + n) 0) (kV K (6 * (kCV K k / 6) + n) 1) (kC K k 1))) k (6 * (kCV K k / 6) + n))) := by
  refine x_Ct.of (cc := cX6_again) (maxL := 5) (by decide) rfl (Nat.le_of_ble_eq_true rfl) ?_
  intro p e s m below meth c F
  have hO : Oth Z K w w := Oth.rfl
  refine x_aload_n F dX6_again_0 rfl rfl ?_
  refine x_iload_n F dX6_again_1 rfl rfl ?_
  refine x_cVi1 (ci := 6) (C := RX6) (T := TX6) (N := 12) F dX6_again_2 (x_gV q272 q273 q456 q1 q274) rfl (c_clientAt hR (nI k)) ⟨rfl, rfl, rfl, xd_X6_clientAt, ⟨Nat.le_of_ble_eq_true rfl, Nat.le_of_ble_eq_true rfl⟩, Nat.le_of_ble_eq_true rfl, Nat.le_of_ble_eq_true rfl⟩ rfl hR.main (Nat.le_of_ble_eq_true rfl) (fun v1 w1 hp => ?_)
  obtain ⟨rfl, hw9⟩ := hp
  replace hw9 := hw9.symm
  subst hw9
  rw [cliAt_some hR hk]
  refine x_astore_n F dX6_again_5 rfl (by decide) ?_
  refine x_aload_n F dX6_again_6 rfl rfl ?_
  refine x_ifnonnull F dX6_again_7 rfl ?_
  refine x_aload_n F dX6_again_14 rfl rfl ?_
  refine x_get (ci := 1) (C := RX1) (T := TX1) (N := 8) (k := 1) F dX6_again_15 rfl inX1 (by decide) q248 rfl (hR.cli hk) rfl ?_
  refine x_iload_n F dX6_again_18 rfl rfl ?_
  refine x_cVi1 (ci := 2) (C := RX2) (T := TX2) (N := 3) F dX6_again_19 (x_gV q165 q166 q167 q9 q168) rfl (c_fVersionAt hR (hR.cv hk).1 (nI n)) ⟨rfl, rfl, rfl, xd_X2_versionAt, ⟨Nat.le_of_ble_eq_true rfl, Nat.le_of_ble_eq_true rfl⟩, Nat.le_of_ble_eq_true rfl, Nat.le_of_ble_eq_true rfl⟩ rfl (hR.face (hR.cv hk).1) (Nat.le_of_ble_eq_true rfl) (fun v1 w1 hp => ?_)
  obtain ⟨rfl, hw9⟩ := hp
  replace hw9 := hw9.symm
  subst hw9
  rw [fverAt_some hi hn]
  refine x_astore F dX6_again_22 (by decide) ?_
  refine x_aload_n F dX6_again_24 rfl rfl ?_
  refine x_ifnull F dX6_again_25 ?_
  refine x_aload F dX6_again_28 rfl ?_
  refine x_ifnonnull F dX6_again_30 rfl ?_
  refine x_aload F dX6_again_43 rfl ?_
  refine x_get (ci := 5) (C := RX5) (T := TX5) (N := 9) (k := 5) F dX6_again_45 rfl inX5 (by decide) q149 rfl (hR.ver hi) rfl ?_
  refine x_if_eq F dX6_again_48 rfl (fun h48 => ?_) (fun hc => absurd hc (fun q => q hs))
  refine x_aload_n F dX6_again_61 rfl rfl ?_
  refine x_aload F dX6_again_62 rfl ?_
  refine x_aload_n F dX6_again_64 rfl rfl ?_
  refine x_get (ci := 1) (C := RX1) (T := TX1) (N := 8) (k := 5) F dX6_again_65 rfl inX1 (by decide) q255 rfl (hR.cli hk) rfl ?_
  refine x_cVi1 (ci := 5) (C := RX5) (T := TX5) (N := 9) F dX6_again_68 (x_gV q275 q276 q277 q12 q278) rfl (c_usesAgain hR hi (kC K k 1)) ⟨rfl, rfl, rfl, xd_X5_usesAgain, ⟨Nat.le_of_ble_eq_true rfl, Nat.le_of_ble_eq_true rfl⟩, Nat.le_of_ble_eq_true rfl, Nat.le_of_ble_eq_true rfl⟩ rfl (hR.ver hi) (Nat.le_of_ble_eq_true rfl) (fun v1 w1 hp => ?_)
  obtain ⟨rfl, hw9⟩ := hp
  replace hw9 := hw9.symm
  subst hw9
  refine x_put (ci := 1) (C := RX1) (T := TX1) (N := 8) (k := 5) F dX6_again_71 rfl inX1 tyX1 tyX1_ok nmX1 (by decide) q255 rfl rfl (hR.cli hk) (Nat.le_of_ble_eq_true rfl) rfl rfl ?_
  refine x_wd (fun w2 hw2 => ?_)
  have hO : Oth Z K w w2 := hO.trans (by rw [hw2]; exact Oth.set (kind := 13) (idx := k) hk _) rfl
  have hR : Rep Z (kPutC K k 1 (f_again (kV K (6 * (kCV K k / 6) + n) 0) (kV K (6 * (kCV K k / 6) + n) 1) (kC K k 1))) J w2 := by rw [hw2]; exact hR.putC hk 1 _ (by first | (simp [obj, kV_put, kC_put, kG_put, kCV_put, kC_ofCV, kV_ofCV, kCV_ofC, kCV_ofV]; done) | (simp [obj, kV_put, kC_put, kG_put, kCV_put, kC_ofCV, kV_ofCV, kCV_ofC, kCV_ofV]; exact ⟨rfl, rfl⟩) | (simp [obj, kV_put, kC_put, kG_put, kCV_put, kC_ofCV, kV_ofCV, kCV_ofC, kCV_ofV]; rfl) | (simp [obj, kV_put, kC_put, kG_put, kCV_put, kC_ofCV, kV_ofCV, kCV_ofC, kCV_ofV]; and_intros <;> rfl))
  refine x_aload_n F dX6_again_74 rfl rfl ?_
  refine x_aload F dX6_again_75 rfl ?_
  refine x_put (ci := 1) (C := RX1) (T := TX1) (N := 8) (k := 4) F dX6_again_77 rfl inX1 tyX1 tyX1_ok nmX1 (by decide) q253 rfl rfl (hR.cli hk) (Nat.le_of_ble_eq_true rfl) rfl rfl ?_
  refine x_wd (fun w3 hw3 => ?_)
  have hO : Oth Z K w w3 := hO.trans (by rw [hw3]; exact Oth.set (kind := 13) (idx := k) hk _) rfl
  have hR : Rep Z (kPutCV (kPutC K k 1 (f_again (kV K (6 * (kCV K k / 6) + n) 0) (kV K (6 * (kCV K k / 6) + n) 1) (kC K k 1))) k (6 * (kCV K k / 6) + n)) J w3 := by rw [hw3]; exact hR.putCV hk hi (show (6 * (kCV K k / 6) + n) / 6 = kCV K k / 6 by omega) (by simp [obj, kC_put, kCV_put, kC_ofCV, show (6 * (kCV K k / 6) + n) / 6 = kCV K k / 6 by omega]; and_intros <;> rfl)
  refine x_aload_n F dX6_again_80 rfl rfl ?_
  refine x_get (ci := 1) (C := RX1) (T := TX1) (N := 8) (k := 5) F dX6_again_81 rfl inX1 (by decide) q255 rfl (hR.cli hk) rfl ?_
  refine x_iret F rfl rfl dX6_again_84 (Nat.le_refl _) (Nat.le_refl _) ?_
  exact ⟨_, rfl, J, congrArg Value.int (kC_put_e (K := K)), hR, hO⟩
set_option maxRecDepth 100000 in
set_option maxHeartbeats 4000000 in
theorem c_call1 (hR : Rep Z K J w) {k : Nat} (hk : k < nc K) : Ci l D dA B yX6_call wX6_call 8 [.ref (Z 0 0), .int (nI k), .int 1] w (QM Z K w (x_b (f_svb K k)) (f_serve K k)) := by
  refine x_Ct.of (cc := cX6_call) (maxL := 6) (by decide) rfl (Nat.le_of_ble_eq_true rfl) ?_
  intro p e s m below meth c F
  refine x_aload_n F dX6_call_0 rfl rfl ?_
  refine x_iload_n F dX6_call_1 rfl rfl ?_
  refine x_cVi1 (ci := 6) (C := RX6) (T := TX6) (N := 12) F dX6_call_2 (x_gV q272 q273 q456 q1 q274) rfl (c_clientAt hR (nI k)) ⟨rfl, rfl, rfl, xd_X6_clientAt, ⟨Nat.le_of_ble_eq_true rfl, Nat.le_of_ble_eq_true rfl⟩, Nat.le_of_ble_eq_true rfl, Nat.le_of_ble_eq_true rfl⟩ rfl hR.main (Nat.le_of_ble_eq_true rfl) (fun v1 w1 hp => ?_)
  obtain ⟨rfl, hw9⟩ := hp
  replace hw9 := hw9.symm
  subst hw9
  rw [cliAt_some hR hk]
  refine x_astore_n F dX6_call_5 rfl (by decide) ?_
  refine x_aload_n F dX6_call_6 rfl rfl ?_
  refine x_ifnonnull F dX6_call_7 rfl ?_
  refine x_iload_n F dX6_call_20 rfl rfl ?_
  refine x_iconst (v := 1) F dX6_call_21 (by decide) ?_
  refine x_icmp_lt F dX6_call_22 rfl (fun hc => absurd hc (by decide)) (fun _ => ?_)
  refine x_iload_n F dX6_call_25 rfl rfl ?_
  refine x_bipush (v := 20) F dX6_call_26 (by decide) ?_
  refine x_icmp_le F dX6_call_28 rfl (fun _ => ?_) (fun hc => absurd hc (by decide))
  refine x_iconst (v := 0) F dX6_call_41 (by decide) ?_
  refine x_istore F dX6_call_42 (by decide) ?_
  refine x_iconst (v := 0) F dX6_call_44 (by decide) ?_
  refine x_istore F dX6_call_45 (by decide) ?_
  refine x_iload F dX6_call_47 rfl ?_
  refine x_iload_n F dX6_call_49 rfl rfl ?_
  refine x_icmp_ge F dX6_call_50 rfl (fun hc => absurd hc (by decide)) (fun _ => ?_)
  refine x_aload_n F dX6_call_53 rfl rfl ?_
  refine x_aload_n F dX6_call_54 rfl rfl ?_
  refine x_cVi1 (ci := 6) (C := RX6) (T := TX6) (N := 12) F dX6_call_55 (x_gV q312 q313 q459 q1 q314) rfl (c_isServedCall hR hk) ⟨rfl, rfl, rfl, xd_X6_isServedCall, ⟨Nat.le_of_ble_eq_true rfl, Nat.le_of_ble_eq_true rfl⟩, Nat.le_of_ble_eq_true rfl, Nat.le_of_ble_eq_true rfl⟩ rfl hR.main (Nat.le_of_ble_eq_true rfl) (fun v1 w1 hp => ?_)
  obtain ⟨J2, rfl, hR, hO⟩ := hp
  refine x_if_eq F dX6_call_58 rfl (fun h58 => ?_) (fun h58 => ?_)
  · have g := x_b_eq.mp h58
    refine x_iinc (v := 1) F dX6_call_64 (by decide) rfl (by decide) ?_
    refine x_goto F dX6_call_67 rfl ?_
    refine x_iload F dX6_call_47 rfl ?_
    refine x_iload_n F dX6_call_49 rfl rfl ?_
    refine x_icmp_ge F dX6_call_50 rfl (fun _ => ?_) (fun hc => absurd hc (by decide))
    refine x_iload F dX6_call_70 rfl ?_
    refine x_iret F rfl rfl dX6_call_72 (Nat.le_refl _) (Nat.le_refl _) ?_
    exact ⟨_, rfl, J2, by rw [g]; rfl, hR, hO⟩
  · have g := x_b_ne.mp h58
    refine x_iinc (v := 1) F dX6_call_61 (by decide) rfl (by decide) ?_
    refine x_iinc (v := 1) F dX6_call_64 (by decide) rfl (by decide) ?_
    refine x_goto F dX6_call_67 rfl ?_
    refine x_iload F dX6_call_47 rfl ?_
    refine x_iload_n F dX6_call_49 rfl rfl ?_
    refine x_icmp_ge F dX6_call_50 rfl (fun _ => ?_) (fun hc => absurd hc (by decide))
    refine x_iload F dX6_call_70 rfl ?_
    refine x_iret F rfl rfl dX6_call_72 (Nat.le_refl _) (Nat.le_refl _) ?_
    exact ⟨_, rfl, J2, by rw [g]; rfl, hR, hO⟩
def f_endK (K : kT) (i : Nat) : kT := if f_cnt (p_hin K i (kG K 0) false) 10 = 0 then kPutV K i 2 2 else kPutV (kPutV K i 7 (kV K i 7 + 24)) i 3 (kV K i 3 + 1)
theorem f_endK_N (K : kT) (i : Nat) : kN (f_endK K i) = kN K := by unfold f_endK; split <;> rfl
set_option maxRecDepth 100000 in
set_option maxHeartbeats 4000000 in
theorem c_isGoneAtEnd (hR : Rep Z K J w) {i : Nat} (hi : vOk K i) : Ci l D dA B yX6_isGoneAtEnd wX6_isGoneAtEnd 8 [.ref (Z 0 0), .ref (Z 10 i)] w (QM Z K w (x_b (decide (f_cnt (p_hin K i (kG K 0) false) 10 = 0))) (f_endK K i)) := by
  refine x_Ct.of (cc := cX6_isGoneAtEnd) (maxL := 2) (by decide) rfl (Nat.le_of_ble_eq_true rfl) ?_
  intro p e s m below meth c F
  refine x_aload_n F dX6_isGoneAtEnd_0 rfl rfl ?_
  refine x_aload_n F dX6_isGoneAtEnd_1 rfl rfl ?_
  refine x_aload_n F dX6_isGoneAtEnd_2 rfl rfl ?_
  refine x_get (ci := 5) (C := RX5) (T := TX5) (N := 9) (k := 4) F dX6_isGoneAtEnd_3 rfl inX5 (by decide) q147 rfl (hR.ver hi) rfl ?_
  refine x_aload_n F dX6_isGoneAtEnd_6 rfl rfl ?_
  refine x_get (ci := 6) (C := RX6) (T := TX6) (N := 12) (k := 6) F dX6_isGoneAtEnd_7 rfl inX6 (by decide) q71 rfl hR.main rfl ?_
  refine x_iconst (v := 0) F dX6_isGoneAtEnd_10 (by decide) ?_
  refine x_cVi4 (ci := 6) (C := RX6) (T := TX6) (N := 12) F dX6_isGoneAtEnd_11 (x_gV q194 q195 q452 q1 q196) rfl (c_countHinderers hR hi (kG K 0) false) ⟨rfl, rfl, rfl, xd_X6_countHinderers, ⟨Nat.le_of_ble_eq_true rfl, Nat.le_of_ble_eq_true rfl⟩, Nat.le_of_ble_eq_true rfl, Nat.le_of_ble_eq_true rfl⟩ rfl hR.main (Nat.le_of_ble_eq_true rfl) (fun v1 w1 hp => ?_)
  obtain ⟨J2, rfl, hR, hO⟩ := hp
  have hle := f_cnt_le (p_hin K i (kG K 0) false) 10
  refine x_if_ne F dX6_isGoneAtEnd_14 rfl (fun h14 => ?_) (fun h14 => ?_)
  · rw [nI_eq0 (by omega)] at h14
    refine x_aload_n F dX6_isGoneAtEnd_24 rfl rfl ?_
    refine x_get (ci := 5) (C := RX5) (T := TX5) (N := 9) (k := 4) F dX6_isGoneAtEnd_25 rfl inX5 (by decide) q147 rfl (hR.ver hi) rfl ?_
    refine x_dup F dX6_isGoneAtEnd_28 rfl ?_
    refine x_get (ci := 3) (C := RX3) (T := TX3) (N := 4) (k := 2) F dX6_isGoneAtEnd_29 rfl inX3 (by decide) q58 rfl (hR.ret hi) rfl ?_
    refine x_bipush (v := 24) F dX6_isGoneAtEnd_32 (by decide) ?_
    refine x_iadd F dX6_isGoneAtEnd_34 ?_
    refine x_put (ci := 3) (C := RX3) (T := TX3) (N := 4) (k := 2) F dX6_isGoneAtEnd_35 rfl inX3 tyX3 tyX3_ok nmX3 (by decide) q58 rfl rfl (hR.ret hi) (Nat.le_of_ble_eq_true rfl) rfl rfl ?_
    refine x_wd (fun w2 hw2 => ?_)
    have hO : Oth Z K w w2 := hO.trans (by rw [hw2]; exact Oth.set (kind := 11) (idx := i) hi _) rfl
    have hR : Rep Z (kPutV K i 7 (kV K i 7 + 24)) J2 w2 := by rw [hw2]; exact hR.putR hi 7 (by decide) _ (by first | (simp [obj, kV_put, kC_put, kG_put, kCV_put, kC_ofCV, kV_ofCV, kCV_ofC, kCV_ofV]; done) | (simp [obj, kV_put, kC_put, kG_put, kCV_put, kC_ofCV, kV_ofCV, kCV_ofC, kCV_ofV]; exact ⟨rfl, rfl⟩) | (simp [obj, kV_put, kC_put, kG_put, kCV_put, kC_ofCV, kV_ofCV, kCV_ofC, kCV_ofV]; rfl) | (simp [obj, kV_put, kC_put, kG_put, kCV_put, kC_ofCV, kV_ofCV, kCV_ofC, kCV_ofV]; and_intros <;> rfl))
    refine x_aload_n F dX6_isGoneAtEnd_38 rfl rfl ?_
    refine x_dup F dX6_isGoneAtEnd_39 rfl ?_
    refine x_get (ci := 5) (C := RX5) (T := TX5) (N := 9) (k := 6) F dX6_isGoneAtEnd_40 rfl inX5 (by decide) q150 rfl (hR.ver hi) rfl ?_
    rw [kV_put_j (by decide)]
    refine x_iconst (v := 1) F dX6_isGoneAtEnd_43 (by decide) ?_
    refine x_iadd F dX6_isGoneAtEnd_44 ?_
    refine x_put (ci := 5) (C := RX5) (T := TX5) (N := 9) (k := 6) F dX6_isGoneAtEnd_45 rfl inX5 tyX5 tyX5_ok nmX5 (by decide) q150 rfl rfl (hR.ver hi) (Nat.le_of_ble_eq_true rfl) rfl rfl ?_
    refine x_wd (fun w3 hw3 => ?_)
    have hO : Oth Z K w w3 := hO.trans (by rw [hw3]; exact Oth.set (kind := 10) (idx := i) hi _) rfl
    have hR : Rep Z (kPutV (kPutV K i 7 (kV K i 7 + 24)) i 3 (kV K i 3 + 1)) J2 w3 := by rw [hw3]; exact hR.putV hi 3 (by decide) _ (by first | (simp [obj, kV_put, kC_put, kG_put, kCV_put, kC_ofCV, kV_ofCV, kCV_ofC, kCV_ofV]; done) | (simp [obj, kV_put, kC_put, kG_put, kCV_put, kC_ofCV, kV_ofCV, kCV_ofC, kCV_ofV]; exact ⟨rfl, rfl⟩) | (simp [obj, kV_put, kC_put, kG_put, kCV_put, kC_ofCV, kV_ofCV, kCV_ofC, kCV_ofV]; rfl) | (simp [obj, kV_put, kC_put, kG_put, kCV_put, kC_ofCV, kV_ofCV, kCV_ofC, kCV_ofV]; and_intros <;> rfl))
    refine x_iconst (v := 0) F dX6_isGoneAtEnd_48 (by decide) ?_
    refine x_iret F rfl rfl dX6_isGoneAtEnd_49 (Nat.le_refl _) (Nat.le_refl _) ?_
    exact ⟨_, rfl, J2, by rw [decide_eq_false h14]; rfl, by rw [show f_endK K i = _ from if_neg h14]; exact hR, hO⟩
  · rw [nI_eq0 (by omega)] at h14
    refine x_aload_n F dX6_isGoneAtEnd_17 rfl rfl ?_
    refine x_iconst (v := 2) F dX6_isGoneAtEnd_18 (by decide) ?_
    refine x_put (ci := 5) (C := RX5) (T := TX5) (N := 9) (k := 5) F dX6_isGoneAtEnd_19 rfl inX5 tyX5 tyX5_ok nmX5 (by decide) q149 rfl rfl (hR.ver hi) (Nat.le_of_ble_eq_true rfl) rfl rfl ?_
    refine x_wd (fun w2 hw2 => ?_)
    have hO : Oth Z K w w2 := hO.trans (by rw [hw2]; exact Oth.set (kind := 10) (idx := i) hi _) rfl
    have hR : Rep Z (kPutV K i 2 2) J2 w2 := by rw [hw2]; exact hR.putV hi 2 (by decide) _ (by first | (simp [obj, kV_put, kC_put, kG_put, kCV_put, kC_ofCV, kV_ofCV, kCV_ofC, kCV_ofV]; done) | (simp [obj, kV_put, kC_put, kG_put, kCV_put, kC_ofCV, kV_ofCV, kCV_ofC, kCV_ofV]; exact ⟨rfl, rfl⟩) | (simp [obj, kV_put, kC_put, kG_put, kCV_put, kC_ofCV, kV_ofCV, kCV_ofC, kCV_ofV]; rfl) | (simp [obj, kV_put, kC_put, kG_put, kCV_put, kC_ofCV, kV_ofCV, kCV_ofC, kCV_ofV]; and_intros <;> rfl))
    refine x_iconst (v := 1) F dX6_isGoneAtEnd_22 (by decide) ?_
    refine x_iret F rfl rfl dX6_isGoneAtEnd_23 (Nat.le_refl _) (Nat.le_refl _) ?_
    exact ⟨_, rfl, J2, by rw [decide_eq_true h14]; rfl, by rw [show f_endK K i = _ from if_pos h14]; exact hR, hO⟩
def f_clrT (n k : Nat) (K : kT) : kT := match n with
  | 0 => K
  | n + 1 => f_clrT n (k + 1) (if k < nc K then kPutCS K k (f_fill 6 0 (kCS K k)) else K)
def f_hvT (n j : Nat) (K : kT) (c : Nat) : kT × Nat := match n with
  | 0 => (K, c)
  | n + 1 => if b_ok K j && (decide (kV K j 2 = 1) && decide (kV K j 7 = kG K 0)) then f_hvT n (j + 1) (f_endK K j) (c + (if f_cnt (p_hin K j (kG K 0) false) 10 = 0 then 1 else 0)) else f_hvT n (j + 1) K c
theorem f_hvT_t {n j : Nat} {K : kT} {c : Nat} (h : (b_ok K j && (decide (kV K j 2 = 1) && decide (kV K j 7 = kG K 0))) = true) : f_hvT (n + 1) j K c = f_hvT n (j + 1) (f_endK K j) (c + (if f_cnt (p_hin K j (kG K 0) false) 10 = 0 then 1 else 0)) := if_pos h
theorem f_hvT_f {n j : Nat} {K : kT} {c : Nat} (h : (b_ok K j && (decide (kV K j 2 = 1) && decide (kV K j 7 = kG K 0))) = false) : f_hvT (n + 1) j K c = f_hvT n (j + 1) K c := if_neg (by rw [h]; decide)
def f_hour (K : kT) : kT × Nat := f_hvT 24 0 (f_clrT 10 0 (kPutG K 0 (kG K 0 + 1))) 0
set_option maxRecDepth 100000 in
set_option maxHeartbeats 4000000 in
theorem c_beginHour (hR : Rep Z K J w) : Ci l D dA B yX6_beginHour wX6_beginHour 9 [.ref (Z 0 0)] w (QM Z K w (nI (f_hour K).2) (f_hour K).1) := by
  refine x_Ct.of (cc := cX6_beginHour) (maxL := 5) (by decide) rfl (Nat.le_of_ble_eq_true rfl) ?_
  intro p e s m below meth c F
  have loop2 : ∀ n2 f, f + n2 = 4 → ∀ Kz c0 Jz wz, Rep Z Kz Jz wz → Oth Z K w wz → kN Kz = kN K → f_hour K = f_hvT (6 * n2) (6 * f) Kz c0 → X p l e (rmd 9 0 0) s m #[.ref (Z 0 0)] below meth c (MQ below (x_Q D dA vwCl tyL0 B (fun r w1 => ∃ v, r = some v ∧ (QM Z K w (nI (f_hour K).2) (f_hour K).1 v w1))) #[.ref (Z 0 0)] s 0 0 (fun q => B ≤ q)) D dA vwCl B 5 0 0 50 [(0, .ref (Z 0 0)), (1, .int (nI c0)), (2, .int (nI f))] [] wz := by
    intro n2
    induction n2 with
    | zero =>
      intro f hf1 Kz c0 Jz wz hR hO hN hf
      obtain rfl : f = 4 := by omega
      refine x_iload_n F dX6_beginHour_50 rfl rfl ?_
      refine x_iconst (v := 4) F dX6_beginHour_51 (by decide) ?_
      refine x_icmp_ge F dX6_beginHour_52 rfl (fun h52 => ?_) (fun hc => absurd hc (fun q => q (Int32.le_refl _)))
      refine x_iload_n F dX6_beginHour_124 rfl rfl ?_
      refine x_iret F rfl rfl dX6_beginHour_125 (Nat.le_refl _) (Nat.le_refl _) ?_
      exact ⟨_, rfl, Jz, by rw [hf]; rfl, by rw [hf]; exact hR, hO⟩
    | succ n2 ih2 =>
      intro f hf1 Kz c0 Jz wz hR hO hN hf
      have inner : ∀ n1 k, k + n1 = 6 → ∀ Kz c0 Jz wz, Rep Z Kz Jz wz → Oth Z K w wz → kN Kz = kN K → f_hour K = f_hvT (6 * n2 + n1) (6 * f + k) Kz c0 → X p l e (rmd 9 0 0) s m #[.ref (Z 0 0)] below meth c (MQ below (x_Q D dA vwCl tyL0 B (fun r w1 => ∃ v, r = some v ∧ (QM Z K w (nI (f_hour K).2) (f_hour K).1 v w1))) #[.ref (Z 0 0)] s 0 0 (fun q => B ≤ q)) D dA vwCl B 5 0 0 57 [(0, .ref (Z 0 0)), (1, .int (nI c0)), (2, .int (nI f)), (3, .int (nI k))] [] wz := by
        intro n1
        induction n1 with
        | zero =>
          intro k hk1 Kz c0 Jz wz hR hO hN hf
          obtain rfl : k = 6 := by omega
          refine x_iload_n F dX6_beginHour_57 rfl rfl ?_
          refine x_bipush (v := 6) F dX6_beginHour_58 (by decide) ?_
          refine x_icmp_ge F dX6_beginHour_60 rfl (fun h60 => ?_) (fun hc => absurd hc (fun q => q (Int32.le_refl _)))
          refine x_iincN F dX6_beginHour_118 (by decide) rfl (by decide) ?_
          refine x_goto F dX6_beginHour_121 rfl ?_
          exact x_lk (ih2 (f + 1) (by omega) _ _ _ _ hR hO hN hf) ⟨rfl, rfl, rfl, trivial⟩
        | succ n1 ih =>
          intro k hk1 Kz c0 Jz wz hR hO hN hf
          refine x_iload_n F dX6_beginHour_57 rfl rfl ?_
          refine x_bipush (v := 6) F dX6_beginHour_58 (by decide) ?_
          refine x_icmp_ge F dX6_beginHour_60 rfl (fun hc => absurd hc (nI_ge (b := 6) (by omega) (by decide))) (fun h60 => ?_)
          refine x_aload_n F dX6_beginHour_63 rfl rfl ?_
          refine x_iload_n F dX6_beginHour_64 rfl rfl ?_
          refine x_iload_n F dX6_beginHour_65 rfl rfl ?_
          refine x_cVi2 (ci := 6) (C := RX6) (T := TX6) (N := 12) F dX6_beginHour_66 (x_gV q177 q178 q449 q1 q179) rfl (c_versionAt hR (nI f) (nI k)) ⟨rfl, rfl, rfl, xd_X6_versionAt, ⟨Nat.le_of_ble_eq_true rfl, Nat.le_of_ble_eq_true rfl⟩, Nat.le_of_ble_eq_true rfl, Nat.le_of_ble_eq_true rfl⟩ rfl hR.main (Nat.le_of_ble_eq_true rfl) (fun v1 w1 hp => ?_)
          obtain ⟨rfl, hw9⟩ := hp
          replace hw9 := hw9.symm
          subst hw9
          rw [f_verAt_nI hR (by omega) (by omega)]
          by_cases hv : b_ok Kz (6 * f + k) = true
          · rw [if_pos hv]
            have hi := b_ok_iff.mp hv
            refine x_astore F dX6_beginHour_69 (by decide) ?_
            refine x_aload F dX6_beginHour_71 rfl ?_
            refine x_ifnull F dX6_beginHour_73 ?_
            refine x_aload F dX6_beginHour_76 rfl ?_
            refine x_get (ci := 5) (C := RX5) (T := TX5) (N := 9) (k := 5) F dX6_beginHour_78 rfl inX5 (by decide) q149 rfl (hR.ver hi) rfl ?_
            refine x_iconst (v := 1) F dX6_beginHour_81 (by decide) ?_
            refine x_icmp_ne F dX6_beginHour_82 rfl (fun h82 => ?_) (fun h82 => ?_)
            · rw [show 6 * n2 + (n1 + 1) = 6 * n2 + n1 + 1 from rfl, f_hvT_f (by rw [decide_eq_false h82, Bool.false_and, Bool.and_false])] at hf
              refine x_iincN F dX6_beginHour_112 (by decide) rfl (by decide) ?_
              refine x_goto F dX6_beginHour_115 rfl ?_
              exact x_lk (ih (k + 1) (by omega) _ _ _ _ hR hO hN hf) ⟨rfl, rfl, rfl, rfl, trivial⟩
            · refine x_aload F dX6_beginHour_85 rfl ?_
              refine x_get (ci := 5) (C := RX5) (T := TX5) (N := 9) (k := 4) F dX6_beginHour_87 rfl inX5 (by decide) q147 rfl (hR.ver hi) rfl ?_
              refine x_get (ci := 3) (C := RX3) (T := TX3) (N := 4) (k := 2) F dX6_beginHour_90 rfl inX3 (by decide) q58 rfl (hR.ret hi) rfl ?_
              refine x_aload_n F dX6_beginHour_93 rfl rfl ?_
              refine x_get (ci := 6) (C := RX6) (T := TX6) (N := 12) (k := 6) F dX6_beginHour_94 rfl inX6 (by decide) q71 rfl hR.main rfl ?_
              refine x_icmp_ne F dX6_beginHour_97 rfl (fun h97 => ?_) (fun h97 => ?_)
              · rw [show 6 * n2 + (n1 + 1) = 6 * n2 + n1 + 1 from rfl, f_hvT_f (by rw [decide_eq_false h97, Bool.and_false, Bool.and_false])] at hf
                refine x_iincN F dX6_beginHour_112 (by decide) rfl (by decide) ?_
                refine x_goto F dX6_beginHour_115 rfl ?_
                exact x_lk (ih (k + 1) (by omega) _ _ _ _ hR hO hN hf) ⟨rfl, rfl, rfl, rfl, trivial⟩
              · rw [show 6 * n2 + (n1 + 1) = 6 * n2 + n1 + 1 from rfl, f_hvT_t (by rw [hv, decide_eq_true h82, decide_eq_true h97]; rfl)] at hf
                refine x_aload_n F dX6_beginHour_100 rfl rfl ?_
                refine x_aload F dX6_beginHour_101 rfl ?_
                refine x_cVi1 (ci := 6) (C := RX6) (T := TX6) (N := 12) F dX6_beginHour_103 (x_gV q445 q446 q473 q1 q447) rfl (c_isGoneAtEnd hR hi) ⟨rfl, rfl, rfl, xd_X6_isGoneAtEnd, ⟨Nat.le_of_ble_eq_true rfl, Nat.le_of_ble_eq_true rfl⟩, Nat.le_of_ble_eq_true rfl, Nat.le_of_ble_eq_true rfl⟩ rfl hR.main (Nat.le_of_ble_eq_true rfl) (fun v1 w1 hp => ?_)
                obtain ⟨J2, rfl, hR, hO2⟩ := hp
                have hO := hO.trans hO2 hN
                have hN := (f_endK_N Kz (6 * f + k)).trans hN
                refine x_if_eq F dX6_beginHour_106 rfl (fun h106 => ?_) (fun h106 => ?_)
                · rw [if_neg (of_decide_eq_false (x_b_eq.mp h106)), Nat.add_zero] at hf
                  refine x_iincN F dX6_beginHour_112 (by decide) rfl (by decide) ?_
                  refine x_goto F dX6_beginHour_115 rfl ?_
                  exact x_lk (ih (k + 1) (by omega) _ _ _ _ hR hO hN hf) ⟨rfl, rfl, rfl, rfl, trivial⟩
                · rw [if_pos (of_decide_eq_true (x_b_ne.mp h106))] at hf
                  refine x_iincN F dX6_beginHour_109 (by decide) rfl (by decide) ?_
                  refine x_iincN F dX6_beginHour_112 (by decide) rfl (by decide) ?_
                  refine x_goto F dX6_beginHour_115 rfl ?_
                  exact x_lk (ih (k + 1) (by omega) _ _ _ _ hR hO hN hf) ⟨rfl, rfl, rfl, rfl, trivial⟩
          · rw [if_neg hv]
            rw [show 6 * n2 + (n1 + 1) = 6 * n2 + n1 + 1 from rfl, f_hvT_f (by rw [Bool.not_eq_true _ |>.mp hv]; rfl)] at hf
            refine x_astoreN F dX6_beginHour_69 (by decide) ?_
            refine x_aloadN F dX6_beginHour_71 rfl ?_
            refine x_ifnullN F dX6_beginHour_73 rfl ?_
            refine x_iincN F dX6_beginHour_112 (by decide) rfl (by decide) ?_
            refine x_goto F dX6_beginHour_115 rfl ?_
            exact x_lk (ih (k + 1) (by omega) _ _ _ _ hR hO hN hf) ⟨rfl, rfl, rfl, rfl, trivial⟩
      refine x_iload_n F dX6_beginHour_50 rfl rfl ?_
      refine x_iconst (v := 4) F dX6_beginHour_51 (by decide) ?_
      refine x_icmp_ge F dX6_beginHour_52 rfl (fun hc => absurd hc (nI_ge (b := 4) (by omega) (by decide))) (fun h52 => ?_)
      refine x_iconst (v := 0) F dX6_beginHour_55 (by decide) ?_
      refine x_istore_n F dX6_beginHour_56 rfl (by decide) ?_
      exact x_lk (inner 6 0 (by omega) _ _ _ _ hR hO hN hf) ⟨rfl, rfl, rfl, rfl, trivial⟩
  have loop1 : ∀ n1 k, k + n1 = 10 → ∀ Kz Jz wz, Rep Z Kz Jz wz → Oth Z K w wz → kN Kz = kN K → f_hour K = f_hvT 24 0 (f_clrT n1 k Kz) 0 → X p l e (rmd 9 0 0) s m #[.ref (Z 0 0)] below meth c (MQ below (x_Q D dA vwCl tyL0 B (fun r w1 => ∃ v, r = some v ∧ (QM Z K w (nI (f_hour K).2) (f_hour K).1 v w1))) #[.ref (Z 0 0)] s 0 0 (fun q => B ≤ q)) D dA vwCl B 5 0 0 12 [(0, .ref (Z 0 0)), (1, .int (nI k))] [] wz := by
    intro n1
    induction n1 with
    | zero =>
      intro k hk1 Kz Jz wz hR hO hN hf
      obtain rfl : k = 10 := by omega
      refine x_iload_n F dX6_beginHour_12 rfl rfl ?_
      refine x_aload_n F dX6_beginHour_13 rfl rfl ?_
      refine x_get (ci := 6) (C := RX6) (T := TX6) (N := 12) (k := 1) F dX6_beginHour_14 rfl inX6 (by decide) q66 rfl hR.main rfl ?_
      refine x_alen (v := 10) F dX6_beginHour_17 rfl hR.clients rfl ?_
      refine x_icmp_ge F dX6_beginHour_18 rfl (fun h18 => ?_) (fun hc => absurd hc (fun q => q (Int32.le_refl _)))
      refine x_iconst (v := 0) F dX6_beginHour_46 (by decide) ?_
      refine x_istore_n F dX6_beginHour_47 rfl (by decide) ?_
      refine x_iconst (v := 0) F dX6_beginHour_48 (by decide) ?_
      refine x_istore_n F dX6_beginHour_49 rfl (by decide) ?_
      exact x_lk (loop2 4 0 (by omega) _ 0 _ _ hR hO hN hf) ⟨rfl, rfl, rfl, trivial⟩
    | succ n1 ih =>
      intro k hk1 Kz Jz wz hR hO hN hf
      refine x_iload_n F dX6_beginHour_12 rfl rfl ?_
      refine x_aload_n F dX6_beginHour_13 rfl rfl ?_
      refine x_get (ci := 6) (C := RX6) (T := TX6) (N := 12) (k := 1) F dX6_beginHour_14 rfl inX6 (by decide) q66 rfl hR.main rfl ?_
      refine x_alen (v := 10) F dX6_beginHour_17 rfl hR.clients rfl ?_
      refine x_icmp_ge F dX6_beginHour_18 rfl (fun hc => absurd hc (nI_ge (b := 10) (by omega) (by decide))) (fun h18 => ?_)
      refine x_aload_n F dX6_beginHour_21 rfl rfl ?_
      refine x_get (ci := 6) (C := RX6) (T := TX6) (N := 12) (k := 1) F dX6_beginHour_22 rfl inX6 (by decide) q66 rfl hR.main rfl ?_
      refine x_iload_n F dX6_beginHour_25 rfl rfl ?_
      refine x_aaldN F dX6_beginHour_26 rfl hR.clients (by omega) (by decide) ?_
      by_cases hk2 : k < nc Kz
      · simp only [if_pos hk2]
        simp only [f_clrT, if_pos hk2] at hf
        refine x_astore_n F dX6_beginHour_27 rfl (by decide) ?_
        refine x_aload_n F dX6_beginHour_28 rfl rfl ?_
        refine x_ifnull F dX6_beginHour_29 ?_
        refine x_aload_n F dX6_beginHour_32 rfl rfl ?_
        refine x_get (ci := 1) (C := RX1) (T := TX1) (N := 8) (k := 3) F dX6_beginHour_33 rfl inX1 (by decide) q251 rfl (hR.cli hk2) rfl ?_
        refine x_iconst (v := 0) F dX6_beginHour_36 (by decide) ?_
        refine x_cSv2 F dX6_beginHour_37 (x_gS q444 q52 q4 q53) (c_fill (by decide) (hR.csv hk2) 0) ⟨rfl, rfl, rfl, xd_J7_fill_53178, ⟨Nat.le_of_ble_eq_true rfl, Nat.le_of_ble_eq_true rfl⟩, Nat.le_of_ble_eq_true rfl, Nat.le_of_ble_eq_true rfl⟩ (Nat.le_of_ble_eq_true rfl) (fun w1 hp => ?_)
        have hO : Oth Z K w w1 := hO.trans (by rw [hp]; exact Oth.set (K := Kz) (kind := 15) (idx := k) hk2 _) hN
        have hR : Rep Z (kPutCS Kz k (f_fill 6 0 (kCS Kz k))) Jz w1 := by rw [hp]; exact hR.putCS hk2 (f_fill 6 0 (kCS Kz k))
        refine x_iincN F dX6_beginHour_40 (by decide) rfl (by decide) ?_
        refine x_goto F dX6_beginHour_43 rfl ?_
        exact x_lk (ih (k + 1) (by omega) _ _ _ hR hO (by exact hN) hf) ⟨rfl, rfl, trivial⟩
      · simp only [if_neg hk2]
        simp only [f_clrT, if_neg hk2] at hf
        refine x_astore_nN F dX6_beginHour_27 rfl (by decide) ?_
        refine x_aload_nN F dX6_beginHour_28 rfl rfl ?_
        refine x_ifnullN F dX6_beginHour_29 rfl ?_
        refine x_iincN F dX6_beginHour_40 (by decide) rfl (by decide) ?_
        refine x_goto F dX6_beginHour_43 rfl ?_
        exact x_lk (ih (k + 1) (by omega) _ _ _ hR hO (by exact hN) hf) ⟨rfl, rfl, trivial⟩
  have hO : Oth Z K w w := Oth.rfl
  refine x_aload_n F dX6_beginHour_0 rfl rfl ?_
  refine x_dup F dX6_beginHour_1 rfl ?_
  refine x_get (ci := 6) (C := RX6) (T := TX6) (N := 12) (k := 6) F dX6_beginHour_2 rfl inX6 (by decide) q71 rfl hR.main rfl ?_
  refine x_iconst (v := 1) F dX6_beginHour_5 (by decide) ?_
  refine x_iadd F dX6_beginHour_6 ?_
  refine x_put (ci := 6) (C := RX6) (T := TX6) (N := 12) (k := 6) F dX6_beginHour_7 rfl inX6 tyX6 tyX6_ok nmX6 (by decide) q71 rfl rfl hR.main (Nat.le_of_ble_eq_true rfl) rfl rfl ?_
  refine x_wd (fun w1 hw1 => ?_)
  have hO : Oth Z K w w1 := hO.trans (by rw [hw1]; exact Oth.set (kind := 0) (idx := 0) rfl _) rfl
  have hR : Rep Z (kPutG K 0 (kG K 0 + 1)) J w1 := by rw [hw1]; exact hR.putG 0 _ (by first | (simp [obj, kV_put, kC_put, kG_put, kCV_put, kC_ofCV, kV_ofCV, kCV_ofC, kCV_ofV]; done) | (simp [obj, kV_put, kC_put, kG_put, kCV_put, kC_ofCV, kV_ofCV, kCV_ofC, kCV_ofV]; exact ⟨rfl, rfl⟩) | (simp [obj, kV_put, kC_put, kG_put, kCV_put, kC_ofCV, kV_ofCV, kCV_ofC, kCV_ofV]; rfl) | (simp [obj, kV_put, kC_put, kG_put, kCV_put, kC_ofCV, kV_ofCV, kCV_ofC, kCV_ofV]; and_intros <;> rfl))
  refine x_iconst (v := 0) F dX6_beginHour_10 (by decide) ?_
  refine x_istore_n F dX6_beginHour_11 rfl (by decide) ?_
  exact x_lk (loop1 10 0 (by omega) _ J w1 hR hO rfl rfl) ⟨rfl, rfl, trivial⟩
set_option maxRecDepth 100000 in
set_option maxHeartbeats 4000000 in
theorem c_pass1 (hR : Rep Z K J w) : Ci l D dA B yX6_pass wX6_pass 10 [.ref (Z 0 0), .int 1] w (QM Z K w (nI (f_hour K).2) (f_hour K).1) := by
  refine x_Ct.of (cc := cX6_pass) (maxL := 4) (by decide) rfl (Nat.le_of_ble_eq_true rfl) ?_
  intro p e s m below meth c F
  refine x_iload_n F dX6_pass_0 rfl rfl ?_
  refine x_iconst (v := 1) F dX6_pass_1 (by decide) ?_
  refine x_icmp_lt F dX6_pass_2 rfl (fun hc => absurd hc (by decide)) (fun _ => ?_)
  refine x_iload_n F dX6_pass_5 rfl rfl ?_
  refine x_bipush (v := 100) F dX6_pass_6 (by decide) ?_
  refine x_icmp_le F dX6_pass_8 rfl (fun _ => ?_) (fun hc => absurd hc (by decide))
  refine x_iconst (v := 0) F dX6_pass_21 (by decide) ?_
  refine x_istore_n F dX6_pass_22 rfl (by decide) ?_
  refine x_iconst (v := 0) F dX6_pass_23 (by decide) ?_
  refine x_istore_n F dX6_pass_24 rfl (by decide) ?_
  refine x_iload_n F dX6_pass_25 rfl rfl ?_
  refine x_iload_n F dX6_pass_26 rfl rfl ?_
  refine x_icmp_ge F dX6_pass_27 rfl (fun hc => absurd hc (by decide)) (fun _ => ?_)
  refine x_iload_n F dX6_pass_30 rfl rfl ?_
  refine x_aload_n F dX6_pass_31 rfl rfl ?_
  refine x_cVi0 (ci := 6) (C := RX6) (T := TX6) (N := 12) F dX6_pass_32 (x_gV q441 q442 q472 q1 q443) rfl (c_beginHour hR) ⟨rfl, rfl, rfl, xd_X6_beginHour, ⟨Nat.le_of_ble_eq_true rfl, Nat.le_of_ble_eq_true rfl⟩, Nat.le_of_ble_eq_true rfl, Nat.le_of_ble_eq_true rfl⟩ rfl hR.main (Nat.le_of_ble_eq_true rfl) (fun v1 w1 hp => ?_)
  obtain ⟨J2, rfl, hR, hO⟩ := hp
  refine x_iadd F dX6_pass_35 ?_
  refine x_istore_n F dX6_pass_36 rfl (by decide) ?_
  refine x_iinc (v := 1) F dX6_pass_37 (by decide) rfl (by decide) ?_
  refine x_goto F dX6_pass_40 rfl ?_
  refine x_iload_n F dX6_pass_25 rfl rfl ?_
  refine x_iload_n F dX6_pass_26 rfl rfl ?_
  refine x_icmp_ge F dX6_pass_27 rfl (fun _ => ?_) (fun hc => absurd hc (by decide))
  refine x_iload_n F dX6_pass_43 rfl rfl ?_
  refine x_iret F rfl rfl dX6_pass_44 (Nat.le_refl _) (Nat.le_refl _) ?_
  exact ⟨_, rfl, J2, congrArg Value.int (Int32.zero_add _), hR, hO⟩
end HRS
