/-! ===== what a call would come to; who hinders; hours ===== -/
section OUT
variable {l : Launch} {D : va_G} {dA : Nat → ClassId} {B : Nat} {Z : Nat → Nat → Nat} {K : kT} {J : jT} {w : xW}
def f_best (K : kT) (k vi : Nat) (sh : Option Nat) : Option (List Nat × Nat × Int32) := match f_rt K sh 1 vi (kC K k 1) with
  | some r => some r
  | none => match f_rt K sh 2 vi (kC K k 1) with
    | some r => some r
    | none => f_rt K sh 3 vi (kC K k 1)
theorem f_best1 {K : kT} {k vi : Nat} {sh : Option Nat} {r : List Nat × Nat × Int32} (h : f_rt K sh 1 vi (kC K k 1) = some r) : f_best K k vi sh = some r := by simp [f_best, h]
theorem f_best2 {K : kT} {k vi : Nat} {sh : Option Nat} (h : f_rt K sh 1 vi (kC K k 1) = none) {r : List Nat × Nat × Int32} (h2 : f_rt K sh 2 vi (kC K k 1) = some r) : f_best K k vi sh = some r := by simp [f_best, h, h2]
theorem f_best3 {K : kT} {k vi : Nat} {sh : Option Nat} (h : f_rt K sh 1 vi (kC K k 1) = none) (h2 : f_rt K sh 2 vi (kC K k 1) = none) : f_best K k vi sh = f_rt K sh 3 vi (kC K k 1) := by simp [f_best, h, h2]
/-- what findRoute leaves -/
def FR (Z : Nat → Nat → Nat) (K : kT) (w : xW) (q : Option (List Nat × Nat × Int32)) : Value → xW → Prop := fun v w1 => ∃ J1, v = .int (x_b q.isSome) ∧ Rep Z K J1 w1 ∧ Oth Z K w w1 ∧ (∀ r, q = some r → J1.2.1 0 = nI r.1.length ∧ (∀ t, t < r.1.length → J1.1 t = nI (r.1.getD t 0)) ∧ J1.2.1 1 = nI (r.2.1 % 6) ∧ J1.2.1 2 = r.2.2 ∧ r.1.length ≤ 3) ∧ (q = none → J1.2.1 0 = 0)
/-- an answer, and a state that shows the same -/
def QP (Z : Nat → Nat → Nat) (K : kT) (w : xW) (x : Int32) : Value → xW → Prop := fun v w1 => ∃ J1, v = .int x ∧ Rep Z K J1 w1 ∧ Oth Z K w w1
theorem FR_of {J1 : jT} {w1 : xW} {q : Option (List Nat × Nat × Int32)} {n : Nat} {r : List Nat × Nat × Int32} (hn : n ≤ 3) (hq : q = some r) (hR : Rep Z K J1 w1) (hO : Oth Z K w w1) (hL : J1.2.1 0 = nI n) (h : (∀ t, t < r.1.length → J1.1 (0 + t) = nI (r.1.getD t 0)) ∧ r.1.length = n ∧ J1.2.1 1 = nI (r.2.1 % 6) ∧ J1.2.1 2 = r.2.2) : FR Z K w q (.int 1) w1 := by
  subst hq
  obtain ⟨g1, rfl, g3, g4⟩ := h
  exact ⟨J1, rfl, hR, hO, fun r2 e => by cases e; exact ⟨hL, fun t ht => by have := g1 t ht; rwa [Nat.zero_add] at this, g3, g4, hn⟩, fun e => by cases e⟩
set_option maxRecDepth 100000 in
set_option maxHeartbeats 4000000 in
theorem c_findRouteN (hR : Rep Z K J w) {k vi : Nat} (hk : k < nc K) (hv : vOk K vi) : Ci l D dA B yX6_findRoute wX6_findRoute 5 [.ref (Z 0 0), .ref (Z 13 k), .ref (Z 10 vi), .null] w (FR Z K w (f_best K k vi (none : Option Nat))) := by
  refine x_Ct.of (cc := cX6_findRoute) (maxL := 5) (by decide) rfl (Nat.le_of_ble_eq_true rfl) ?_
  intro p e s m below meth c F
  refine x_aload_n F dX6_findRoute_0 rfl rfl ?_
  refine x_get (ci := 6) (C := RX6) (T := TX6) (N := 12) (k := 10) F dX6_findRoute_1 rfl inX6 (by decide) q75 rfl hR.main rfl ?_
  refine x_aload_nN F dX6_findRoute_4 rfl rfl ?_
  refine x_put (ci := 4) (C := RX4) (T := TX4) (N := 5) (k := 4) F dX6_findRoute_5 rfl inX4 tyX4 tyX4_ok nmX4 (by decide) q38 rfl rfl hR.route (Nat.le_of_ble_eq_true rfl) rfl rfl ?_
  refine x_wd (fun w1 hw1 => ?_)
  have hO : Oth Z K w w1 := by rw [hw1]; exact Oth.set (kind := 4) (idx := 0) rfl _
  have hR : Rep Z K (jShut J (none : Option Nat)) w1 := by rw [hw1]; exact hR.jShut (none : Option Nat) rfl
  have hS : (jShut J (none : Option Nat)).2.2.1 = ((none : Option Nat)).map (Z 10) := rfl
  refine x_iconst (v := 1) F dX6_findRoute_8 (by decide) ?_
  refine x_istore F dX6_findRoute_9 (by decide) ?_
  refine x_iload F dX6_findRoute_11 rfl ?_
  refine x_iconst (v := 3) F dX6_findRoute_13 (by decide) ?_
  refine x_icmp_gt F dX6_findRoute_14 rfl (fun hc => absurd hc (by decide)) (fun _ => ?_)
  refine x_aload_n F dX6_findRoute_17 rfl rfl ?_
  refine x_get (ci := 6) (C := RX6) (T := TX6) (N := 12) (k := 10) F dX6_findRoute_18 rfl inX6 (by decide) q75 rfl hR.main rfl ?_
  refine x_iload F dX6_findRoute_21 rfl ?_
  refine x_put (ci := 4) (C := RX4) (T := TX4) (N := 5) (k := 1) F dX6_findRoute_23 rfl inX4 tyX4 tyX4_ok nmX4 (by decide) q35 rfl rfl hR.route (Nat.le_of_ble_eq_true rfl) rfl rfl ?_
  refine x_wd (fun w11 hw11 => ?_)
  have hLn : (jInt (jShut J (none : Option Nat)) 0 1).2.1 0 = nI 1 := by rfl
  have hO : Oth Z K w w11 := hO.trans (by rw [hw11]; exact Oth.set (kind := 4) (idx := 0) rfl _) rfl
  have hR : Rep Z K (jInt (jShut J (none : Option Nat)) 0 1) w11 := by rw [hw11]; exact hR.jInt 0 1 rfl
  refine x_aload_n F dX6_findRoute_26 rfl rfl ?_
  refine x_get (ci := 6) (C := RX6) (T := TX6) (N := 12) (k := 10) F dX6_findRoute_27 rfl inX6 (by decide) q75 rfl hR.main rfl ?_
  refine x_aload_n F dX6_findRoute_30 rfl rfl ?_
  refine x_get (ci := 6) (C := RX6) (T := TX6) (N := 12) (k := 2) F dX6_findRoute_31 rfl inX6 (by decide) q67 rfl hR.main rfl ?_
  refine x_aload_n F dX6_findRoute_34 rfl rfl ?_
  refine x_aload_n F dX6_findRoute_35 rfl rfl ?_
  refine x_get (ci := 1) (C := RX1) (T := TX1) (N := 8) (k := 5) F dX6_findRoute_36 rfl inX1 (by decide) q255 rfl (hR.cli hk) rfl ?_
  refine x_iconst (v := 0) F dX6_findRoute_39 (by decide) ?_
  refine x_cSi5 F dX6_findRoute_40 (x_gS q215 q216 q1 q217) (c_completes 1 hR hv (kC K k 1) (len := 1) (pl := 0) (by decide) (by rfl) hLn (fun x hx => by cases hx) hS) ⟨rfl, rfl, rfl, xd_X6_completes, ⟨Nat.le_of_ble_eq_true rfl, Nat.le_of_ble_eq_true rfl⟩, Nat.le_of_ble_eq_true rfl, Nat.le_of_ble_eq_true rfl⟩ (Nat.le_of_ble_eq_true rfl) (fun v1 w1 hp => ?_)
  obtain ⟨J2, rfl, hR, hO2, hL2, hS2, _, hr1⟩ := hp
  have hO := hO.trans hO2 rfl
  have hLn := hL2.trans hLn
  have hS : J2.2.2.1 = ((none : Option Nat)).map (Z 10) := hS2.trans hS
  refine x_if_eq F dX6_findRoute_43 rfl (fun h43 => ?_) (fun h43 => ?_)
  · have hn1 : f_rt K (none : Option Nat) 1 vi (kC K k 1) = none := Option.not_isSome_iff_eq_none.mp (by rw [x_b_eq.mp h43]; decide)
    refine x_iinc (v := 1) F dX6_findRoute_48 (by decide) rfl (by decide) ?_
    refine x_goto F dX6_findRoute_51 rfl ?_
    refine x_iload F dX6_findRoute_11 rfl ?_
    refine x_iconst (v := 3) F dX6_findRoute_13 (by decide) ?_
    refine x_icmp_gt F dX6_findRoute_14 rfl (fun hc => absurd hc (by decide)) (fun _ => ?_)
    refine x_aload_n F dX6_findRoute_17 rfl rfl ?_
    refine x_get (ci := 6) (C := RX6) (T := TX6) (N := 12) (k := 10) F dX6_findRoute_18 rfl inX6 (by decide) q75 rfl hR.main rfl ?_
    refine x_iload F dX6_findRoute_21 rfl ?_
    refine x_put (ci := 4) (C := RX4) (T := TX4) (N := 5) (k := 1) F dX6_findRoute_23 rfl inX4 tyX4 tyX4_ok nmX4 (by decide) q35 rfl rfl hR.route (Nat.le_of_ble_eq_true rfl) rfl rfl ?_
    refine x_wd (fun w12 hw12 => ?_)
    have hLn : (jInt J2 0 (1 + 1)).2.1 0 = nI 2 := by rfl
    have hO : Oth Z K w w12 := hO.trans (by rw [hw12]; exact Oth.set (kind := 4) (idx := 0) rfl _) rfl
    have hR : Rep Z K (jInt J2 0 (1 + 1)) w12 := by rw [hw12]; exact hR.jInt 0 (1 + 1) rfl
    refine x_aload_n F dX6_findRoute_26 rfl rfl ?_
    refine x_get (ci := 6) (C := RX6) (T := TX6) (N := 12) (k := 10) F dX6_findRoute_27 rfl inX6 (by decide) q75 rfl hR.main rfl ?_
    refine x_aload_n F dX6_findRoute_30 rfl rfl ?_
    refine x_get (ci := 6) (C := RX6) (T := TX6) (N := 12) (k := 2) F dX6_findRoute_31 rfl inX6 (by decide) q67 rfl hR.main rfl ?_
    refine x_aload_n F dX6_findRoute_34 rfl rfl ?_
    refine x_aload_n F dX6_findRoute_35 rfl rfl ?_
    refine x_get (ci := 1) (C := RX1) (T := TX1) (N := 8) (k := 5) F dX6_findRoute_36 rfl inX1 (by decide) q255 rfl (hR.cli hk) rfl ?_
    refine x_iconst (v := 0) F dX6_findRoute_39 (by decide) ?_
    refine x_cSi5 F dX6_findRoute_40 (x_gS q215 q216 q1 q217) (c_completes 2 hR hv (kC K k 1) (len := 2) (pl := 0) (by decide) (by rfl) hLn (fun x hx => by cases hx) hS) ⟨rfl, rfl, rfl, xd_X6_completes, ⟨Nat.le_of_ble_eq_true rfl, Nat.le_of_ble_eq_true rfl⟩, Nat.le_of_ble_eq_true rfl, Nat.le_of_ble_eq_true rfl⟩ (Nat.le_of_ble_eq_true rfl) (fun v1 w1 hp => ?_)
    obtain ⟨J3, rfl, hR, hO2, hL2, hS2, _, hr2⟩ := hp
    have hO := hO.trans hO2 rfl
    have hLn := hL2.trans hLn
    have hS : J3.2.2.1 = ((none : Option Nat)).map (Z 10) := hS2.trans hS
    refine x_if_eq F dX6_findRoute_43 rfl (fun h43 => ?_) (fun h43 => ?_)
    · have hn2 : f_rt K (none : Option Nat) 2 vi (kC K k 1) = none := Option.not_isSome_iff_eq_none.mp (by rw [x_b_eq.mp h43]; decide)
      refine x_iinc (v := 1) F dX6_findRoute_48 (by decide) rfl (by decide) ?_
      refine x_goto F dX6_findRoute_51 rfl ?_
      refine x_iload F dX6_findRoute_11 rfl ?_
      refine x_iconst (v := 3) F dX6_findRoute_13 (by decide) ?_
      refine x_icmp_gt F dX6_findRoute_14 rfl (fun hc => absurd hc (by decide)) (fun _ => ?_)
      refine x_aload_n F dX6_findRoute_17 rfl rfl ?_
      refine x_get (ci := 6) (C := RX6) (T := TX6) (N := 12) (k := 10) F dX6_findRoute_18 rfl inX6 (by decide) q75 rfl hR.main rfl ?_
      refine x_iload F dX6_findRoute_21 rfl ?_
      refine x_put (ci := 4) (C := RX4) (T := TX4) (N := 5) (k := 1) F dX6_findRoute_23 rfl inX4 tyX4 tyX4_ok nmX4 (by decide) q35 rfl rfl hR.route (Nat.le_of_ble_eq_true rfl) rfl rfl ?_
      refine x_wd (fun w13 hw13 => ?_)
      have hLn : (jInt J3 0 (1 + 1 + 1)).2.1 0 = nI 3 := by rfl
      have hO : Oth Z K w w13 := hO.trans (by rw [hw13]; exact Oth.set (kind := 4) (idx := 0) rfl _) rfl
      have hR : Rep Z K (jInt J3 0 (1 + 1 + 1)) w13 := by rw [hw13]; exact hR.jInt 0 (1 + 1 + 1) rfl
      refine x_aload_n F dX6_findRoute_26 rfl rfl ?_
      refine x_get (ci := 6) (C := RX6) (T := TX6) (N := 12) (k := 10) F dX6_findRoute_27 rfl inX6 (by decide) q75 rfl hR.main rfl ?_
      refine x_aload_n F dX6_findRoute_30 rfl rfl ?_
      refine x_get (ci := 6) (C := RX6) (T := TX6) (N := 12) (k := 2) F dX6_findRoute_31 rfl inX6 (by decide) q67 rfl hR.main rfl ?_
      refine x_aload_n F dX6_findRoute_34 rfl rfl ?_
      refine x_aload_n F dX6_findRoute_35 rfl rfl ?_
      refine x_get (ci := 1) (C := RX1) (T := TX1) (N := 8) (k := 5) F dX6_findRoute_36 rfl inX1 (by decide) q255 rfl (hR.cli hk) rfl ?_
      refine x_iconst (v := 0) F dX6_findRoute_39 (by decide) ?_
      refine x_cSi5 F dX6_findRoute_40 (x_gS q215 q216 q1 q217) (c_completes 3 hR hv (kC K k 1) (len := 3) (pl := 0) (by decide) (by rfl) hLn (fun x hx => by cases hx) hS) ⟨rfl, rfl, rfl, xd_X6_completes, ⟨Nat.le_of_ble_eq_true rfl, Nat.le_of_ble_eq_true rfl⟩, Nat.le_of_ble_eq_true rfl, Nat.le_of_ble_eq_true rfl⟩ (Nat.le_of_ble_eq_true rfl) (fun v1 w1 hp => ?_)
      obtain ⟨J4, rfl, hR, hO2, hL2, hS2, _, hr3⟩ := hp
      have hO := hO.trans hO2 rfl
      have hLn := hL2.trans hLn
      have hS : J4.2.2.1 = ((none : Option Nat)).map (Z 10) := hS2.trans hS
      refine x_if_eq F dX6_findRoute_43 rfl (fun h43 => ?_) (fun h43 => ?_)
      · have hn3 : f_rt K (none : Option Nat) 3 vi (kC K k 1) = none := Option.not_isSome_iff_eq_none.mp (by rw [x_b_eq.mp h43]; decide)
        refine x_iinc (v := 1) F dX6_findRoute_48 (by decide) rfl (by decide) ?_
        refine x_goto F dX6_findRoute_51 rfl ?_
        refine x_iload F dX6_findRoute_11 rfl ?_
        refine x_iconst (v := 3) F dX6_findRoute_13 (by decide) ?_
        refine x_icmp_gt F dX6_findRoute_14 rfl (fun _ => ?_) (fun hc => absurd hc (by decide))
        refine x_aload_n F dX6_findRoute_54 rfl rfl ?_
        refine x_get (ci := 6) (C := RX6) (T := TX6) (N := 12) (k := 10) F dX6_findRoute_55 rfl inX6 (by decide) q75 rfl hR.main rfl ?_
        refine x_iconst (v := 0) F dX6_findRoute_58 (by decide) ?_
        refine x_put (ci := 4) (C := RX4) (T := TX4) (N := 5) (k := 1) F dX6_findRoute_59 rfl inX4 tyX4 tyX4_ok nmX4 (by decide) q35 rfl rfl hR.route (Nat.le_of_ble_eq_true rfl) rfl rfl ?_
        refine x_wd (fun w20 hw20 => ?_)
        have hO : Oth Z K w w20 := hO.trans (by rw [hw20]; exact Oth.set (kind := 4) (idx := 0) rfl _) rfl
        have hR : Rep Z K (jInt J4 0 0) w20 := by rw [hw20]; exact hR.jInt 0 0 rfl
        have hno := (f_best3 hn1 hn2).trans hn3
        refine x_iconst (v := 0) F dX6_findRoute_62 (by decide) ?_
        refine x_iret F rfl rfl dX6_findRoute_63 (Nat.le_refl _) (Nat.le_refl _) ?_
        exact ⟨_, rfl, _, by rw [hno]; rfl, hR, hO, (fun r e => by rw [hno] at e; cases e), fun _ => rfl⟩
      · obtain ⟨r0, e3⟩ := Option.isSome_iff_exists.mp (x_b_ne.mp h43)
        have hfin := FR_of (w := w) (n := 3) (by decide) ((f_best3 hn1 hn2).trans e3) hR hO hLn (hr3 r0 e3)
        refine x_iconst (v := 1) F dX6_findRoute_46 (by decide) ?_
        refine x_iret F rfl rfl dX6_findRoute_47 (Nat.le_refl _) (Nat.le_refl _) ?_
        obtain ⟨J9, g1, g2⟩ := hfin
        exact ⟨_, rfl, J9, g1, g2⟩
    · obtain ⟨r0, e2⟩ := Option.isSome_iff_exists.mp (x_b_ne.mp h43)
      have hfin := FR_of (w := w) (n := 2) (by decide) (f_best2 hn1 e2) hR hO hLn (hr2 r0 e2)
      refine x_iconst (v := 1) F dX6_findRoute_46 (by decide) ?_
      refine x_iret F rfl rfl dX6_findRoute_47 (Nat.le_refl _) (Nat.le_refl _) ?_
      obtain ⟨J9, g1, g2⟩ := hfin
      exact ⟨_, rfl, J9, g1, g2⟩
  · obtain ⟨r0, e1⟩ := Option.isSome_iff_exists.mp (x_b_ne.mp h43)
    have hfin := FR_of (w := w) (n := 1) (by decide) (f_best1 e1) hR hO hLn (hr1 r0 e1)
    refine x_iconst (v := 1) F dX6_findRoute_46 (by decide) ?_
    refine x_iret F rfl rfl dX6_findRoute_47 (Nat.le_refl _) (Nat.le_refl _) ?_
    obtain ⟨J9, g1, g2⟩ := hfin
    exact ⟨_, rfl, J9, g1, g2⟩
set_option maxRecDepth 100000 in
set_option maxHeartbeats 4000000 in
theorem c_findRouteS (hR : Rep Z K J w) {k vi : Nat} (hk : k < nc K) (hv : vOk K vi) {vs : Nat} (hvs : vOk K vs) : Ci l D dA B yX6_findRoute wX6_findRoute 5 [.ref (Z 0 0), .ref (Z 13 k), .ref (Z 10 vi), .ref (Z 10 vs)] w (FR Z K w (f_best K k vi (some vs))) := by
  refine x_Ct.of (cc := cX6_findRoute) (maxL := 5) (by decide) rfl (Nat.le_of_ble_eq_true rfl) ?_
  intro p e s m below meth c F
  refine x_aload_n F dX6_findRoute_0 rfl rfl ?_
  refine x_get (ci := 6) (C := RX6) (T := TX6) (N := 12) (k := 10) F dX6_findRoute_1 rfl inX6 (by decide) q75 rfl hR.main rfl ?_
  refine x_aload_n F dX6_findRoute_4 rfl rfl ?_
  refine x_put (ci := 4) (C := RX4) (T := TX4) (N := 5) (k := 4) F dX6_findRoute_5 rfl inX4 tyX4 tyX4_ok nmX4 (by decide) q38 rfl rfl hR.route (Nat.le_of_ble_eq_true rfl) rfl rfl ?_
  refine x_wd (fun w1 hw1 => ?_)
  have hO : Oth Z K w w1 := by rw [hw1]; exact Oth.set (kind := 4) (idx := 0) rfl _
  have hR : Rep Z K (jShut J (some (Z 10 vs))) w1 := by rw [hw1]; exact hR.jShut (some (Z 10 vs)) rfl
  have hS : (jShut J (some (Z 10 vs))).2.2.1 = ((some vs)).map (Z 10) := rfl
  refine x_iconst (v := 1) F dX6_findRoute_8 (by decide) ?_
  refine x_istore F dX6_findRoute_9 (by decide) ?_
  refine x_iload F dX6_findRoute_11 rfl ?_
  refine x_iconst (v := 3) F dX6_findRoute_13 (by decide) ?_
  refine x_icmp_gt F dX6_findRoute_14 rfl (fun hc => absurd hc (by decide)) (fun _ => ?_)
  refine x_aload_n F dX6_findRoute_17 rfl rfl ?_
  refine x_get (ci := 6) (C := RX6) (T := TX6) (N := 12) (k := 10) F dX6_findRoute_18 rfl inX6 (by decide) q75 rfl hR.main rfl ?_
  refine x_iload F dX6_findRoute_21 rfl ?_
  refine x_put (ci := 4) (C := RX4) (T := TX4) (N := 5) (k := 1) F dX6_findRoute_23 rfl inX4 tyX4 tyX4_ok nmX4 (by decide) q35 rfl rfl hR.route (Nat.le_of_ble_eq_true rfl) rfl rfl ?_
  refine x_wd (fun w11 hw11 => ?_)
  have hLn : (jInt (jShut J (some (Z 10 vs))) 0 1).2.1 0 = nI 1 := by rfl
  have hO : Oth Z K w w11 := hO.trans (by rw [hw11]; exact Oth.set (kind := 4) (idx := 0) rfl _) rfl
  have hR : Rep Z K (jInt (jShut J (some (Z 10 vs))) 0 1) w11 := by rw [hw11]; exact hR.jInt 0 1 rfl
  refine x_aload_n F dX6_findRoute_26 rfl rfl ?_
  refine x_get (ci := 6) (C := RX6) (T := TX6) (N := 12) (k := 10) F dX6_findRoute_27 rfl inX6 (by decide) q75 rfl hR.main rfl ?_
  refine x_aload_n F dX6_findRoute_30 rfl rfl ?_
  refine x_get (ci := 6) (C := RX6) (T := TX6) (N := 12) (k := 2) F dX6_findRoute_31 rfl inX6 (by decide) q67 rfl hR.main rfl ?_
  refine x_aload_n F dX6_findRoute_34 rfl rfl ?_
  refine x_aload_n F dX6_findRoute_35 rfl rfl ?_
  refine x_get (ci := 1) (C := RX1) (T := TX1) (N := 8) (k := 5) F dX6_findRoute_36 rfl inX1 (by decide) q255 rfl (hR.cli hk) rfl ?_
  refine x_iconst (v := 0) F dX6_findRoute_39 (by decide) ?_
  refine x_cSi5 F dX6_findRoute_40 (x_gS q215 q216 q1 q217) (c_completes 1 hR hv (kC K k 1) (len := 1) (pl := 0) (by decide) (by rfl) hLn (fun x hx => by cases hx; exact hvs) hS) ⟨rfl, rfl, rfl, xd_X6_completes, ⟨Nat.le_of_ble_eq_true rfl, Nat.le_of_ble_eq_true rfl⟩, Nat.le_of_ble_eq_true rfl, Nat.le_of_ble_eq_true rfl⟩ (Nat.le_of_ble_eq_true rfl) (fun v1 w1 hp => ?_)
  obtain ⟨J2, rfl, hR, hO2, hL2, hS2, _, hr1⟩ := hp
  have hO := hO.trans hO2 rfl
  have hLn := hL2.trans hLn
  have hS : J2.2.2.1 = ((some vs)).map (Z 10) := hS2.trans hS
  refine x_if_eq F dX6_findRoute_43 rfl (fun h43 => ?_) (fun h43 => ?_)
  · have hn1 : f_rt K (some vs) 1 vi (kC K k 1) = none := Option.not_isSome_iff_eq_none.mp (by rw [x_b_eq.mp h43]; decide)
    refine x_iinc (v := 1) F dX6_findRoute_48 (by decide) rfl (by decide) ?_
    refine x_goto F dX6_findRoute_51 rfl ?_
    refine x_iload F dX6_findRoute_11 rfl ?_
    refine x_iconst (v := 3) F dX6_findRoute_13 (by decide) ?_
    refine x_icmp_gt F dX6_findRoute_14 rfl (fun hc => absurd hc (by decide)) (fun _ => ?_)
    refine x_aload_n F dX6_findRoute_17 rfl rfl ?_
    refine x_get (ci := 6) (C := RX6) (T := TX6) (N := 12) (k := 10) F dX6_findRoute_18 rfl inX6 (by decide) q75 rfl hR.main rfl ?_
    refine x_iload F dX6_findRoute_21 rfl ?_
    refine x_put (ci := 4) (C := RX4) (T := TX4) (N := 5) (k := 1) F dX6_findRoute_23 rfl inX4 tyX4 tyX4_ok nmX4 (by decide) q35 rfl rfl hR.route (Nat.le_of_ble_eq_true rfl) rfl rfl ?_
    refine x_wd (fun w12 hw12 => ?_)
    have hLn : (jInt J2 0 (1 + 1)).2.1 0 = nI 2 := by rfl
    have hO : Oth Z K w w12 := hO.trans (by rw [hw12]; exact Oth.set (kind := 4) (idx := 0) rfl _) rfl
    have hR : Rep Z K (jInt J2 0 (1 + 1)) w12 := by rw [hw12]; exact hR.jInt 0 (1 + 1) rfl
    refine x_aload_n F dX6_findRoute_26 rfl rfl ?_
    refine x_get (ci := 6) (C := RX6) (T := TX6) (N := 12) (k := 10) F dX6_findRoute_27 rfl inX6 (by decide) q75 rfl hR.main rfl ?_
    refine x_aload_n F dX6_findRoute_30 rfl rfl ?_
    refine x_get (ci := 6) (C := RX6) (T := TX6) (N := 12) (k := 2) F dX6_findRoute_31 rfl inX6 (by decide) q67 rfl hR.main rfl ?_
    refine x_aload_n F dX6_findRoute_34 rfl rfl ?_
    refine x_aload_n F dX6_findRoute_35 rfl rfl ?_
    refine x_get (ci := 1) (C := RX1) (T := TX1) (N := 8) (k := 5) F dX6_findRoute_36 rfl inX1 (by decide) q255 rfl (hR.cli hk) rfl ?_
    refine x_iconst (v := 0) F dX6_findRoute_39 (by decide) ?_
    refine x_cSi5 F dX6_findRoute_40 (x_gS q215 q216 q1 q217) (c_completes 2 hR hv (kC K k 1) (len := 2) (pl := 0) (by decide) (by rfl) hLn (fun x hx => by cases hx; exact hvs) hS) ⟨rfl, rfl, rfl, xd_X6_completes, ⟨Nat.le_of_ble_eq_true rfl, Nat.le_of_ble_eq_true rfl⟩, Nat.le_of_ble_eq_true rfl, Nat.le_of_ble_eq_true rfl⟩ (Nat.le_of_ble_eq_true rfl) (fun v1 w1 hp => ?_)
    obtain ⟨J3, rfl, hR, hO2, hL2, hS2, _, hr2⟩ := hp
    have hO := hO.trans hO2 rfl
    have hLn := hL2.trans hLn
    have hS : J3.2.2.1 = ((some vs)).map (Z 10) := hS2.trans hS
    refine x_if_eq F dX6_findRoute_43 rfl (fun h43 => ?_) (fun h43 => ?_)
    · have hn2 : f_rt K (some vs) 2 vi (kC K k 1) = none := Option.not_isSome_iff_eq_none.mp (by rw [x_b_eq.mp h43]; decide)
      refine x_iinc (v := 1) F dX6_findRoute_48 (by decide) rfl (by decide) ?_
      refine x_goto F dX6_findRoute_51 rfl ?_
      refine x_iload F dX6_findRoute_11 rfl ?_
      refine x_iconst (v := 3) F dX6_findRoute_13 (by decide) ?_
      refine x_icmp_gt F dX6_findRoute_14 rfl (fun hc => absurd hc (by decide)) (fun _ => ?_)
      refine x_aload_n F dX6_findRoute_17 rfl rfl ?_
      refine x_get (ci := 6) (C := RX6) (T := TX6) (N := 12) (k := 10) F dX6_findRoute_18 rfl inX6 (by decide) q75 rfl hR.main rfl ?_
      refine x_iload F dX6_findRoute_21 rfl ?_
      refine x_put (ci := 4) (C := RX4) (T := TX4) (N := 5) (k := 1) F dX6_findRoute_23 rfl inX4 tyX4 tyX4_ok nmX4 (by decide) q35 rfl rfl hR.route (Nat.le_of_ble_eq_true rfl) rfl rfl ?_
      refine x_wd (fun w13 hw13 => ?_)
      have hLn : (jInt J3 0 (1 + 1 + 1)).2.1 0 = nI 3 := by rfl
      have hO : Oth Z K w w13 := hO.trans (by rw [hw13]; exact Oth.set (kind := 4) (idx := 0) rfl _) rfl
      have hR : Rep Z K (jInt J3 0 (1 + 1 + 1)) w13 := by rw [hw13]; exact hR.jInt 0 (1 + 1 + 1) rfl
      refine x_aload_n F dX6_findRoute_26 rfl rfl ?_
      refine x_get (ci := 6) (C := RX6) (T := TX6) (N := 12) (k := 10) F dX6_findRoute_27 rfl inX6 (by decide) q75 rfl hR.main rfl ?_
      refine x_aload_n F dX6_findRoute_30 rfl rfl ?_
      refine x_get (ci := 6) (C := RX6) (T := TX6) (N := 12) (k := 2) F dX6_findRoute_31 rfl inX6 (by decide) q67 rfl hR.main rfl ?_
      refine x_aload_n F dX6_findRoute_34 rfl rfl ?_
      refine x_aload_n F dX6_findRoute_35 rfl rfl ?_
      refine x_get (ci := 1) (C := RX1) (T := TX1) (N := 8) (k := 5) F dX6_findRoute_36 rfl inX1 (by decide) q255 rfl (hR.cli hk) rfl ?_
      refine x_iconst (v := 0) F dX6_findRoute_39 (by decide) ?_
      refine x_cSi5 F dX6_findRoute_40 (x_gS q215 q216 q1 q217) (c_completes 3 hR hv (kC K k 1) (len := 3) (pl := 0) (by decide) (by rfl) hLn (fun x hx => by cases hx; exact hvs) hS) ⟨rfl, rfl, rfl, xd_X6_completes, ⟨Nat.le_of_ble_eq_true rfl, Nat.le_of_ble_eq_true rfl⟩, Nat.le_of_ble_eq_true rfl, Nat.le_of_ble_eq_true rfl⟩ (Nat.le_of_ble_eq_true rfl) (fun v1 w1 hp => ?_)
      obtain ⟨J4, rfl, hR, hO2, hL2, hS2, _, hr3⟩ := hp
      have hO := hO.trans hO2 rfl
      have hLn := hL2.trans hLn
      have hS : J4.2.2.1 = ((some vs)).map (Z 10) := hS2.trans hS
      refine x_if_eq F dX6_findRoute_43 rfl (fun h43 => ?_) (fun h43 => ?_)
      · have hn3 : f_rt K (some vs) 3 vi (kC K k 1) = none := Option.not_isSome_iff_eq_none.mp (by rw [x_b_eq.mp h43]; decide)
        refine x_iinc (v := 1) F dX6_findRoute_48 (by decide) rfl (by decide) ?_
        refine x_goto F dX6_findRoute_51 rfl ?_
        refine x_iload F dX6_findRoute_11 rfl ?_
        refine x_iconst (v := 3) F dX6_findRoute_13 (by decide) ?_
        refine x_icmp_gt F dX6_findRoute_14 rfl (fun _ => ?_) (fun hc => absurd hc (by decide))
        refine x_aload_n F dX6_findRoute_54 rfl rfl ?_
        refine x_get (ci := 6) (C := RX6) (T := TX6) (N := 12) (k := 10) F dX6_findRoute_55 rfl inX6 (by decide) q75 rfl hR.main rfl ?_
        refine x_iconst (v := 0) F dX6_findRoute_58 (by decide) ?_
        refine x_put (ci := 4) (C := RX4) (T := TX4) (N := 5) (k := 1) F dX6_findRoute_59 rfl inX4 tyX4 tyX4_ok nmX4 (by decide) q35 rfl rfl hR.route (Nat.le_of_ble_eq_true rfl) rfl rfl ?_
        refine x_wd (fun w20 hw20 => ?_)
        have hO : Oth Z K w w20 := hO.trans (by rw [hw20]; exact Oth.set (kind := 4) (idx := 0) rfl _) rfl
        have hR : Rep Z K (jInt J4 0 0) w20 := by rw [hw20]; exact hR.jInt 0 0 rfl
        have hno := (f_best3 hn1 hn2).trans hn3
        refine x_iconst (v := 0) F dX6_findRoute_62 (by decide) ?_
        refine x_iret F rfl rfl dX6_findRoute_63 (Nat.le_refl _) (Nat.le_refl _) ?_
        exact ⟨_, rfl, _, by rw [hno]; rfl, hR, hO, (fun r e => by rw [hno] at e; cases e), fun _ => rfl⟩
      · obtain ⟨r0, e3⟩ := Option.isSome_iff_exists.mp (x_b_ne.mp h43)
        have hfin := FR_of (w := w) (n := 3) (by decide) ((f_best3 hn1 hn2).trans e3) hR hO hLn (hr3 r0 e3)
        refine x_iconst (v := 1) F dX6_findRoute_46 (by decide) ?_
        refine x_iret F rfl rfl dX6_findRoute_47 (Nat.le_refl _) (Nat.le_refl _) ?_
        obtain ⟨J9, g1, g2⟩ := hfin
        exact ⟨_, rfl, J9, g1, g2⟩
    · obtain ⟨r0, e2⟩ := Option.isSome_iff_exists.mp (x_b_ne.mp h43)
      have hfin := FR_of (w := w) (n := 2) (by decide) (f_best2 hn1 e2) hR hO hLn (hr2 r0 e2)
      refine x_iconst (v := 1) F dX6_findRoute_46 (by decide) ?_
      refine x_iret F rfl rfl dX6_findRoute_47 (Nat.le_refl _) (Nat.le_refl _) ?_
      obtain ⟨J9, g1, g2⟩ := hfin
      exact ⟨_, rfl, J9, g1, g2⟩
  · obtain ⟨r0, e1⟩ := Option.isSome_iff_exists.mp (x_b_ne.mp h43)
    have hfin := FR_of (w := w) (n := 1) (by decide) (f_best1 e1) hR hO hLn (hr1 r0 e1)
    refine x_iconst (v := 1) F dX6_findRoute_46 (by decide) ?_
    refine x_iret F rfl rfl dX6_findRoute_47 (Nat.le_refl _) (Nat.le_refl _) ?_
    obtain ⟨J9, g1, g2⟩ := hfin
    exact ⟨_, rfl, J9, g1, g2⟩
set_option maxRecDepth 100000 in
set_option maxHeartbeats 4000000 in
theorem c_findOwnRoute (hR : Rep Z K J w) {k : Nat} (hk : k < nc K) : Ci l D dA B yX6_findOwnRoute wX6_findOwnRoute 6 [.ref (Z 0 0), .ref (Z 13 k)] w (FR Z K w (f_best K k (kCV K k) none)) := by
  refine x_Ct.of (cc := cX6_findOwnRoute) (maxL := 2) (by decide) rfl (Nat.le_of_ble_eq_true rfl) ?_
  intro p e s m below meth c F
  refine x_aload_n F dX6_findOwnRoute_0 rfl rfl ?_
  refine x_aload_n F dX6_findOwnRoute_1 rfl rfl ?_
  refine x_aload_n F dX6_findOwnRoute_2 rfl rfl ?_
  refine x_get (ci := 1) (C := RX1) (T := TX1) (N := 8) (k := 4) F dX6_findOwnRoute_3 rfl inX1 (by decide) q253 rfl (hR.cli hk) rfl ?_
  refine x_null F dX6_findOwnRoute_6 ?_
  refine x_cVi3 (ci := 6) (C := RX6) (T := TX6) (N := 12) F dX6_findOwnRoute_7 (x_gV q212 q213 q454 q1 q214) rfl (c_findRouteN hR hk (hR.cv hk)) ⟨rfl, rfl, rfl, xd_X6_findRoute, ⟨Nat.le_of_ble_eq_true rfl, Nat.le_of_ble_eq_true rfl⟩, Nat.le_of_ble_eq_true rfl, Nat.le_of_ble_eq_true rfl⟩ rfl hR.main (Nat.le_of_ble_eq_true rfl) (fun v1 w1 hp => ?_)
  obtain ⟨J1, rfl, h5⟩ := hp
  refine x_iret F rfl x_b_nar dX6_findOwnRoute_10 (Nat.le_refl _) (Nat.le_refl _) ?_
  exact ⟨_, rfl, J1, rfl, h5⟩
def f_outc (K : kT) (k : Nat) (s h b : Int32) : Int32 := if s = 0 then 0 else if s = 2 then (if (f_best K k (kCV K k) (some (kCV K k))).isSome then 1 else 4) else if f_brown (kV K (kCV K k) 6) h then 2 else if f_quota (kV K (kCV K k) 6) h ≤ b then 3 else 0
set_option maxRecDepth 100000 in
set_option maxHeartbeats 4000000 in
theorem c_outcomeOf (hR : Rep Z K J w) {k : Nat} (hk : k < nc K) (s0 h b : Int32) : Ci l D dA B yX6_outcomeOf wX6_outcomeOf 6 [.ref (Z 0 0), .ref (Z 13 k), .int s0, .int h, .int b] w (QP Z K w (f_outc K k s0 h b)) := by
  refine x_Ct.of (cc := cX6_outcomeOf) (maxL := 6) (by decide) rfl (Nat.le_of_ble_eq_true rfl) ?_
  intro p e s m below meth c F
  refine x_aload_n F dX6_outcomeOf_0 rfl rfl ?_
  refine x_get (ci := 1) (C := RX1) (T := TX1) (N := 8) (k := 4) F dX6_outcomeOf_1 rfl inX1 (by decide) q253 rfl (hR.cli hk) rfl ?_
  refine x_astore F dX6_outcomeOf_4 (by decide) ?_
  refine x_iload_n F dX6_outcomeOf_6 rfl rfl ?_
  refine x_if_ne F dX6_outcomeOf_7 rfl (fun h7 => ?_) (fun h7 => ?_)
  · refine x_iload_n F dX6_outcomeOf_12 rfl rfl ?_
    refine x_iconst (v := 2) F dX6_outcomeOf_13 (by decide) ?_
    refine x_icmp_ne F dX6_outcomeOf_14 rfl (fun h14 => ?_) (fun h14 => ?_)
    · refine x_aload F dX6_outcomeOf_35 rfl ?_
      refine x_get (ci := 5) (C := RX5) (T := TX5) (N := 9) (k := 4) F dX6_outcomeOf_37 rfl inX5 (by decide) q147 rfl (hR.ver (hR.cv hk)) rfl ?_
      refine x_iload_n F dX6_outcomeOf_40 rfl rfl ?_
      refine x_cVi1 (ci := 3) (C := RX3) (T := TX3) (N := 4) F dX6_outcomeOf_41 (x_gV q326 q327 q328 q3 q329) rfl (c_isBrownedOut (hR.ret (hR.cv hk)) (hR.ask (hR.cv hk)) h) ⟨rfl, rfl, rfl, xd_X3_isBrownedOut, ⟨Nat.le_of_ble_eq_true rfl, Nat.le_of_ble_eq_true rfl⟩, Nat.le_of_ble_eq_true rfl, Nat.le_of_ble_eq_true rfl⟩ rfl (hR.ret (hR.cv hk)) (Nat.le_of_ble_eq_true rfl) (fun v1 w1 hp => ?_)
      obtain ⟨rfl, hw9⟩ := hp
      replace hw9 := hw9.symm
      subst hw9
      refine x_if_eq F dX6_outcomeOf_44 rfl (fun h44 => ?_) (fun h44 => ?_)
      · have g44 := x_b_eq.mp h44
        refine x_iload F dX6_outcomeOf_49 rfl ?_
        refine x_aload F dX6_outcomeOf_51 rfl ?_
        refine x_get (ci := 5) (C := RX5) (T := TX5) (N := 9) (k := 4) F dX6_outcomeOf_53 rfl inX5 (by decide) q147 rfl (hR.ver (hR.cv hk)) rfl ?_
        refine x_iload_n F dX6_outcomeOf_56 rfl rfl ?_
        refine x_cVi1 (ci := 3) (C := RX3) (T := TX3) (N := 4) F dX6_outcomeOf_57 (x_gV q330 q331 q332 q3 q333) rfl (c_quota (hR.ret (hR.cv hk)) (hR.ask (hR.cv hk)) h) ⟨rfl, rfl, rfl, xd_X3_quota, ⟨Nat.le_of_ble_eq_true rfl, Nat.le_of_ble_eq_true rfl⟩, Nat.le_of_ble_eq_true rfl, Nat.le_of_ble_eq_true rfl⟩ rfl (hR.ret (hR.cv hk)) (Nat.le_of_ble_eq_true rfl) (fun v1 w1 hp => ?_)
        obtain ⟨rfl, hw9⟩ := hp
        replace hw9 := hw9.symm
        subst hw9
        refine x_icmp_lt F dX6_outcomeOf_60 rfl (fun h60 => ?_) (fun h60 => ?_)
        · have g60 : (if f_quota (kV K (kCV K k) 6) h ≤ b then (3 : Int32) else 0) = 0 := if_neg (Int32.not_le.mpr h60)
          refine x_iconst (v := 0) F dX6_outcomeOf_67 (by decide) ?_
          refine x_iret F rfl rfl dX6_outcomeOf_68 (Nat.le_refl _) (Nat.le_refl _) ?_
          exact ⟨_, rfl, _, congrArg Value.int (by unfold f_outc; rw [if_neg h7, if_neg h14, g44, g60]; rfl), hR, Oth.rfl⟩
        · have g60 : (if f_quota (kV K (kCV K k) 6) h ≤ b then (3 : Int32) else 0) = 3 := if_pos (Int32.not_lt.mp h60)
          refine x_iconst (v := 3) F dX6_outcomeOf_63 (by decide) ?_
          refine x_goto F dX6_outcomeOf_64 rfl ?_
          refine x_iret F rfl rfl dX6_outcomeOf_68 (Nat.le_refl _) (Nat.le_refl _) ?_
          exact ⟨_, rfl, _, congrArg Value.int (by unfold f_outc; rw [if_neg h7, if_neg h14, g44, g60]; rfl), hR, Oth.rfl⟩
      · have g44 := x_b_ne.mp h44
        refine x_iconst (v := 2) F dX6_outcomeOf_47 (by decide) ?_
        refine x_iret F rfl rfl dX6_outcomeOf_48 (Nat.le_refl _) (Nat.le_refl _) ?_
        exact ⟨_, rfl, _, congrArg Value.int (by unfold f_outc; rw [if_neg h7, if_neg h14, g44]; rfl), hR, Oth.rfl⟩
    · refine x_aload_n F dX6_outcomeOf_17 rfl rfl ?_
      refine x_aload_n F dX6_outcomeOf_18 rfl rfl ?_
      refine x_aload F dX6_outcomeOf_19 rfl ?_
      refine x_aload F dX6_outcomeOf_21 rfl ?_
      refine x_cVi3 (ci := 6) (C := RX6) (T := TX6) (N := 12) F dX6_outcomeOf_23 (x_gV q212 q213 q454 q1 q214) rfl (c_findRouteS hR hk (hR.cv hk) (hR.cv hk)) ⟨rfl, rfl, rfl, xd_X6_findRoute, ⟨Nat.le_of_ble_eq_true rfl, Nat.le_of_ble_eq_true rfl⟩, Nat.le_of_ble_eq_true rfl, Nat.le_of_ble_eq_true rfl⟩ rfl hR.main (Nat.le_of_ble_eq_true rfl) (fun v1 w1 hp => ?_)
      obtain ⟨J1, rfl, hR, hO, _, _⟩ := hp
      refine x_if_eq F dX6_outcomeOf_26 rfl (fun h26 => ?_) (fun h26 => ?_)
      · have g26 := x_b_eq.mp h26
        refine x_iconst (v := 4) F dX6_outcomeOf_33 (by decide) ?_
        refine x_iret F rfl rfl dX6_outcomeOf_34 (Nat.le_refl _) (Nat.le_refl _) ?_
        exact ⟨_, rfl, _, congrArg Value.int (by unfold f_outc; rw [if_neg h7, if_pos h14, g26]; rfl), hR, hO⟩
      · have g26 := x_b_ne.mp h26
        refine x_iconst (v := 1) F dX6_outcomeOf_29 (by decide) ?_
        refine x_goto F dX6_outcomeOf_30 rfl ?_
        refine x_iret F rfl rfl dX6_outcomeOf_34 (Nat.le_refl _) (Nat.le_refl _) ?_
        exact ⟨_, rfl, _, congrArg Value.int (by unfold f_outc; rw [if_neg h7, if_pos h14, g26]; rfl), hR, hO⟩
  · refine x_iconst (v := 0) F dX6_outcomeOf_10 (by decide) ?_
    refine x_iret F rfl rfl dX6_outcomeOf_11 (Nat.le_refl _) (Nat.le_refl _) ?_
    exact ⟨_, rfl, _, congrArg Value.int (if_pos h7).symm, hR, Oth.rfl⟩
def f_then (K : kT) (k i : Nat) (h : Int32) (g : Bool) : Bool := f_caller K k i h || (g && (decide (kCV K k = i) && f_caller K k i (kG K 0)))
set_option maxRecDepth 100000 in
set_option maxHeartbeats 4000000 in
theorem c_isCallerThen (hR : Rep Z K J w) {k i : Nat} (hk : k < nc K) (hi : vOk K i) (h : Int32) (g : Bool) : Ci l D dA B yX6_isCallerThen wX6_isCallerThen 2 [.ref (Z 0 0), .ref (Z 13 k), .ref (Z 10 i), .int h, .int (x_b g)] w (fun v w1 => v = .int (x_b (f_then K k i h g)) ∧ w1 = w) := by
  refine x_Ct.of (cc := cX6_isCallerThen) (maxL := 5) (by decide) rfl (Nat.le_of_ble_eq_true rfl) ?_
  intro p e s m below meth c F
  refine x_aload_n F dX6_isCallerThen_0 rfl rfl ?_
  refine x_aload_n F dX6_isCallerThen_1 rfl rfl ?_
  refine x_iload_n F dX6_isCallerThen_2 rfl rfl ?_
  refine x_cVi2 (ci := 1) (C := RX1) (T := TX1) (N := 8) F dX6_isCallerThen_3 (x_gV q186 q187 q188 q13 q189) rfl (c_isCallerOf hR hk hi h) ⟨rfl, rfl, rfl, xd_X1_isCallerOf, ⟨Nat.le_of_ble_eq_true rfl, Nat.le_of_ble_eq_true rfl⟩, Nat.le_of_ble_eq_true rfl, Nat.le_of_ble_eq_true rfl⟩ rfl (hR.cli hk) (Nat.le_of_ble_eq_true rfl) (fun v1 w1 hp => ?_)
  obtain ⟨rfl, hw9⟩ := hp
  replace hw9 := hw9.symm
  subst hw9
  refine x_if_ne F dX6_isCallerThen_6 rfl (fun h6 => ?_) (fun h6 => ?_)
  · have hp : f_then K k i h g = true := by unfold f_then; rw [x_b_ne.mp h6]; rfl
    refine x_iconst (v := 1) F dX6_isCallerThen_34 (by decide) ?_
    refine x_goto F dX6_isCallerThen_35 rfl ?_
    refine x_iret F rfl rfl dX6_isCallerThen_39 (Nat.le_refl _) (Nat.le_refl _) ?_
    exact ⟨_, rfl, congrArg Value.int (by rw [hp]; rfl), rfl⟩
  · have g6 : f_caller K k i h = false := by cases hq : f_caller K k i h with | false => rfl | true => rw [hq] at h6; exact absurd h6 (by decide)
    refine x_iload F dX6_isCallerThen_9 rfl ?_
    refine x_if_eq F dX6_isCallerThen_11 rfl (fun h11 => ?_) (fun h11 => ?_)
    · have hp : f_then K k i h g = false := by unfold f_then; rw [g6, x_b_eq.mp h11]; rfl
      refine x_iconst (v := 0) F dX6_isCallerThen_38 (by decide) ?_
      refine x_iret F rfl rfl dX6_isCallerThen_39 (Nat.le_refl _) (Nat.le_refl _) ?_
      exact ⟨_, rfl, congrArg Value.int (by rw [hp]; rfl), rfl⟩
    · have g11 := x_b_ne.mp h11
      refine x_aload_n F dX6_isCallerThen_14 rfl rfl ?_
      refine x_get (ci := 1) (C := RX1) (T := TX1) (N := 8) (k := 4) F dX6_isCallerThen_15 rfl inX1 (by decide) q253 rfl (hR.cli hk) rfl ?_
      refine x_aload_n F dX6_isCallerThen_18 rfl rfl ?_
      refine x_acmp_neR F dX6_isCallerThen_19 rfl (fun h19 => ?_) (fun h19 => ?_)
      · rw [hR.veq (hR.cv hk) hi] at h19
        have hp : f_then K k i h g = false := by unfold f_then; rw [g6, g11, decide_eq_false h19]; rfl
        refine x_iconst (v := 0) F dX6_isCallerThen_38 (by decide) ?_
        refine x_iret F rfl rfl dX6_isCallerThen_39 (Nat.le_refl _) (Nat.le_refl _) ?_
        exact ⟨_, rfl, congrArg Value.int (by rw [hp]; rfl), rfl⟩
      · rw [hR.veq (hR.cv hk) hi] at h19
        refine x_aload_n F dX6_isCallerThen_22 rfl rfl ?_
        refine x_aload_n F dX6_isCallerThen_23 rfl rfl ?_
        refine x_aload_n F dX6_isCallerThen_24 rfl rfl ?_
        refine x_get (ci := 6) (C := RX6) (T := TX6) (N := 12) (k := 6) F dX6_isCallerThen_25 rfl inX6 (by decide) q71 rfl hR.main rfl ?_
        refine x_cVi2 (ci := 1) (C := RX1) (T := TX1) (N := 8) F dX6_isCallerThen_28 (x_gV q186 q187 q188 q13 q189) rfl (c_isCallerOf hR hk hi (kG K 0)) ⟨rfl, rfl, rfl, xd_X1_isCallerOf, ⟨Nat.le_of_ble_eq_true rfl, Nat.le_of_ble_eq_true rfl⟩, Nat.le_of_ble_eq_true rfl, Nat.le_of_ble_eq_true rfl⟩ rfl (hR.cli hk) (Nat.le_of_ble_eq_true rfl) (fun v1 w1 hp => ?_)
        obtain ⟨rfl, hw9⟩ := hp
        replace hw9 := hw9.symm
        subst hw9
        refine x_if_eq F dX6_isCallerThen_31 rfl (fun h31 => ?_) (fun h31 => ?_)
        · have hp : f_then K k i h g = false := by unfold f_then; rw [g6, g11, x_b_eq.mp h31, Bool.and_false]; rfl
          refine x_iconst (v := 0) F dX6_isCallerThen_38 (by decide) ?_
          refine x_iret F rfl rfl dX6_isCallerThen_39 (Nat.le_refl _) (Nat.le_refl _) ?_
          exact ⟨_, rfl, congrArg Value.int (by rw [hp]; rfl), rfl⟩
        · have hp : f_then K k i h g = true := by unfold f_then; rw [g6, g11, x_b_ne.mp h31, decide_eq_true h19]; rfl
          refine x_iconst (v := 1) F dX6_isCallerThen_34 (by decide) ?_
          refine x_goto F dX6_isCallerThen_35 rfl ?_
          refine x_iret F rfl rfl dX6_isCallerThen_39 (Nat.le_refl _) (Nat.le_refl _) ?_
          exact ⟨_, rfl, congrArg Value.int (by rw [hp]; rfl), rfl⟩
def p_hin (K : kT) (i : Nat) (h : Int32) (g : Bool) (k : Nat) : Bool := decide (k < nc K) && ((!f_warned (kVA K i) (kV K i 8) (kC K k 0) h) && (f_then K k i h g && !(f_best K k i (some i)).isSome))
theorem nI_eq0 {n : Nat} (h : n < 2 ^ 31) : nI n = 0 ↔ n = 0 := nI_eq (b := 0) h (by decide)
set_option maxRecDepth 100000 in
set_option maxHeartbeats 4000000 in
theorem c_countHinderers (hR : Rep Z K J w) {i : Nat} (hi : vOk K i) (h : Int32) (g : Bool) : Ci l D dA B yX6_countHinderers wX6_countHinderers 7 [.ref (Z 0 0), .ref (Z 10 i), .ref (Z 11 i), .int h, .int (x_b g)] w (QP Z K w (nI (f_cnt (p_hin K i h g) 10))) := by
  refine x_Ct.of (cc := cX6_countHinderers) (maxL := 8) (by decide) rfl (Nat.le_of_ble_eq_true rfl) ?_
  intro p e s m below meth c F
  have loop : ∀ n1 k, k + n1 = 10 → ∀ Jz wz, Rep Z K Jz wz → Oth Z K w wz → X p l e (rmd 7 0 0) s m #[.ref (Z 0 0), .ref (Z 10 i), .ref (Z 11 i), .int h, .int (x_b g)] below meth c (MQ below (x_Q D dA vwCl tyL0 B (fun r w1 => ∃ v, r = some v ∧ (QP Z K w (nI (f_cnt (p_hin K i h g) 10)) v w1))) #[.ref (Z 0 0), .ref (Z 10 i), .ref (Z 11 i), .int h, .int (x_b g)] s 0 0 (fun q => B ≤ q)) D dA vwCl B 8 0 0 6 [(0, .ref (Z 0 0)), (1, .ref (Z 10 i)), (2, .ref (Z 11 i)), (3, .int h), (4, .int (x_b g)), (5, .int (nI (f_cnt (p_hin K i h g) k))), (6, .int (nI k))] [] wz := by
    intro n1
    induction n1 with
    | zero =>
      intro k hk Jz wz hR hO
      obtain rfl : k = 10 := by omega
      refine x_iload F dX6_countHinderers_6 rfl ?_
      refine x_aload_n F dX6_countHinderers_8 rfl rfl ?_
      refine x_get (ci := 6) (C := RX6) (T := TX6) (N := 12) (k := 1) F dX6_countHinderers_9 rfl inX6 (by decide) q66 rfl hR.main rfl ?_
      refine x_alen (v := 10) F dX6_countHinderers_12 rfl hR.clients rfl ?_
      refine x_icmp_ge F dX6_countHinderers_13 rfl (fun h13 => ?_) (fun hc => absurd hc (fun q => q (Int32.le_refl _)))
      refine x_iload F dX6_countHinderers_76 rfl ?_
      refine x_iret F rfl rfl dX6_countHinderers_78 (Nat.le_refl _) (Nat.le_refl _) ?_
      exact ⟨_, rfl, _, rfl, hR, hO⟩
    | succ n1 ih =>
      intro k hk Jz wz hR hO
      refine x_iload F dX6_countHinderers_6 rfl ?_
      refine x_aload_n F dX6_countHinderers_8 rfl rfl ?_
      refine x_get (ci := 6) (C := RX6) (T := TX6) (N := 12) (k := 1) F dX6_countHinderers_9 rfl inX6 (by decide) q66 rfl hR.main rfl ?_
      refine x_alen (v := 10) F dX6_countHinderers_12 rfl hR.clients rfl ?_
      refine x_icmp_ge F dX6_countHinderers_13 rfl (fun hc => absurd hc (nI_ge (b := 10) (by omega) (by decide))) (fun h13 => ?_)
      refine x_aload_n F dX6_countHinderers_16 rfl rfl ?_
      refine x_get (ci := 6) (C := RX6) (T := TX6) (N := 12) (k := 1) F dX6_countHinderers_17 rfl inX6 (by decide) q66 rfl hR.main rfl ?_
      refine x_iload F dX6_countHinderers_20 rfl ?_
      refine x_aaldN F dX6_countHinderers_22 rfl hR.clients (by omega) (by decide) ?_
      by_cases hk2 : k < nc K
      · simp only [if_pos hk2]
        refine x_astore F dX6_countHinderers_23 (by decide) ?_
        refine x_aload F dX6_countHinderers_25 rfl ?_
        refine x_ifnull F dX6_countHinderers_27 ?_
        refine x_aload_n F dX6_countHinderers_30 rfl rfl ?_
        refine x_aload F dX6_countHinderers_31 rfl ?_
        refine x_get (ci := 1) (C := RX1) (T := TX1) (N := 8) (k := 0) F dX6_countHinderers_33 rfl inX1 (by decide) q246 rfl (hR.cli hk2) rfl ?_
        refine x_iload_n F dX6_countHinderers_36 rfl rfl ?_
        refine x_cVi2 (ci := 3) (C := RX3) (T := TX3) (N := 4) F dX6_countHinderers_37 (x_gV q197 q198 q199 q3 q200) rfl (c_isWarned (hR.ret hi) (hR.ask hi) (kC K k 0) h) ⟨rfl, rfl, rfl, xd_X3_isWarned, ⟨Nat.le_of_ble_eq_true rfl, Nat.le_of_ble_eq_true rfl⟩, Nat.le_of_ble_eq_true rfl, Nat.le_of_ble_eq_true rfl⟩ rfl (hR.ret hi) (Nat.le_of_ble_eq_true rfl) (fun v1 w1 hp => ?_)
        obtain ⟨rfl, hw9⟩ := hp
        replace hw9 := hw9.symm
        subst hw9
        refine x_if_ne F dX6_countHinderers_40 rfl (fun h40 => ?_) (fun h40 => ?_)
        · have hp : p_hin K i h g k = false := by unfold p_hin; rw [x_b_ne.mp h40, Bool.not_true, Bool.false_and, Bool.and_false]
          refine x_iincN F dX6_countHinderers_70 (by decide) rfl (by decide) ?_
          refine x_goto F dX6_countHinderers_73 rfl ?_
          have h9 := ih (k + 1) (by omega) _ _ hR hO
          first
            | (rw [f_cnt_t (p := p_hin K i h g) (k := k) hp] at h9; exact x_lk h9 ⟨rfl, rfl, rfl, rfl, rfl, rfl, rfl, trivial⟩)
            | (rw [f_cnt_f (p := p_hin K i h g) (k := k) hp] at h9; exact x_lk h9 ⟨rfl, rfl, rfl, rfl, rfl, rfl, rfl, trivial⟩)
        · have g40 : f_warned (kVA K i) (kV K i 8) (kC K k 0) h = false := by cases hq : f_warned (kVA K i) (kV K i 8) (kC K k 0) h with | false => rfl | true => rw [hq] at h40; exact absurd h40 (by decide)
          refine x_aload_n F dX6_countHinderers_43 rfl rfl ?_
          refine x_aload F dX6_countHinderers_44 rfl ?_
          refine x_aload_n F dX6_countHinderers_46 rfl rfl ?_
          refine x_iload_n F dX6_countHinderers_47 rfl rfl ?_
          refine x_iload F dX6_countHinderers_48 rfl ?_
          refine x_cVi4 (ci := 6) (C := RX6) (T := TX6) (N := 12) F dX6_countHinderers_50 (x_gV q209 q210 q453 q1 q211) rfl (c_isCallerThen hR hk2 hi h g) ⟨rfl, rfl, rfl, xd_X6_isCallerThen, ⟨Nat.le_of_ble_eq_true rfl, Nat.le_of_ble_eq_true rfl⟩, Nat.le_of_ble_eq_true rfl, Nat.le_of_ble_eq_true rfl⟩ rfl hR.main (Nat.le_of_ble_eq_true rfl) (fun v1 w1 hp => ?_)
          obtain ⟨rfl, hw9⟩ := hp
          replace hw9 := hw9.symm
          subst hw9
          refine x_if_eq F dX6_countHinderers_53 rfl (fun h53 => ?_) (fun h53 => ?_)
          · have hp : p_hin K i h g k = false := by unfold p_hin; rw [x_b_eq.mp h53, Bool.false_and, Bool.and_false, Bool.and_false]
            refine x_iincN F dX6_countHinderers_70 (by decide) rfl (by decide) ?_
            refine x_goto F dX6_countHinderers_73 rfl ?_
            have h9 := ih (k + 1) (by omega) _ _ hR hO
            first
              | (rw [f_cnt_t (p := p_hin K i h g) (k := k) hp] at h9; exact x_lk h9 ⟨rfl, rfl, rfl, rfl, rfl, rfl, rfl, trivial⟩)
              | (rw [f_cnt_f (p := p_hin K i h g) (k := k) hp] at h9; exact x_lk h9 ⟨rfl, rfl, rfl, rfl, rfl, rfl, rfl, trivial⟩)
          · have g53 := x_b_ne.mp h53
            refine x_aload_n F dX6_countHinderers_56 rfl rfl ?_
            refine x_aload F dX6_countHinderers_57 rfl ?_
            refine x_aload_n F dX6_countHinderers_59 rfl rfl ?_
            refine x_aload_n F dX6_countHinderers_60 rfl rfl ?_
            refine x_cVi3 (ci := 6) (C := RX6) (T := TX6) (N := 12) F dX6_countHinderers_61 (x_gV q212 q213 q454 q1 q214) rfl (c_findRouteS hR hk2 hi hi) ⟨rfl, rfl, rfl, xd_X6_findRoute, ⟨Nat.le_of_ble_eq_true rfl, Nat.le_of_ble_eq_true rfl⟩, Nat.le_of_ble_eq_true rfl, Nat.le_of_ble_eq_true rfl⟩ rfl hR.main (Nat.le_of_ble_eq_true rfl) (fun v1 w1 hp => ?_)
            obtain ⟨J2, rfl, hR, hO2, _, _⟩ := hp
            have hO := hO.trans hO2 rfl
            refine x_if_ne F dX6_countHinderers_64 rfl (fun h64 => ?_) (fun h64 => ?_)
            · have hp : p_hin K i h g k = false := by unfold p_hin; rw [x_b_ne.mp h64, Bool.not_true, Bool.and_false, Bool.and_false, Bool.and_false]
              refine x_iincN F dX6_countHinderers_70 (by decide) rfl (by decide) ?_
              refine x_goto F dX6_countHinderers_73 rfl ?_
              have h9 := ih (k + 1) (by omega) _ _ hR hO
              first
                | (rw [f_cnt_t (p := p_hin K i h g) (k := k) hp] at h9; exact x_lk h9 ⟨rfl, rfl, rfl, rfl, rfl, rfl, rfl, trivial⟩)
                | (rw [f_cnt_f (p := p_hin K i h g) (k := k) hp] at h9; exact x_lk h9 ⟨rfl, rfl, rfl, rfl, rfl, rfl, rfl, trivial⟩)
            · have g64 : (f_best K k i (some i)).isSome = false := by cases hq : (f_best K k i (some i)).isSome with | false => rfl | true => rw [hq] at h64; exact absurd h64 (by decide)
              have hp : p_hin K i h g k = true := by unfold p_hin; rw [g64, g53, g40, decide_eq_true hk2]; rfl
              refine x_iincN F dX6_countHinderers_67 (by decide) rfl (by decide) ?_
              refine x_iincN F dX6_countHinderers_70 (by decide) rfl (by decide) ?_
              refine x_goto F dX6_countHinderers_73 rfl ?_
              have h9 := ih (k + 1) (by omega) _ _ hR hO
              first
                | (rw [f_cnt_t (p := p_hin K i h g) (k := k) hp] at h9; exact x_lk h9 ⟨rfl, rfl, rfl, rfl, rfl, rfl, rfl, trivial⟩)
                | (rw [f_cnt_f (p := p_hin K i h g) (k := k) hp] at h9; exact x_lk h9 ⟨rfl, rfl, rfl, rfl, rfl, rfl, rfl, trivial⟩)
      · simp only [if_neg hk2]
        have hp : p_hin K i h g k = false := by unfold p_hin; rw [decide_eq_false hk2]; rfl
        refine x_astoreN F dX6_countHinderers_23 (by decide) ?_
        refine x_aloadN F dX6_countHinderers_25 rfl ?_
        refine x_ifnullN F dX6_countHinderers_27 rfl ?_
        refine x_iincN F dX6_countHinderers_70 (by decide) rfl (by decide) ?_
        refine x_goto F dX6_countHinderers_73 rfl ?_
        have h9 := ih (k + 1) (by omega) _ _ hR hO
        first
          | (rw [f_cnt_t (p := p_hin K i h g) (k := k) hp] at h9; exact x_lk h9 ⟨rfl, rfl, rfl, rfl, rfl, rfl, rfl, trivial⟩)
          | (rw [f_cnt_f (p := p_hin K i h g) (k := k) hp] at h9; exact x_lk h9 ⟨rfl, rfl, rfl, rfl, rfl, rfl, rfl, trivial⟩)
  refine x_iconst (v := 0) F dX6_countHinderers_0 (by decide) ?_
  refine x_istore F dX6_countHinderers_1 (by decide) ?_
  refine x_iconst (v := 0) F dX6_countHinderers_3 (by decide) ?_
  refine x_istore F dX6_countHinderers_4 (by decide) ?_
  exact x_lk (loop 10 0 (by omega) J w hR Oth.rfl) ⟨rfl, rfl, rfl, rfl, rfl, rfl, rfl, trivial⟩
/-- in how many hours nobody hinders, looked for at an end and at those that are put off -/
def f_till (K : kT) (i : Nat) (g : Bool) (n : Nat) (en : Int32) : Int32 := match n with
  | 0 => -1
  | n + 1 => if f_cnt (p_hin K i en g) 10 = 0 then en - kG K 0 else f_till K i g n (en + 24)
set_option maxRecDepth 100000 in
set_option maxHeartbeats 4000000 in
theorem c_hoursTillGone (hR : Rep Z K J w) {i : Nat} (hi : vOk K i) (g : Bool) : Ci l D dA B yX6_hoursTillGone wX6_hoursTillGone 8 [.ref (Z 0 0), .ref (Z 10 i), .ref (Z 11 i), .int (x_b g)] w (QP Z K w (f_till K i g 100 (kV K i 7))) := by
  refine x_Ct.of (cc := cX6_hoursTillGone) (maxL := 6) (by decide) rfl (Nat.le_of_ble_eq_true rfl) ?_
  intro p e s m below meth c F
  have loop : ∀ n1 k, k + n1 = 100 → ∀ en Jz wz, Rep Z K Jz wz → Oth Z K w wz → f_till K i g 100 (kV K i 7) = f_till K i g n1 en → X p l e (rmd 8 0 0) s m #[.ref (Z 0 0), .ref (Z 10 i), .ref (Z 11 i), .int (x_b g)] below meth c (MQ below (x_Q D dA vwCl tyL0 B (fun r w1 => ∃ v, r = some v ∧ (QP Z K w (f_till K i g 100 (kV K i 7)) v w1))) #[.ref (Z 0 0), .ref (Z 10 i), .ref (Z 11 i), .int (x_b g)] s 0 0 (fun q => B ≤ q)) D dA vwCl B 6 0 0 9 [(0, .ref (Z 0 0)), (1, .ref (Z 10 i)), (2, .ref (Z 11 i)), (3, .int (x_b g)), (4, .int en), (5, .int (nI k))] [] wz := by
    intro n1
    induction n1 with
    | zero =>
      intro k hk en Jz wz hR hO hf
      obtain rfl : k = 100 := by omega
      refine x_iload F dX6_hoursTillGone_9 rfl ?_
      refine x_bipush (v := 100) F dX6_hoursTillGone_11 (by decide) ?_
      refine x_icmp_ge F dX6_hoursTillGone_13 rfl (fun h13 => ?_) (fun hc => absurd hc (fun q => q (Int32.le_refl _)))
      refine x_iconst (v := (-1)) F dX6_hoursTillGone_45 (by decide) ?_
      refine x_iret F rfl rfl dX6_hoursTillGone_46 (Nat.le_refl _) (Nat.le_refl _) ?_
      exact ⟨_, rfl, _, by rw [hf]; rfl, hR, hO⟩
    | succ n1 ih =>
      intro k hk en Jz wz hR hO hf
      refine x_iload F dX6_hoursTillGone_9 rfl ?_
      refine x_bipush (v := 100) F dX6_hoursTillGone_11 (by decide) ?_
      refine x_icmp_ge F dX6_hoursTillGone_13 rfl (fun hc => absurd hc (nI_ge (b := 100) (by omega) (by decide))) (fun h13 => ?_)
      refine x_aload_n F dX6_hoursTillGone_16 rfl rfl ?_
      refine x_aload_n F dX6_hoursTillGone_17 rfl rfl ?_
      refine x_aload_n F dX6_hoursTillGone_18 rfl rfl ?_
      refine x_iload F dX6_hoursTillGone_19 rfl ?_
      refine x_iload_n F dX6_hoursTillGone_21 rfl rfl ?_
      refine x_cVi4 (ci := 6) (C := RX6) (T := TX6) (N := 12) F dX6_hoursTillGone_22 (x_gV q194 q195 q452 q1 q196) rfl (c_countHinderers hR hi en g) ⟨rfl, rfl, rfl, xd_X6_countHinderers, ⟨Nat.le_of_ble_eq_true rfl, Nat.le_of_ble_eq_true rfl⟩, Nat.le_of_ble_eq_true rfl, Nat.le_of_ble_eq_true rfl⟩ rfl hR.main (Nat.le_of_ble_eq_true rfl) (fun v1 w1 hp => ?_)
      obtain ⟨J2, rfl, hR, hO2⟩ := hp
      have hO := hO.trans hO2 rfl
      have hle := f_cnt_le (p_hin K i en g) 10
      refine x_if_ne F dX6_hoursTillGone_25 rfl (fun h25 => ?_) (fun h25 => ?_)
      · rw [nI_eq0 (by omega)] at h25
        rw [show f_till K i g (n1 + 1) en = f_till K i g n1 (en + 24) from if_neg h25] at hf
        refine x_iinc (v := 24) F dX6_hoursTillGone_36 (by decide) rfl (by decide) ?_
        refine x_iincN F dX6_hoursTillGone_39 (by decide) rfl (by decide) ?_
        refine x_goto F dX6_hoursTillGone_42 rfl ?_
        exact x_lk (ih (k + 1) (by omega) (en + 24) _ _ hR hO hf) ⟨rfl, rfl, rfl, rfl, rfl, rfl, trivial⟩
      · rw [nI_eq0 (by omega)] at h25
        rw [show f_till K i g (n1 + 1) en = en - kG K 0 from if_pos h25] at hf
        refine x_iload F dX6_hoursTillGone_28 rfl ?_
        refine x_aload_n F dX6_hoursTillGone_30 rfl rfl ?_
        refine x_get (ci := 6) (C := RX6) (T := TX6) (N := 12) (k := 6) F dX6_hoursTillGone_31 rfl inX6 (by decide) q71 rfl hR.main rfl ?_
        refine x_isub F dX6_hoursTillGone_34 ?_
        refine x_iret F rfl rfl dX6_hoursTillGone_35 (Nat.le_refl _) (Nat.le_refl _) ?_
        exact ⟨_, rfl, _, by rw [hf], hR, hO⟩
  refine x_aload_n F dX6_hoursTillGone_0 rfl rfl ?_
  refine x_get (ci := 3) (C := RX3) (T := TX3) (N := 4) (k := 2) F dX6_hoursTillGone_1 rfl inX3 (by decide) q58 rfl (hR.ret hi) rfl ?_
  refine x_istore F dX6_hoursTillGone_4 (by decide) ?_
  refine x_iconst (v := 0) F dX6_hoursTillGone_6 (by decide) ?_
  refine x_istore F dX6_hoursTillGone_7 (by decide) ?_
  exact x_lk (loop 100 0 (by omega) (kV K i 7) J w hR Oth.rfl rfl) ⟨rfl, rfl, rfl, rfl, rfl, rfl, trivial⟩
def f_left (K : kT) (i : Nat) : Int32 := if kV K i 2 = 0 then -1 else if kV K i 2 = 2 then 0 else f_till K i true 100 (kV K i 7)
def f_stin (K : kT) (k : Nat) (hh : Int32) : Int32 := if kV K (kCV K k) 2 = 1 ∧ ¬ f_till K (kCV K k) false 100 (kV K (kCV K k) 7) = -1 ∧ f_till K (kCV K k) false 100 (kV K (kCV K k) 7) ≤ hh then 2 else kV K (kCV K k) 2
def f_ocin (K : kT) (k : Nat) (hh : Int32) : Int32 := f_outc K k (f_stin K k hh) (kG K 0 + hh) (if hh = 0 then f_served K k (kCV K k) else 0)
set_option maxRecDepth 100000 in
set_option maxHeartbeats 4000000 in
theorem c_hoursLeft (hR : Rep Z K J w) {i : Nat} (hi : vOk K i) : Ci l D dA B yX6_hoursLeft wX6_hoursLeft 9 [.ref (Z 0 0), .ref (Z 10 i)] w (QP Z K w (f_left K i)) := by
  refine x_Ct.of (cc := cX6_hoursLeft) (maxL := 2) (by decide) rfl (Nat.le_of_ble_eq_true rfl) ?_
  intro p e s m below meth c F
  refine x_aload_n F dX6_hoursLeft_0 rfl rfl ?_
  refine x_get (ci := 5) (C := RX5) (T := TX5) (N := 9) (k := 5) F dX6_hoursLeft_1 rfl inX5 (by decide) q149 rfl (hR.ver hi) rfl ?_
  refine x_if_ne F dX6_hoursLeft_4 rfl (fun h4 => ?_) (fun h4 => ?_)
  · refine x_aload_n F dX6_hoursLeft_9 rfl rfl ?_
    refine x_get (ci := 5) (C := RX5) (T := TX5) (N := 9) (k := 5) F dX6_hoursLeft_10 rfl inX5 (by decide) q149 rfl (hR.ver hi) rfl ?_
    refine x_iconst (v := 2) F dX6_hoursLeft_13 (by decide) ?_
    refine x_icmp_ne F dX6_hoursLeft_14 rfl (fun h14 => ?_) (fun h14 => ?_)
    · refine x_aload_n F dX6_hoursLeft_21 rfl rfl ?_
      refine x_aload_n F dX6_hoursLeft_22 rfl rfl ?_
      refine x_aload_n F dX6_hoursLeft_23 rfl rfl ?_
      refine x_get (ci := 5) (C := RX5) (T := TX5) (N := 9) (k := 4) F dX6_hoursLeft_24 rfl inX5 (by decide) q147 rfl (hR.ver hi) rfl ?_
      refine x_iconst (v := 1) F dX6_hoursLeft_27 (by decide) ?_
      refine x_cVi3 (ci := 6) (C := RX6) (T := TX6) (N := 12) F dX6_hoursLeft_28 (x_gV q394 q395 q467 q1 q396) rfl (c_hoursTillGone hR hi true) ⟨rfl, rfl, rfl, xd_X6_hoursTillGone, ⟨Nat.le_of_ble_eq_true rfl, Nat.le_of_ble_eq_true rfl⟩, Nat.le_of_ble_eq_true rfl, Nat.le_of_ble_eq_true rfl⟩ rfl hR.main (Nat.le_of_ble_eq_true rfl) (fun v1 w1 hp => ?_)
      obtain ⟨J2, rfl, hR, hO⟩ := hp
      refine x_iret F rfl rfl dX6_hoursLeft_31 (Nat.le_refl _) (Nat.le_refl _) ?_
      first
        | exact ⟨_, rfl, _, congrArg Value.int ((if_neg h4).trans (if_pos h14)).symm, hR, Oth.rfl⟩
        | exact ⟨_, rfl, _, congrArg Value.int ((if_neg h4).trans (if_neg h14)).symm, hR, hO⟩
    · refine x_iconst (v := 0) F dX6_hoursLeft_17 (by decide) ?_
      refine x_goto F dX6_hoursLeft_18 rfl ?_
      refine x_iret F rfl rfl dX6_hoursLeft_31 (Nat.le_refl _) (Nat.le_refl _) ?_
      first
        | exact ⟨_, rfl, _, congrArg Value.int ((if_neg h4).trans (if_pos h14)).symm, hR, Oth.rfl⟩
        | exact ⟨_, rfl, _, congrArg Value.int ((if_neg h4).trans (if_neg h14)).symm, hR, hO⟩
  · refine x_iconst (v := (-1)) F dX6_hoursLeft_7 (by decide) ?_
    refine x_iret F rfl rfl dX6_hoursLeft_8 (Nat.le_refl _) (Nat.le_refl _) ?_
    exact ⟨_, rfl, _, congrArg Value.int (if_pos h4).symm, hR, Oth.rfl⟩
set_option maxRecDepth 100000 in
set_option maxHeartbeats 4000000 in
theorem c_outcomeIn (hR : Rep Z K J w) {k : Nat} (hk : k < nc K) (hh : Int32) : Ci l D dA B yX6_outcomeIn wX6_outcomeIn 9 [.ref (Z 0 0), .ref (Z 13 k), .int hh] w (QP Z K w (f_ocin K k hh)) := by
  refine x_Ct.of (cc := cX6_outcomeIn) (maxL := 6) (by decide) rfl (Nat.le_of_ble_eq_true rfl) ?_
  intro p e s m below meth c F
  have hO : Oth Z K w w := Oth.rfl
  refine x_aload_n F dX6_outcomeIn_0 rfl rfl ?_
  refine x_get (ci := 1) (C := RX1) (T := TX1) (N := 8) (k := 4) F dX6_outcomeIn_1 rfl inX1 (by decide) q253 rfl (hR.cli hk) rfl ?_
  refine x_astore_n F dX6_outcomeIn_4 rfl (by decide) ?_
  refine x_aload_n F dX6_outcomeIn_5 rfl rfl ?_
  refine x_get (ci := 5) (C := RX5) (T := TX5) (N := 9) (k := 5) F dX6_outcomeIn_6 rfl inX5 (by decide) q149 rfl (hR.ver (hR.cv hk)) rfl ?_
  refine x_istore F dX6_outcomeIn_9 (by decide) ?_
  refine x_iload F dX6_outcomeIn_11 rfl ?_
  refine x_iconst (v := 1) F dX6_outcomeIn_13 (by decide) ?_
  refine x_icmp_ne F dX6_outcomeIn_14 rfl (fun h14 => ?_) (fun h14 => ?_)
  · have hst : f_stin K k hh = kV K (kCV K k) 2 := if_neg (fun q => h14 q.1)
    refine x_aload_n F dX6_outcomeIn_44 rfl rfl ?_
    refine x_aload_n F dX6_outcomeIn_45 rfl rfl ?_
    refine x_iload F dX6_outcomeIn_46 rfl ?_
    refine x_aload_n F dX6_outcomeIn_48 rfl rfl ?_
    refine x_get (ci := 6) (C := RX6) (T := TX6) (N := 12) (k := 6) F dX6_outcomeIn_49 rfl inX6 (by decide) q71 rfl hR.main rfl ?_
    refine x_iload_n F dX6_outcomeIn_52 rfl rfl ?_
    refine x_iadd F dX6_outcomeIn_53 ?_
    refine x_iload_n F dX6_outcomeIn_54 rfl rfl ?_
    refine x_if_ne F dX6_outcomeIn_55 rfl (fun h55 => ?_) (fun h55 => ?_)
    · have hsv : (if hh = 0 then f_served K k (kCV K k) else 0) = 0 := if_neg h55
      refine x_iconst (v := 0) F dX6_outcomeIn_66 (by decide) ?_
      refine x_cVi4 (ci := 6) (C := RX6) (T := TX6) (N := 12) F dX6_outcomeIn_67 (x_gV q323 q324 q460 q1 q325) rfl (c_outcomeOf hR hk _ (kG K 0 + hh) _) ⟨rfl, rfl, rfl, xd_X6_outcomeOf, ⟨Nat.le_of_ble_eq_true rfl, Nat.le_of_ble_eq_true rfl⟩, Nat.le_of_ble_eq_true rfl, Nat.le_of_ble_eq_true rfl⟩ rfl hR.main (Nat.le_of_ble_eq_true rfl) (fun v1 w1 hp => ?_)
      obtain ⟨J3, rfl, hR, hO2⟩ := hp
      have hO := hO.trans hO2 rfl
      refine x_iret F rfl rfl dX6_outcomeIn_70 (Nat.le_refl _) (Nat.le_refl _) ?_
      exact ⟨_, rfl, _, congrArg Value.int (by unfold f_ocin; rw [hst, hsv]), hR, hO⟩
    · have hsv : (if hh = 0 then f_served K k (kCV K k) else 0) = f_served K k (kCV K k) := if_pos h55
      refine x_aload_n F dX6_outcomeIn_58 rfl rfl ?_
      refine x_aload_n F dX6_outcomeIn_59 rfl rfl ?_
      refine x_cVi1 (ci := 1) (C := RX1) (T := TX1) (N := 8) F dX6_outcomeIn_60 (x_gV q319 q320 q321 q13 q322) rfl (c_servedThisHourBy hR hk (hR.cv hk)) ⟨rfl, rfl, rfl, xd_X1_servedThisHourBy, ⟨Nat.le_of_ble_eq_true rfl, Nat.le_of_ble_eq_true rfl⟩, Nat.le_of_ble_eq_true rfl, Nat.le_of_ble_eq_true rfl⟩ rfl (hR.cli hk) (Nat.le_of_ble_eq_true rfl) (fun v1 w1 hp => ?_)
      obtain ⟨rfl, hw9⟩ := hp
      replace hw9 := hw9.symm
      subst hw9
      refine x_goto F dX6_outcomeIn_63 rfl ?_
      refine x_cVi4 (ci := 6) (C := RX6) (T := TX6) (N := 12) F dX6_outcomeIn_67 (x_gV q323 q324 q460 q1 q325) rfl (c_outcomeOf hR hk _ (kG K 0 + hh) _) ⟨rfl, rfl, rfl, xd_X6_outcomeOf, ⟨Nat.le_of_ble_eq_true rfl, Nat.le_of_ble_eq_true rfl⟩, Nat.le_of_ble_eq_true rfl, Nat.le_of_ble_eq_true rfl⟩ rfl hR.main (Nat.le_of_ble_eq_true rfl) (fun v1 w1 hp => ?_)
      obtain ⟨J3, rfl, hR, hO2⟩ := hp
      have hO := hO.trans hO2 rfl
      refine x_iret F rfl rfl dX6_outcomeIn_70 (Nat.le_refl _) (Nat.le_refl _) ?_
      exact ⟨_, rfl, _, congrArg Value.int (by unfold f_ocin; rw [hst, hsv]), hR, hO⟩
  · refine x_aload_n F dX6_outcomeIn_17 rfl rfl ?_
    refine x_aload_n F dX6_outcomeIn_18 rfl rfl ?_
    refine x_aload_n F dX6_outcomeIn_19 rfl rfl ?_
    refine x_get (ci := 5) (C := RX5) (T := TX5) (N := 9) (k := 4) F dX6_outcomeIn_20 rfl inX5 (by decide) q147 rfl (hR.ver (hR.cv hk)) rfl ?_
    refine x_iconst (v := 0) F dX6_outcomeIn_23 (by decide) ?_
    refine x_cVi3 (ci := 6) (C := RX6) (T := TX6) (N := 12) F dX6_outcomeIn_24 (x_gV q394 q395 q467 q1 q396) rfl (c_hoursTillGone hR (hR.cv hk) false) ⟨rfl, rfl, rfl, xd_X6_hoursTillGone, ⟨Nat.le_of_ble_eq_true rfl, Nat.le_of_ble_eq_true rfl⟩, Nat.le_of_ble_eq_true rfl, Nat.le_of_ble_eq_true rfl⟩ rfl hR.main (Nat.le_of_ble_eq_true rfl) (fun v1 w1 hp => ?_)
    obtain ⟨J2, rfl, hR, hO2⟩ := hp
    have hO := hO.trans hO2 rfl
    refine x_istore F dX6_outcomeIn_27 (by decide) ?_
    refine x_iload F dX6_outcomeIn_29 rfl ?_
    refine x_iconst (v := (-1)) F dX6_outcomeIn_31 (by decide) ?_
    refine x_icmp_eq F dX6_outcomeIn_32 rfl (fun h32 => ?_) (fun h32 => ?_)
    · have hst : f_stin K k hh = kV K (kCV K k) 2 := if_neg (fun q => q.2.1 h32)
      refine x_aload_n F dX6_outcomeIn_44 rfl rfl ?_
      refine x_aload_n F dX6_outcomeIn_45 rfl rfl ?_
      refine x_iload F dX6_outcomeIn_46 rfl ?_
      refine x_aload_n F dX6_outcomeIn_48 rfl rfl ?_
      refine x_get (ci := 6) (C := RX6) (T := TX6) (N := 12) (k := 6) F dX6_outcomeIn_49 rfl inX6 (by decide) q71 rfl hR.main rfl ?_
      refine x_iload_n F dX6_outcomeIn_52 rfl rfl ?_
      refine x_iadd F dX6_outcomeIn_53 ?_
      refine x_iload_n F dX6_outcomeIn_54 rfl rfl ?_
      refine x_if_ne F dX6_outcomeIn_55 rfl (fun h55 => ?_) (fun h55 => ?_)
      · have hsv : (if hh = 0 then f_served K k (kCV K k) else 0) = 0 := if_neg h55
        refine x_iconst (v := 0) F dX6_outcomeIn_66 (by decide) ?_
        refine x_cVi4 (ci := 6) (C := RX6) (T := TX6) (N := 12) F dX6_outcomeIn_67 (x_gV q323 q324 q460 q1 q325) rfl (c_outcomeOf hR hk _ (kG K 0 + hh) _) ⟨rfl, rfl, rfl, xd_X6_outcomeOf, ⟨Nat.le_of_ble_eq_true rfl, Nat.le_of_ble_eq_true rfl⟩, Nat.le_of_ble_eq_true rfl, Nat.le_of_ble_eq_true rfl⟩ rfl hR.main (Nat.le_of_ble_eq_true rfl) (fun v1 w1 hp => ?_)
        obtain ⟨J3, rfl, hR, hO2⟩ := hp
        have hO := hO.trans hO2 rfl
        refine x_iret F rfl rfl dX6_outcomeIn_70 (Nat.le_refl _) (Nat.le_refl _) ?_
        exact ⟨_, rfl, _, congrArg Value.int (by unfold f_ocin; rw [hst, hsv]), hR, hO⟩
      · have hsv : (if hh = 0 then f_served K k (kCV K k) else 0) = f_served K k (kCV K k) := if_pos h55
        refine x_aload_n F dX6_outcomeIn_58 rfl rfl ?_
        refine x_aload_n F dX6_outcomeIn_59 rfl rfl ?_
        refine x_cVi1 (ci := 1) (C := RX1) (T := TX1) (N := 8) F dX6_outcomeIn_60 (x_gV q319 q320 q321 q13 q322) rfl (c_servedThisHourBy hR hk (hR.cv hk)) ⟨rfl, rfl, rfl, xd_X1_servedThisHourBy, ⟨Nat.le_of_ble_eq_true rfl, Nat.le_of_ble_eq_true rfl⟩, Nat.le_of_ble_eq_true rfl, Nat.le_of_ble_eq_true rfl⟩ rfl (hR.cli hk) (Nat.le_of_ble_eq_true rfl) (fun v1 w1 hp => ?_)
        obtain ⟨rfl, hw9⟩ := hp
        replace hw9 := hw9.symm
        subst hw9
        refine x_goto F dX6_outcomeIn_63 rfl ?_
        refine x_cVi4 (ci := 6) (C := RX6) (T := TX6) (N := 12) F dX6_outcomeIn_67 (x_gV q323 q324 q460 q1 q325) rfl (c_outcomeOf hR hk _ (kG K 0 + hh) _) ⟨rfl, rfl, rfl, xd_X6_outcomeOf, ⟨Nat.le_of_ble_eq_true rfl, Nat.le_of_ble_eq_true rfl⟩, Nat.le_of_ble_eq_true rfl, Nat.le_of_ble_eq_true rfl⟩ rfl hR.main (Nat.le_of_ble_eq_true rfl) (fun v1 w1 hp => ?_)
        obtain ⟨J3, rfl, hR, hO2⟩ := hp
        have hO := hO.trans hO2 rfl
        refine x_iret F rfl rfl dX6_outcomeIn_70 (Nat.le_refl _) (Nat.le_refl _) ?_
        exact ⟨_, rfl, _, congrArg Value.int (by unfold f_ocin; rw [hst, hsv]), hR, hO⟩
    · refine x_iload F dX6_outcomeIn_35 rfl ?_
      refine x_iload_n F dX6_outcomeIn_37 rfl rfl ?_
      refine x_icmp_gt F dX6_outcomeIn_38 rfl (fun h38 => ?_) (fun h38 => ?_)
      · have hst : f_stin K k hh = kV K (kCV K k) 2 := if_neg (fun q => absurd q.2.2 (Int32.not_le.mpr h38))
        refine x_aload_n F dX6_outcomeIn_44 rfl rfl ?_
        refine x_aload_n F dX6_outcomeIn_45 rfl rfl ?_
        refine x_iload F dX6_outcomeIn_46 rfl ?_
        refine x_aload_n F dX6_outcomeIn_48 rfl rfl ?_
        refine x_get (ci := 6) (C := RX6) (T := TX6) (N := 12) (k := 6) F dX6_outcomeIn_49 rfl inX6 (by decide) q71 rfl hR.main rfl ?_
        refine x_iload_n F dX6_outcomeIn_52 rfl rfl ?_
        refine x_iadd F dX6_outcomeIn_53 ?_
        refine x_iload_n F dX6_outcomeIn_54 rfl rfl ?_
        refine x_if_ne F dX6_outcomeIn_55 rfl (fun h55 => ?_) (fun h55 => ?_)
        · have hsv : (if hh = 0 then f_served K k (kCV K k) else 0) = 0 := if_neg h55
          refine x_iconst (v := 0) F dX6_outcomeIn_66 (by decide) ?_
          refine x_cVi4 (ci := 6) (C := RX6) (T := TX6) (N := 12) F dX6_outcomeIn_67 (x_gV q323 q324 q460 q1 q325) rfl (c_outcomeOf hR hk _ (kG K 0 + hh) _) ⟨rfl, rfl, rfl, xd_X6_outcomeOf, ⟨Nat.le_of_ble_eq_true rfl, Nat.le_of_ble_eq_true rfl⟩, Nat.le_of_ble_eq_true rfl, Nat.le_of_ble_eq_true rfl⟩ rfl hR.main (Nat.le_of_ble_eq_true rfl) (fun v1 w1 hp => ?_)
          obtain ⟨J3, rfl, hR, hO2⟩ := hp
          have hO := hO.trans hO2 rfl
          refine x_iret F rfl rfl dX6_outcomeIn_70 (Nat.le_refl _) (Nat.le_refl _) ?_
          exact ⟨_, rfl, _, congrArg Value.int (by unfold f_ocin; rw [hst, hsv]), hR, hO⟩
        · have hsv : (if hh = 0 then f_served K k (kCV K k) else 0) = f_served K k (kCV K k) := if_pos h55
          refine x_aload_n F dX6_outcomeIn_58 rfl rfl ?_
          refine x_aload_n F dX6_outcomeIn_59 rfl rfl ?_
          refine x_cVi1 (ci := 1) (C := RX1) (T := TX1) (N := 8) F dX6_outcomeIn_60 (x_gV q319 q320 q321 q13 q322) rfl (c_servedThisHourBy hR hk (hR.cv hk)) ⟨rfl, rfl, rfl, xd_X1_servedThisHourBy, ⟨Nat.le_of_ble_eq_true rfl, Nat.le_of_ble_eq_true rfl⟩, Nat.le_of_ble_eq_true rfl, Nat.le_of_ble_eq_true rfl⟩ rfl (hR.cli hk) (Nat.le_of_ble_eq_true rfl) (fun v1 w1 hp => ?_)
          obtain ⟨rfl, hw9⟩ := hp
          replace hw9 := hw9.symm
          subst hw9
          refine x_goto F dX6_outcomeIn_63 rfl ?_
          refine x_cVi4 (ci := 6) (C := RX6) (T := TX6) (N := 12) F dX6_outcomeIn_67 (x_gV q323 q324 q460 q1 q325) rfl (c_outcomeOf hR hk _ (kG K 0 + hh) _) ⟨rfl, rfl, rfl, xd_X6_outcomeOf, ⟨Nat.le_of_ble_eq_true rfl, Nat.le_of_ble_eq_true rfl⟩, Nat.le_of_ble_eq_true rfl, Nat.le_of_ble_eq_true rfl⟩ rfl hR.main (Nat.le_of_ble_eq_true rfl) (fun v1 w1 hp => ?_)
          obtain ⟨J3, rfl, hR, hO2⟩ := hp
          have hO := hO.trans hO2 rfl
          refine x_iret F rfl rfl dX6_outcomeIn_70 (Nat.le_refl _) (Nat.le_refl _) ?_
          exact ⟨_, rfl, _, congrArg Value.int (by unfold f_ocin; rw [hst, hsv]), hR, hO⟩
      · have hst : f_stin K k hh = 2 := if_pos ⟨h14, h32, Int32.not_lt.mp h38⟩
        refine x_iconst (v := 2) F dX6_outcomeIn_41 (by decide) ?_
        refine x_istore F dX6_outcomeIn_42 (by decide) ?_
        refine x_aload_n F dX6_outcomeIn_44 rfl rfl ?_
        refine x_aload_n F dX6_outcomeIn_45 rfl rfl ?_
        refine x_iload F dX6_outcomeIn_46 rfl ?_
        refine x_aload_n F dX6_outcomeIn_48 rfl rfl ?_
        refine x_get (ci := 6) (C := RX6) (T := TX6) (N := 12) (k := 6) F dX6_outcomeIn_49 rfl inX6 (by decide) q71 rfl hR.main rfl ?_
        refine x_iload_n F dX6_outcomeIn_52 rfl rfl ?_
        refine x_iadd F dX6_outcomeIn_53 ?_
        refine x_iload_n F dX6_outcomeIn_54 rfl rfl ?_
        refine x_if_ne F dX6_outcomeIn_55 rfl (fun h55 => ?_) (fun h55 => ?_)
        · have hsv : (if hh = 0 then f_served K k (kCV K k) else 0) = 0 := if_neg h55
          refine x_iconst (v := 0) F dX6_outcomeIn_66 (by decide) ?_
          refine x_cVi4 (ci := 6) (C := RX6) (T := TX6) (N := 12) F dX6_outcomeIn_67 (x_gV q323 q324 q460 q1 q325) rfl (c_outcomeOf hR hk _ (kG K 0 + hh) _) ⟨rfl, rfl, rfl, xd_X6_outcomeOf, ⟨Nat.le_of_ble_eq_true rfl, Nat.le_of_ble_eq_true rfl⟩, Nat.le_of_ble_eq_true rfl, Nat.le_of_ble_eq_true rfl⟩ rfl hR.main (Nat.le_of_ble_eq_true rfl) (fun v1 w1 hp => ?_)
          obtain ⟨J3, rfl, hR, hO2⟩ := hp
          have hO := hO.trans hO2 rfl
          refine x_iret F rfl rfl dX6_outcomeIn_70 (Nat.le_refl _) (Nat.le_refl _) ?_
          exact ⟨_, rfl, _, congrArg Value.int (by unfold f_ocin; rw [hst, hsv]), hR, hO⟩
        · have hsv : (if hh = 0 then f_served K k (kCV K k) else 0) = f_served K k (kCV K k) := if_pos h55
          refine x_aload_n F dX6_outcomeIn_58 rfl rfl ?_
          refine x_aload_n F dX6_outcomeIn_59 rfl rfl ?_
          refine x_cVi1 (ci := 1) (C := RX1) (T := TX1) (N := 8) F dX6_outcomeIn_60 (x_gV q319 q320 q321 q13 q322) rfl (c_servedThisHourBy hR hk (hR.cv hk)) ⟨rfl, rfl, rfl, xd_X1_servedThisHourBy, ⟨Nat.le_of_ble_eq_true rfl, Nat.le_of_ble_eq_true rfl⟩, Nat.le_of_ble_eq_true rfl, Nat.le_of_ble_eq_true rfl⟩ rfl (hR.cli hk) (Nat.le_of_ble_eq_true rfl) (fun v1 w1 hp => ?_)
          obtain ⟨rfl, hw9⟩ := hp
          replace hw9 := hw9.symm
          subst hw9
          refine x_goto F dX6_outcomeIn_63 rfl ?_
          refine x_cVi4 (ci := 6) (C := RX6) (T := TX6) (N := 12) F dX6_outcomeIn_67 (x_gV q323 q324 q460 q1 q325) rfl (c_outcomeOf hR hk _ (kG K 0 + hh) _) ⟨rfl, rfl, rfl, xd_X6_outcomeOf, ⟨Nat.le_of_ble_eq_true rfl, Nat.le_of_ble_eq_true rfl⟩, Nat.le_of_ble_eq_true rfl, Nat.le_of_ble_eq_true rfl⟩ rfl hR.main (Nat.le_of_ble_eq_true rfl) (fun v1 w1 hp => ?_)
          obtain ⟨J3, rfl, hR, hO2⟩ := hp
          have hO := hO.trans hO2 rfl
          refine x_iret F rfl rfl dX6_outcomeIn_70 (Nat.le_refl _) (Nat.le_refl _) ?_
          exact ⟨_, rfl, _, congrArg Value.int (by unfold f_ocin; rw [hst, hsv]), hR, hO⟩
end OUT
