/-! ===== routes ===== -/
section RTE
variable {l : Launch} {D : va_G} {dA : Nat → ClassId} {B : Nat} {Z : Nat → Nat → Nat} {K : kT} {J : jT} {w : xW}
def jStep (J : jT) (t : Nat) (v : Int32) : jT := (upd J.1 t v, J.2)
def jInt (J : jT) (t : Nat) (v : Int32) : jT := (J.1, upd J.2.1 t v, J.2.2)
def jShut (J : jT) (o : Option Nat) : jT := (J.1, J.2.1, o, J.2.2.2)
/-- the cell of one kind changes, and nothing that the state holds -/
theorem Rep.putJ (h : Rep Z K J w) {J1 : jT} {kind : Nat} (hk : kind < 8) (ho : ∀ k2 i2, ¬ k2 = kind → obj Z K J1 k2 i2 = obj Z K J k2 i2) {x : xE} (hx : x = obj Z K J1 kind 0) : Rep Z K J1 (x_set w (Z kind 0) x) := by
  have hl : live K kind 0 := by
    rcases kind with _ | _ | _ | _ | _ | _ | _ | _ | _ <;> first | rfl | omega
  have hl2 : ∀ i2, live K kind i2 → i2 = 0 := by
    intro i2
    rcases kind with _ | _ | _ | _ | _ | _ | _ | _ | _ <;> first | exact id | omega
  refine h.put hl rfl rfl rfl rfl (fun k2 i2 g1 g2 => ?_) hx
  by_cases e : k2 = kind
  · subst e
    exact absurd ⟨rfl, hl2 i2 g1⟩ g2
  · exact ho k2 i2 e
theorem Rep.jStep (h : Rep Z K J w) (t : Nat) (v : Int32) : Rep Z K (jStep J t v) (x_set w (Z 5 0) (aI 3 (upd J.1 t v))) := by
  refine h.putJ (kind := 5) (by decide) (fun k2 i2 hne => ?_) rfl
  rcases k2 with _ | _ | _ | _ | _ | _ | _ | _ | _ | _ | _ | _ | _ | _ | _ | _ | k2 <;> first | rfl | exact absurd rfl hne
theorem Rep.jInt (h : Rep Z K J w) (t : Nat) (v : Int32) {x : xE} (hx : x = obj Z K (jInt J t v) 4 0) : Rep Z K (jInt J t v) (x_set w (Z 4 0) x) := by
  refine h.putJ (kind := 4) (by decide) (fun k2 i2 hne => ?_) hx
  rcases k2 with _ | _ | _ | _ | _ | _ | _ | _ | _ | _ | _ | _ | _ | _ | _ | _ | k2 <;> first | rfl | exact absurd rfl hne
theorem Rep.jShut (h : Rep Z K J w) (o : Option Nat) {x : xE} (hx : x = obj Z K (jShut J o) 4 0) : Rep Z K (jShut J o) (x_set w (Z 4 0) x) := by
  refine h.putJ (kind := 4) (by decide) (fun k2 i2 hne => ?_) hx
  rcases k2 with _ | _ | _ | _ | _ | _ | _ | _ | _ | _ | _ | _ | _ | _ | _ | _ | k2 <;> first | rfl | exact absurd rfl hne
def f_leaf (K : kT) (sh : Option Nat) (vi : Nat) (u : Int32) : Bool := decide (kV K vi 2 = 0) && ((!decide (sh = some vi)) && f_fits u (kV K vi 0) (kV K vi 1))
def f_from (g : Nat → Option (List Nat × Nat × Int32)) (n k : Nat) : Option (List Nat × Nat × Int32) := match n with
  | 0 => none
  | n + 1 => match g k with
    | some r => some r
    | none => f_from g n (k + 1)
def f_rt (K : kT) (sh : Option Nat) (n : Nat) (vi : Nat) (u : Int32) : Option (List Nat × Nat × Int32) := match n with
  | 0 => if f_leaf K sh vi u then some ([], vi, u) else none
  | n + 1 => f_from (fun k => if decide (k < na K) && decide (kAF K k = vi) then (f_rt K sh n (kAT K k) (f_makes (kA K k 0) (kA K k 1) u)).map (fun r => (k :: r.1, r.2)) else none) 10 0
def f_via (K : kT) (sh : Option Nat) (n vi : Nat) (u : Int32) (k : Nat) : Option (List Nat × Nat × Int32) := if decide (k < na K) && decide (kAF K k = vi) then (f_rt K sh n (kAT K k) (f_makes (kA K k 0) (kA K k 1) u)).map (fun r => (k :: r.1, r.2)) else none
theorem f_rt_succ (K : kT) (sh : Option Nat) (n vi : Nat) (u : Int32) : f_rt K sh (n + 1) vi u = f_from (f_via K sh n vi u) 10 0 := rfl
theorem f_from_none {g : Nat → Option (List Nat × Nat × Int32)} {n k : Nat} (h : g k = none) : f_from g (n + 1) k = f_from g n (k + 1) := by simp [f_from, h]
theorem f_from_some {g : Nat → Option (List Nat × Nat × Int32)} {n k : Nat} {r : List Nat × Nat × Int32} (h : g k = some r) : f_from g (n + 1) k = some r := by simp [f_from, h]
/-- what a search leaves behind -/
def PR (Z : Nat → Nat → Nat) (K : kT) (J : jT) (w : xW) (q : Option (List Nat × Nat × Int32)) (n pl : Nat) : Value → xW → Prop := fun v w1 => ∃ J1, v = .int (x_b q.isSome) ∧ Rep Z K J1 w1 ∧ Oth Z K w w1 ∧ J1.2.1 0 = J.2.1 0 ∧ J1.2.2.1 = J.2.2.1 ∧ (∀ t, t < pl → J1.1 t = J.1 t) ∧ ∀ r, q = some r → (∀ t, t < r.1.length → J1.1 (pl + t) = nI (r.1.getD t 0)) ∧ r.1.length = n ∧ J1.2.1 1 = nI (r.2.1 % 6) ∧ J1.2.1 2 = r.2.2
theorem sh_eq (hR : Rep Z K J w) {sh : Option Nat} (hsh : ∀ x, sh = some x → vOk K x) {vi : Nat} (hv : vOk K vi) : some (Z 10 vi) = sh.map (Z 10) ↔ sh = some vi := by
  cases sh with
  | none => simp
  | some x =>
    simp only [Option.map_some, Option.some.injEq]
    rw [hR.veq hv (hsh x rfl)]
    exact eq_comm
theorem upd_ne0 {f : Nat → Int32} {j k : Nat} {x : Int32} (h : ¬ j = k) : upd f k x j = f j := if_neg h
theorem upd_eq0 {f : Nat → Int32} {k : Nat} {x : Int32} : upd f k x k = x := if_pos rfl
set_option maxRecDepth 100000 in
set_option maxHeartbeats 4000000 in
theorem c_completes0 {J : jT} {w : xW} (hR : Rep Z K J w) {vi : Nat} (hv : vOk K vi) (u : Int32) {len pl : Nat} (hl : len ≤ 3) (hpl : pl + 0 = len) (hL : J.2.1 0 = nI len) {sh : Option Nat} (hsh : ∀ x, sh = some x → vOk K x) (hS : J.2.2.1 = sh.map (Z 10)) : Ci l D dA B yX6_completes wX6_completes 1 [.ref (Z 4 0), .ref (Z 3 0), .ref (Z 10 vi), .int u, .int (nI pl)] w (PR Z K J w (f_rt K sh 0 vi u) 0 pl) := by
  refine x_Ct.of (cc := cX6_completes) (maxL := 7) (by decide) rfl (Nat.le_of_ble_eq_true rfl) ?_
  intro p e s m below meth c F
  refine x_iload F dX6_completes_0 rfl ?_
  refine x_if_lt F dX6_completes_2 rfl (fun hc => absurd hc (nI_pos (by omega))) (fun h2 => ?_)
  refine x_iload F dX6_completes_5 rfl ?_
  refine x_iconst (v := 3) F dX6_completes_7 (by decide) ?_
  refine x_icmp_le F dX6_completes_8 rfl (fun h8 => ?_) (fun hc => absurd hc (fun q => q (nI_le (b := 3) (by omega) (by decide))))
  refine x_iload F dX6_completes_13 rfl ?_
  refine x_aload_n F dX6_completes_15 rfl rfl ?_
  refine x_get (ci := 4) (C := RX4) (T := TX4) (N := 5) (k := 1) F dX6_completes_16 rfl inX4 (by decide) q35 rfl hR.route rfl ?_
  rw [hL]
  refine x_icmp_ge F dX6_completes_19 rfl (fun h19 => ?_) (fun hc => absurd hc (fun q => q (nI_le (by omega) (by omega))))
  refine x_aload_n F dX6_completes_32 rfl rfl ?_
  refine x_aload_n F dX6_completes_33 rfl rfl ?_
  refine x_get (ci := 5) (C := RX5) (T := TX5) (N := 9) (k := 1) F dX6_completes_34 rfl inX5 (by decide) q141 rfl (hR.ver hv) rfl ?_
  refine x_put (ci := 4) (C := RX4) (T := TX4) (N := 5) (k := 2) F dX6_completes_37 rfl inX4 tyX4 tyX4_ok nmX4 (by decide) q36 rfl rfl hR.route (Nat.le_of_ble_eq_true rfl) rfl rfl ?_
  refine x_wd (fun w1 hw1 => ?_)
  have hR0 := hR
  have hO : Oth Z K w w1 := by rw [hw1]; exact Oth.set (kind := 4) (idx := 0) rfl _
  have hR : Rep Z K (jInt J 1 (nI (vi % 6))) w1 := by rw [hw1]; exact hR.jInt 1 (nI (vi % 6)) rfl
  refine x_aload_n F dX6_completes_40 rfl rfl ?_
  refine x_iload_n F dX6_completes_41 rfl rfl ?_
  refine x_put (ci := 4) (C := RX4) (T := TX4) (N := 5) (k := 3) F dX6_completes_42 rfl inX4 tyX4 tyX4_ok nmX4 (by decide) q37 rfl rfl hR.route (Nat.le_of_ble_eq_true rfl) rfl rfl ?_
  refine x_wd (fun w2 hw2 => ?_)
  have hO : Oth Z K w w2 := hO.trans (by rw [hw2]; exact Oth.set (kind := 4) (idx := 0) rfl _) rfl
  have hR : Rep Z K (jInt (jInt J 1 (nI (vi % 6))) 2 u) w2 := by rw [hw2]; exact hR.jInt 2 u rfl
  refine x_aload_n F dX6_completes_45 rfl rfl ?_
  refine x_get (ci := 5) (C := RX5) (T := TX5) (N := 9) (k := 5) F dX6_completes_46 rfl inX5 (by decide) q149 rfl (hR.ver hv) rfl ?_
  refine x_if_ne F dX6_completes_49 rfl (fun h49 => ?_) (fun h49 => ?_)
  · have hp : f_leaf K sh vi u = false := by unfold f_leaf; rw [decide_eq_false h49]; rfl
    refine x_iconst (v := 0) F dX6_completes_79 (by decide) ?_
    refine x_iret F rfl rfl dX6_completes_80 (Nat.le_refl _) (Nat.le_refl _) ?_
    first
      | exact ⟨_, rfl, _, by rw [show f_rt K sh 0 vi u = some ([], vi, u) from if_pos hp]; rfl, hR, hO, rfl, rfl, fun t ht => rfl, fun r hr => by rw [show f_rt K sh 0 vi u = some ([], vi, u) from if_pos hp] at hr; cases hr; exact ⟨fun t ht => absurd ht (Nat.not_lt_zero t), rfl, rfl, rfl⟩⟩
      | exact ⟨_, rfl, _, by rw [show f_rt K sh 0 vi u = none from if_neg (by rw [hp]; decide)]; rfl, hR, hO, rfl, rfl, fun t ht => rfl, fun r hr => by rw [show f_rt K sh 0 vi u = none from if_neg (by rw [hp]; decide)] at hr; cases hr⟩
  · refine x_aload_n F dX6_completes_52 rfl rfl ?_
    refine x_aload_n F dX6_completes_53 rfl rfl ?_
    refine x_get (ci := 4) (C := RX4) (T := TX4) (N := 5) (k := 4) F dX6_completes_54 rfl inX4 (by decide) q38 rfl hR.route rfl ?_
    rw [show (jInt (jInt J 1 (nI (vi % 6))) 2 u).2.2.1 = sh.map (Z 10) from hS]
    refine x_acmp_eqQR F dX6_completes_57 rfl (fun h57 => ?_) (fun h57 => ?_)
    · rw [sh_eq hR hsh hv] at h57
      have hp : f_leaf K sh vi u = false := by unfold f_leaf; rw [decide_eq_true h57, Bool.not_true, Bool.false_and, Bool.and_false]
      refine x_iconst (v := 0) F dX6_completes_79 (by decide) ?_
      refine x_iret F rfl rfl dX6_completes_80 (Nat.le_refl _) (Nat.le_refl _) ?_
      first
        | exact ⟨_, rfl, _, by rw [show f_rt K sh 0 vi u = some ([], vi, u) from if_pos hp]; rfl, hR, hO, rfl, rfl, fun t ht => rfl, fun r hr => by rw [show f_rt K sh 0 vi u = some ([], vi, u) from if_pos hp] at hr; cases hr; exact ⟨fun t ht => absurd ht (Nat.not_lt_zero t), rfl, rfl, rfl⟩⟩
        | exact ⟨_, rfl, _, by rw [show f_rt K sh 0 vi u = none from if_neg (by rw [hp]; decide)]; rfl, hR, hO, rfl, rfl, fun t ht => rfl, fun r hr => by rw [show f_rt K sh 0 vi u = none from if_neg (by rw [hp]; decide)] at hr; cases hr⟩
    · rw [sh_eq hR hsh hv] at h57
      refine x_iload_n F dX6_completes_60 rfl rfl ?_
      refine x_aload_n F dX6_completes_61 rfl rfl ?_
      refine x_get (ci := 5) (C := RX5) (T := TX5) (N := 9) (k := 2) F dX6_completes_62 rfl inX5 (by decide) q143 rfl (hR.ver hv) rfl ?_
      refine x_aload_n F dX6_completes_65 rfl rfl ?_
      refine x_get (ci := 5) (C := RX5) (T := TX5) (N := 9) (k := 3) F dX6_completes_66 rfl inX5 (by decide) q145 rfl (hR.ver hv) rfl ?_
      refine x_cSi3 F dX6_completes_69 (x_gS q218 q219 q1 q220) (c_fits u (kV K vi 0) (kV K vi 1)) ⟨rfl, rfl, rfl, xd_X6_fits, ⟨Nat.le_of_ble_eq_true rfl, Nat.le_of_ble_eq_true rfl⟩, Nat.le_of_ble_eq_true rfl, Nat.le_of_ble_eq_true rfl⟩ (Nat.le_of_ble_eq_true rfl) (fun v1 w1 hp => ?_)
      obtain ⟨rfl, hw9⟩ := hp
      replace hw9 := hw9.symm
      subst hw9
      refine x_if_eq F dX6_completes_72 rfl (fun h72 => ?_) (fun h72 => ?_)
      · have hp : f_leaf K sh vi u = false := by unfold f_leaf; rw [x_b_eq.mp h72, Bool.and_false, Bool.and_false]
        refine x_iconst (v := 0) F dX6_completes_79 (by decide) ?_
        refine x_iret F rfl rfl dX6_completes_80 (Nat.le_refl _) (Nat.le_refl _) ?_
        first
          | exact ⟨_, rfl, _, by rw [show f_rt K sh 0 vi u = some ([], vi, u) from if_pos hp]; rfl, hR, hO, rfl, rfl, fun t ht => rfl, fun r hr => by rw [show f_rt K sh 0 vi u = some ([], vi, u) from if_pos hp] at hr; cases hr; exact ⟨fun t ht => absurd ht (Nat.not_lt_zero t), rfl, rfl, rfl⟩⟩
          | exact ⟨_, rfl, _, by rw [show f_rt K sh 0 vi u = none from if_neg (by rw [hp]; decide)]; rfl, hR, hO, rfl, rfl, fun t ht => rfl, fun r hr => by rw [show f_rt K sh 0 vi u = none from if_neg (by rw [hp]; decide)] at hr; cases hr⟩
      · have hp : f_leaf K sh vi u = true := by unfold f_leaf; rw [decide_eq_true h49, decide_eq_false h57, x_b_ne.mp h72]; rfl
        refine x_iconst (v := 1) F dX6_completes_75 (by decide) ?_
        refine x_goto F dX6_completes_76 rfl ?_
        refine x_iret F rfl rfl dX6_completes_80 (Nat.le_refl _) (Nat.le_refl _) ?_
        first
          | exact ⟨_, rfl, _, by rw [show f_rt K sh 0 vi u = some ([], vi, u) from if_pos hp]; rfl, hR, hO, rfl, rfl, fun t ht => rfl, fun r hr => by rw [show f_rt K sh 0 vi u = some ([], vi, u) from if_pos hp] at hr; cases hr; exact ⟨fun t ht => absurd ht (Nat.not_lt_zero t), rfl, rfl, rfl⟩⟩
          | exact ⟨_, rfl, _, by rw [show f_rt K sh 0 vi u = none from if_neg (by rw [hp]; decide)]; rfl, hR, hO, rfl, rfl, fun t ht => rfl, fun r hr => by rw [show f_rt K sh 0 vi u = none from if_neg (by rw [hp]; decide)] at hr; cases hr⟩
set_option maxRecDepth 100000 in
set_option maxHeartbeats 4000000 in
theorem c_completesS {n : Nat} (IH : ∀ {J : jT} {w : xW}, Rep Z K J w → ∀ {vi : Nat}, vOk K vi → ∀ (u : Int32) {len pl : Nat}, len ≤ 3 → pl + n = len → J.2.1 0 = nI len → ∀ {sh : Option Nat}, (∀ x, sh = some x → vOk K x) → J.2.2.1 = sh.map (Z 10) → Ci l D dA B yX6_completes wX6_completes (n + 1) [.ref (Z 4 0), .ref (Z 3 0), .ref (Z 10 vi), .int u, .int (nI pl)] w (PR Z K J w (f_rt K sh n vi u) n pl)) {J : jT} {w : xW} (hR : Rep Z K J w) {vi : Nat} (hv : vOk K vi) (u : Int32) {len pl : Nat} (hl : len ≤ 3) (hpl : pl + (n + 1) = len) (hL : J.2.1 0 = nI len) {sh : Option Nat} (hsh : ∀ x, sh = some x → vOk K x) (hS : J.2.2.1 = sh.map (Z 10)) : Ci l D dA B yX6_completes wX6_completes (n + 1 + 1) [.ref (Z 4 0), .ref (Z 3 0), .ref (Z 10 vi), .int u, .int (nI pl)] w (PR Z K J w (f_rt K sh (n + 1) vi u) (n + 1) pl) := by
  refine x_Ct.of (cc := cX6_completes) (maxL := 7) (by decide) rfl (Nat.le_of_ble_eq_true rfl) ?_
  intro p e s m below meth c F
  have loop : ∀ n1 k, k + n1 = 10 → ∀ Jz wz, Rep Z K Jz wz → Oth Z K w wz → Jz.2.1 0 = J.2.1 0 → Jz.2.2.1 = J.2.2.1 → (∀ t, t < pl → Jz.1 t = J.1 t) → f_rt K sh (n + 1) vi u = f_from (f_via K sh n vi u) n1 k → X p l e (rmd (n + 1 + 1) 0 0) s m #[.ref (Z 4 0), .ref (Z 3 0), .ref (Z 10 vi), .int u, .int (nI pl)] below meth c (MQ below (x_Q D dA vwCl tyL0 B (fun r w1 => ∃ v, r = some v ∧ (PR Z K J w (f_rt K sh (n + 1) vi u) (n + 1) pl v w1))) #[.ref (Z 4 0), .ref (Z 3 0), .ref (Z 10 vi), .int u, .int (nI pl)] s 0 0 (fun q => B ≤ q)) D dA vwCl B 7 0 0 84 [(0, .ref (Z 4 0)), (1, .ref (Z 3 0)), (2, .ref (Z 10 vi)), (3, .int u), (4, .int (nI pl)), (5, .int (nI k))] [] wz := by
    intro n1
    induction n1 with
    | zero =>
      intro k hk Jz wz hR hO hLz hSz hstz hf
      obtain rfl : k = 10 := by omega
      refine x_iload F dX6_completes_84 rfl ?_
      refine x_aload_n F dX6_completes_86 rfl rfl ?_
      refine x_alen (v := 10) F dX6_completes_87 rfl hR.adapters rfl ?_
      refine x_icmp_ge F dX6_completes_88 rfl (fun h88 => ?_) (fun hc => absurd hc (fun q => q (Int32.le_refl _)))
      refine x_iconst (v := 0) F dX6_completes_151 (by decide) ?_
      refine x_iret F rfl rfl dX6_completes_152 (Nat.le_refl _) (Nat.le_refl _) ?_
      exact ⟨_, rfl, _, by rw [hf]; rfl, hR, hO, hLz, hSz, hstz, fun r hr => by rw [hf] at hr; cases hr⟩
    | succ n1 ih =>
      intro k hk Jz wz hR hO hLz hSz hstz hf
      refine x_iload F dX6_completes_84 rfl ?_
      refine x_aload_n F dX6_completes_86 rfl rfl ?_
      refine x_alen (v := 10) F dX6_completes_87 rfl hR.adapters rfl ?_
      refine x_icmp_ge F dX6_completes_88 rfl (fun hc => absurd hc (nI_ge (b := 10) (by omega) (by decide))) (fun h88 => ?_)
      refine x_aload_n F dX6_completes_91 rfl rfl ?_
      refine x_iload F dX6_completes_92 rfl ?_
      refine x_aaldN F dX6_completes_94 rfl hR.adapters (by omega) (by decide) ?_
      by_cases hk2 : k < na K
      · simp only [if_pos hk2]
        refine x_astore F dX6_completes_95 (by decide) ?_
        refine x_aload F dX6_completes_97 rfl ?_
        refine x_ifnull F dX6_completes_99 ?_
        refine x_aload F dX6_completes_102 rfl ?_
        refine x_get (ci := 0) (C := RX0) (T := TX0) (N := 4) (k := 0) F dX6_completes_104 rfl inX0 (by decide) q289 rfl (hR.ada hk2) rfl ?_
        refine x_aload_n F dX6_completes_107 rfl rfl ?_
        refine x_acmp_neR F dX6_completes_108 rfl (fun h108 => ?_) (fun h108 => ?_)
        · rw [hR.veq (hR.af hk2) hv] at h108
          have hg : f_via K sh n vi u k = none := by unfold f_via; rw [decide_eq_false h108, Bool.and_false]; rfl
          refine x_iincN F dX6_completes_145 (by decide) rfl (by decide) ?_
          refine x_goto F dX6_completes_148 rfl ?_
          rw [f_from_none hg] at hf
          exact x_lk (ih (k + 1) (by omega) _ _ hR hO (hLz) (hSz) (hstz) hf) ⟨rfl, rfl, rfl, rfl, rfl, rfl, trivial⟩
        · rw [hR.veq (hR.af hk2) hv] at h108
          refine x_aload_n F dX6_completes_111 rfl rfl ?_
          refine x_get (ci := 4) (C := RX4) (T := TX4) (N := 5) (k := 0) F dX6_completes_112 rfl inX4 (by decide) q34 rfl hR.route rfl ?_
          refine x_iload F dX6_completes_115 rfl ?_
          refine x_iload F dX6_completes_117 rfl ?_
          refine x_iastN F dX6_completes_119 rfl hR.steps (by omega) (by decide) ?_
          refine x_wd (fun w3 hw3 => ?_)
          have hO : Oth Z K w w3 := hO.trans (by rw [hw3]; exact Oth.set (kind := 5) (idx := 0) rfl _) rfl
          have hR : Rep Z K (jStep Jz pl (nI k)) w3 := by rw [hw3]; exact hR.jStep pl (nI k)
          have hstz : ∀ t, t < pl → (jStep Jz pl (nI k)).1 t = J.1 t := fun t ht => (upd_ne0 (by omega)).trans (hstz t ht)
          have hpl0 : (jStep Jz pl (nI k)).1 pl = nI k := upd_eq0
          refine x_aload_n F dX6_completes_120 rfl rfl ?_
          refine x_aload_n F dX6_completes_121 rfl rfl ?_
          refine x_aload F dX6_completes_122 rfl ?_
          refine x_get (ci := 0) (C := RX0) (T := TX0) (N := 4) (k := 1) F dX6_completes_124 rfl inX0 (by decide) q291 rfl (hR.ada hk2) rfl ?_
          refine x_aload F dX6_completes_127 rfl ?_
          refine x_iload_n F dX6_completes_129 rfl rfl ?_
          refine x_cVi1 (ci := 0) (C := RX0) (T := TX0) (N := 4) F dX6_completes_130 (x_gV q221 q222 q223 q14 q224) rfl (c_makesOf hR hk2 u) ⟨rfl, rfl, rfl, xd_X0_makesOf, ⟨by show 0 + 1 ≤ n + 1 + 1; omega, by show 8 + (2 + 11) + 64 * 0 ≤ 64 * (n + 1 + 1); omega⟩, Nat.le_refl _, Nat.le_refl _⟩ rfl (hR.ada hk2) (Nat.le_of_ble_eq_true rfl) (fun v1 w1 hp => ?_)
          obtain ⟨rfl, hw9⟩ := hp
          replace hw9 := hw9.symm
          subst hw9
          refine x_iload F dX6_completes_133 rfl ?_
          refine x_iconst (v := 1) F dX6_completes_135 (by decide) ?_
          refine x_iadd F dX6_completes_136 ?_
          rw [nI_1]
          refine x_cSi5 F dX6_completes_137 (x_gS q215 q216 q1 q217) (IH hR (hR.at hk2) (f_makes (kA K k 0) (kA K k 1) u) hl (show pl + 1 + n = len by omega) (hLz.trans hL) hsh (hSz.trans hS)) ⟨rfl, rfl, rfl, xd_X6_completes, ⟨Nat.le_refl _, by show 8 + (7 + 11) + 64 * (n + 1) ≤ 64 * (n + 1 + 1); omega⟩, Nat.le_refl _, Nat.le_refl _⟩ (Nat.le_of_ble_eq_true rfl) (fun v1 w1 hp => ?_)
          obtain ⟨J2, rfl, hR, hO2, hL2, hS2, hst2, hr2⟩ := hp
          have hO := hO.trans hO2 rfl
          refine x_if_eq F dX6_completes_140 rfl (fun h140 => ?_) (fun h140 => ?_)
          · have hnn : f_rt K sh n (kAT K k) (f_makes (kA K k 0) (kA K k 1) u) = none := Option.not_isSome_iff_eq_none.mp (by rw [x_b_eq.mp h140]; decide)
            have hg : f_via K sh n vi u k = none := by unfold f_via; rw [decide_eq_true h108, decide_eq_true hk2, if_pos (by rfl), hnn]; rfl
            have hLz := hL2.trans hLz
            have hSz := hS2.trans hSz
            have hstz : ∀ t, t < pl → J2.1 t = J.1 t := fun t ht => (hst2 t (by omega)).trans (hstz t ht)
            refine x_iincN F dX6_completes_145 (by decide) rfl (by decide) ?_
            refine x_goto F dX6_completes_148 rfl ?_
            rw [f_from_none hg] at hf
            exact x_lk (ih (k + 1) (by omega) _ _ hR hO (hLz) (hSz) (hstz) hf) ⟨rfl, rfl, rfl, rfl, rfl, rfl, trivial⟩
          · obtain ⟨r0, hr0⟩ := Option.isSome_iff_exists.mp (x_b_ne.mp h140)
            have hg : f_via K sh n vi u k = some (k :: r0.1, r0.2) := by unfold f_via; rw [decide_eq_true h108, decide_eq_true hk2, if_pos (by rfl), hr0]; rfl
            rw [f_from_some hg] at hf
            refine x_iconst (v := 1) F dX6_completes_143 (by decide) ?_
            refine x_iret F rfl rfl dX6_completes_144 (Nat.le_refl _) (Nat.le_refl _) ?_
            refine ⟨_, rfl, J2, by rw [hf]; rfl, hR, hO, hL2.trans hLz, hS2.trans hSz, fun t ht => (hst2 t (by omega)).trans (hstz t ht), fun r hr => ?_⟩
            rw [hf] at hr
            cases hr
            obtain ⟨g1, g2, g3, g4⟩ := hr2 r0 hr0
            refine ⟨fun t ht => ?_, by show r0.1.length + 1 = n + 1; rw [g2], g3, g4⟩
            cases t with
            | zero => exact (hst2 pl (by omega)).trans hpl0
            | succ t => exact (congrArg J2.1 (show pl + (t + 1) = pl + 1 + t by omega)).trans (g1 t (by have := ht; simp at this; omega))
      · simp only [if_neg hk2]
        have hg : f_via K sh n vi u k = none := by unfold f_via; rw [decide_eq_false hk2]; rfl
        refine x_astoreN F dX6_completes_95 (by decide) ?_
        refine x_aloadN F dX6_completes_97 rfl ?_
        refine x_ifnullN F dX6_completes_99 rfl ?_
        refine x_iincN F dX6_completes_145 (by decide) rfl (by decide) ?_
        refine x_goto F dX6_completes_148 rfl ?_
        rw [f_from_none hg] at hf
        exact x_lk (ih (k + 1) (by omega) _ _ hR hO (hLz) (hSz) (hstz) hf) ⟨rfl, rfl, rfl, rfl, rfl, rfl, trivial⟩
  refine x_iload F dX6_completes_0 rfl ?_
  refine x_if_lt F dX6_completes_2 rfl (fun hc => absurd hc (nI_pos (by omega))) (fun h2 => ?_)
  refine x_iload F dX6_completes_5 rfl ?_
  refine x_iconst (v := 3) F dX6_completes_7 (by decide) ?_
  refine x_icmp_le F dX6_completes_8 rfl (fun h8 => ?_) (fun hc => absurd hc (fun q => q (nI_le (b := 3) (by omega) (by decide))))
  refine x_iload F dX6_completes_13 rfl ?_
  refine x_aload_n F dX6_completes_15 rfl rfl ?_
  refine x_get (ci := 4) (C := RX4) (T := TX4) (N := 5) (k := 1) F dX6_completes_16 rfl inX4 (by decide) q35 rfl hR.route rfl ?_
  rw [hL]
  refine x_icmp_ge F dX6_completes_19 rfl (fun hc => absurd hc (nI_ge (by omega) (by omega))) (fun h19 => ?_)
  refine x_iload F dX6_completes_22 rfl ?_
  refine x_aload_n F dX6_completes_24 rfl rfl ?_
  refine x_get (ci := 4) (C := RX4) (T := TX4) (N := 5) (k := 0) F dX6_completes_25 rfl inX4 (by decide) q34 rfl hR.route rfl ?_
  refine x_alen (v := 3) F dX6_completes_28 rfl hR.steps rfl ?_
  refine x_icmp_lt F dX6_completes_29 rfl (fun h29 => ?_) (fun hc => absurd hc (fun q => q (nI_lt (b := 3) (by omega) (by decide))))
  refine x_iconst (v := 0) F dX6_completes_81 (by decide) ?_
  refine x_istore F dX6_completes_82 (by decide) ?_
  exact x_lk (loop 10 0 (by omega) J w hR Oth.rfl rfl rfl (fun _ _ => rfl) (f_rt_succ K sh n vi u)) ⟨rfl, rfl, rfl, rfl, rfl, rfl, trivial⟩
theorem c_completes : ∀ (n : Nat) {J : jT} {w : xW}, Rep Z K J w → ∀ {vi : Nat}, vOk K vi → ∀ (u : Int32) {len pl : Nat}, len ≤ 3 → pl + n = len → J.2.1 0 = nI len → ∀ {sh : Option Nat}, (∀ x, sh = some x → vOk K x) → J.2.2.1 = sh.map (Z 10) → Ci l D dA B yX6_completes wX6_completes (n + 1) [.ref (Z 4 0), .ref (Z 3 0), .ref (Z 10 vi), .int u, .int (nI pl)] w (PR Z K J w (f_rt K sh n vi u) n pl) := by
  intro n
  induction n with
  | zero => exact fun hR _ hv u _ _ hl hpl hL _ hsh hS => c_completes0 hR hv u hl hpl hL hsh hS
  | succ n ih => exact fun hR _ hv u _ _ hl hpl hL _ hsh hS => c_completesS ih hR hv u hl hpl hL hsh hS
end RTE
