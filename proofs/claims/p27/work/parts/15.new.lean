/-! ===== calls that make something new ===== -/
section NEW
variable {l : Launch} {D : va_G} {dA : Nat → ClassId} {B : Nat} {Z : Nat → Nat → Nat} {K : kT} {J : jT} {w : xW}
def zUp (Z : Nat → Nat → Nat) (kd ix a : Nat) : Nat → Nat → Nat := fun k i => if k = kd ∧ i = ix then a else Z k i
theorem zUp_eq (Z : Nat → Nat → Nat) (kd ix a : Nat) : zUp Z kd ix a kd ix = a := if_pos ⟨rfl, rfl⟩
theorem zUp_ne (Z : Nat → Nat → Nat) {kd ix a k i : Nat} (h : ¬ (k = kd ∧ i = ix)) : zUp Z kd ix a k i = Z k i := if_neg h
/-- a call that makes new cells -/
def GM (Z : Nat → Nat → Nat) (K : kT) (w : xW) (K1 : kT) (w1 : xW) : Prop := ∃ Z1 J1, Z1 0 0 = Z 0 0 ∧ Rep Z1 K1 J1 w1 ∧ Keep Z K w Z1 K1 w1
theorem up_arr {n : Nat} {g g1 : Nat → Nat} {r : Nat} (hr : g1 n = r) (hg : ∀ j, j < n → g1 j = g j) : va_up (fun j => if j < n then some (g j) else none) n (some r) = fun j => if j < n + 1 then some (g1 j) else none := by
  funext j
  show (if j = n then some r else if j < n then some (g j) else none) = _
  by_cases h : j = n
  · rw [if_pos h, if_pos (by omega), h, hr]
  · rw [if_neg h]
    by_cases h2 : j < n
    · rw [if_pos h2, if_pos (by omega), hg j h2]
    · rw [if_neg h2, if_neg (by omega)]
theorem Rep.addF (h : Rep Z K J w) {r ka : Nat} (h4 : nf K < 4) (hr : w r = none) (hk : w ka = none) (hrk : ¬ r = ka) {w1 : xW}
    (e0 : w1 (Z 0 0) = some (.inr (6, [.ref (Z 1 0), .ref (Z 2 0), .ref (Z 3 0), .int (nI (nf K) + 1), .int (nI (nc K)), .int (nI (na K)), .int (kG K 0), .int (kG K 1), .int (kG K 2), .int (kG K 3), .ref (Z 4 0), .ref (Z 6 0)])))
    (e1 : w1 (Z 1 0) = some (aF 4 (va_up (fun j => if j < nf K then some (Z 8 j) else none) (nf K) (some r))))
    (er : w1 r = some (.inr (2, [.int (nI (nf K)), .ref ka, .int 0]))) (ek : w1 ka = some (aV 6 (fun _ => none)))
    (hf : ∀ b, ¬ b = Z 0 0 → ¬ b = Z 1 0 → ¬ b = r → ¬ b = ka → w1 b = w b) : GM Z K w (kOpen K) w1 := by
  have hZ : ∀ kd ix, live K kd ix → zUp (zUp Z 8 (nf K) r) 9 (nf K) ka kd ix = Z kd ix := by
    intro kd ix g
    rw [zUp_ne _ (fun q => by obtain ⟨rfl, rfl⟩ := q; exact absurd (show nf K < nf K from g) (Nat.lt_irrefl _)), zUp_ne _ (fun q => by obtain ⟨rfl, rfl⟩ := q; exact absurd (show nf K < nf K from g) (Nat.lt_irrefl _))]
  have z8 : zUp (zUp Z 8 (nf K) r) 9 (nf K) ka 8 (nf K) = r := by rw [zUp_ne _ (by omega), zUp_eq]
  have z9 : zUp (zUp Z 8 (nf K) r) 9 (nf K) ka 9 (nf K) = ka := zUp_eq _ _ _ _
  obtain ⟨Z1, hZ1⟩ : ∃ Z1, Z1 = zUp (zUp Z 8 (nf K) r) 9 (nf K) ka := ⟨_, rfl⟩
  rw [← hZ1] at hZ z8 z9
  have hvk : ∀ j, vOk (kOpen K) j → vOk K j := fun j g => by
    unfold vOk at g ⊢
    rw [kOpen_nf, kOpen_nv] at g
    by_cases q : j / 6 = nf K
    · rw [if_pos q] at g; omega
    · rw [if_neg q] at g; omega
  have hlv : ∀ kd ix, live (kOpen K) kd ix → live K kd ix ∨ ((kd = 8 ∨ kd = 9) ∧ ix = nf K) := by
    intro kd ix g
    rcases kd with _ | _ | _ | _ | _ | _ | _ | _ | _ | _ | _ | _ | _ | _ | _ | _ | _ | kd
    all_goals first
      | exact Or.inl g
      | exact Or.inl (hvk ix g)
      | (have g2 : ix < nf (kOpen K) := g
         rw [kOpen_nf] at g2
         by_cases q : ix = nf K
         · exact Or.inr ⟨by decide, q⟩
         · exact Or.inl (show ix < nf K by omega))
      | (have g2 : ix < nc (kOpen K) := g
         rw [kOpen_nc] at g2
         exact Or.inl g2)
      | (have g2 : ix < na (kOpen K) := g
         rw [kOpen_na] at g2
         exact Or.inl g2)
  have hG := h.grow (Z1 := Z1) (K1 := kOpen K) (w1 := w1) (fun kd ix => (kd = 8 ∨ kd = 9) ∧ ix = nf K) (fun kd ix => (kd = 0 ∨ kd = 1) ∧ ix = 0) hlv hZ
    (fun kd ix g => by obtain ⟨rfl | rfl, rfl⟩ := g; · rw [z8]; exact hr
                       · rw [z9]; exact hk)
    (fun k1 i1 k2 i2 g1 g2 e => by
      obtain ⟨rfl | rfl, rfl⟩ := g1 <;> obtain ⟨rfl | rfl, rfl⟩ := g2
      · exact ⟨rfl, rfl⟩
      · rw [z8, z9] at e; exact absurd e hrk
      · rw [z8, z9] at e; exact absurd e.symm hrk
      · exact ⟨rfl, rfl⟩)
    (fun b g1 g2 => hf b (g1 0 0 rfl (by decide)) (g1 1 0 rfl (by decide)) (by rw [← z8]; exact g2 8 _ (by simp)) (by rw [← z9]; exact g2 9 _ (by simp)))
    (fun kd ix g g1 => by
      rcases kd with _ | _ | _ | _ | _ | _ | _ | _ | _ | _ | _ | _ | _ | _ | _ | _ | _ | kd
      all_goals first
        | rfl
        | exact absurd ⟨Or.inl rfl, g⟩ g1
        | exact absurd ⟨Or.inr rfl, g⟩ g1
        | skip
      · show aC 10 _ = aC 10 _
        rw [kOpen_nc]
      · show aA 10 _ = aA 10 _
        rw [kOpen_na]
      · have g3 : ix < nf K := g
        show (Sum.inr (2, [_, _, Value.int (nI (nv (kOpen K) ix))]) : xE) = _
        rw [kOpen_nv, if_neg (by omega)]
        rfl
      · have g3 : ix < nf K := g
        show aV 6 (fun j => if j < nv (kOpen K) ix then some (Z1 10 (6 * ix + j)) else none) = _
        rw [kOpen_nv, if_neg (by omega)]
        rfl)
    (fun kd ix g g1 => by
      obtain ⟨rfl | rfl, rfl⟩ := g1
      · rw [e0]
        show _ = some (Sum.inr (6, [_, _, _, Value.int (nI (nf (kOpen K))), Value.int (nI (nc (kOpen K))), Value.int (nI (na (kOpen K))), _, _, _, _, _, _]) : xE)
        rw [kOpen_nf, kOpen_nc, kOpen_na, ← nI_1, hZ 1 0 rfl, hZ 2 0 rfl, hZ 3 0 rfl, hZ 4 0 rfl, hZ 6 0 rfl]
        rfl
      · rw [e1, up_arr (g1 := Z1 8) z8 (fun j hj => hZ 8 j hj)]
        show _ = some (aF 4 (fun j => if j < nf (kOpen K) then some (Z1 8 j) else none))
        rw [kOpen_nf])
    (fun kd ix g => by
      obtain ⟨rfl | rfl, rfl⟩ := g
      · rw [z8, er]
        show _ = some (Sum.inr (2, [Value.int (nI (nf K)), Value.ref (Z1 9 (nf K)), Value.int (nI (nv (kOpen K) (nf K)))]) : xE)
        rw [z9, kOpen_nv, if_pos rfl]
        rfl
      · rw [z9, ek]
        show _ = some (aV 6 (fun j => if j < nv (kOpen K) (nf K) then some (Z1 10 (6 * nf K + j)) else none))
        rw [kOpen_nv, if_pos rfl]
        rfl)
    (by
      obtain ⟨a1, a2, a3, a4, a5, a6⟩ := h.2.2
      have hv2 : ∀ j, vOk K j → vOk (kOpen K) j := fun j g => by
        unfold vOk at g ⊢
        rw [kOpen_nf, kOpen_nv, if_neg (by omega)]
        exact ⟨by omega, g.2⟩
      unfold kWf
      rw [kOpen_nf, kOpen_nc, kOpen_na]
      refine ⟨by omega, fun f hf => ?_, a3, a4, fun k hk => hv2 _ (a5 k hk), fun k hk => ⟨hv2 _ (a6 k hk).1, hv2 _ (a6 k hk).2⟩⟩
      rw [kOpen_nv]
      by_cases q : f = nf K
      · rw [if_pos q]; omega
      · rw [if_neg q]; exact a2 f (by omega))
  exact ⟨Z1, J, hZ 0 0 rfl, hG⟩
set_option maxRecDepth 100000 in
set_option maxHeartbeats 4000000 in
theorem c_open (hR : Rep Z K J w) (hn4 : nf K < 4) : x_Ci l D dA vwCl tyL0 B yX6_open wX6_open (rmd 2 2 9) [.ref (Z 0 0)] w (fun v w1 => v = .int (nI (nf K)) ∧ GM Z K w (kOpen K) w1) 2 9 := by
  refine x_Ct.of (cc := cX6_open) (maxL := 1) (by decide) rfl (Nat.le_of_ble_eq_true rfl) ?_
  intro p e s m below meth c F
  have hf : ∀ b, ¬ b = (Z 0 0) → ¬ b = (Z 1 0) → w b = w b := fun b _ _ => rfl
  have h_m := hR.main
  have h_a := hR.faces
  have ne_m_a : ¬ Z 0 0 = Z 1 0 := fun e => absurd (hR.inj (k1 := 0) (i1 := 0) (k2 := 1) (i2 := 0) rfl rfl e).1 (by decide)
  refine x_aload_n F dX6_open_0 rfl rfl ?_
  refine x_get (ci := 6) (C := RX6) (T := TX6) (N := 12) (k := 3) F dX6_open_1 rfl inX6 (by decide) q68 rfl hR.main rfl ?_
  refine x_if_lt F dX6_open_4 rfl (fun hc => absurd hc (nI_pos (by omega))) (fun h4 => ?_)
  refine x_aload_n F dX6_open_7 rfl rfl ?_
  refine x_get (ci := 6) (C := RX6) (T := TX6) (N := 12) (k := 3) F dX6_open_8 rfl inX6 (by decide) q68 rfl hR.main rfl ?_
  refine x_aload_n F dX6_open_11 rfl rfl ?_
  refine x_get (ci := 6) (C := RX6) (T := TX6) (N := 12) (k := 0) F dX6_open_12 rfl inX6 (by decide) q65 rfl hR.main rfl ?_
  refine x_alen (v := 4) F dX6_open_15 rfl hR.faces rfl ?_
  refine x_icmp_lt F dX6_open_16 rfl (fun h16 => ?_) (fun hc => absurd hc (fun q => q (nI_lt (b := 4) hn4 (by decide))))
  refine x_aload_n F dX6_open_29 rfl rfl ?_
  refine x_get (ci := 6) (C := RX6) (T := TX6) (N := 12) (k := 0) F dX6_open_30 rfl inX6 (by decide) q65 rfl hR.main rfl ?_
  refine x_aload_n F dX6_open_33 rfl rfl ?_
  refine x_get (ci := 6) (C := RX6) (T := TX6) (N := 12) (k := 3) F dX6_open_34 rfl inX6 (by decide) q68 rfl hR.main rfl ?_
  refine x_new (ci := 2) (C := RX2) (T := TX2) (N := 3) (fs := [.int 0, .null, .int 0]) F dX6_open_37 rfl inX2 tyX2 tyX2_ok q25 q97 q9 (fun j hj => by rcases (show j = 0 ∨ j = 1 ∨ j = 2 by omega) with rfl | rfl | rfl <;> rfl) (Nat.le_of_ble_eq_true rfl) (Nat.le_of_ble_eq_true rfl) (fun r hr => ?_)
  refine x_wd (fun w1 hw1 => ?_)
  have ne_m_r : ¬ (Z 0 0) = r := fun e => by rw [e, hr] at h_m; cases h_m
  have ne_a_r : ¬ (Z 1 0) = r := fun e => by rw [e, hr] at h_a; cases h_a
  have fr_r : w r = none := by rw [← hf r (fun e => ne_m_r e.symm) (fun e => ne_a_r e.symm)]; exact hr
  have h_m : w1 (Z 0 0) = some (.inr (6, [.ref (Z 1 0), .ref (Z 2 0), .ref (Z 3 0), .int (nI (nf K)), .int (nI (nc K)), .int (nI (na K)), .int (kG K 0), .int (kG K 1), .int (kG K 2), .int (kG K 3), .ref (Z 4 0), .ref (Z 6 0)])) := by rw [hw1, x_set_ne _ _ ne_m_r]; exact h_m
  have h_a : w1 (Z 1 0) = some (aF 4 (fun j => if j < nf K then some (Z 8 j) else none)) := by rw [hw1, x_set_ne _ _ ne_a_r]; exact h_a
  have h_r : w1 r = some (.inr (2, [.int 0, .null, .int 0])) := by rw [hw1]; exact x_set_eq _ _ _
  have hf : ∀ b, ¬ b = (Z 0 0) → ¬ b = (Z 1 0) → ¬ b = r → w1 b = w b := fun b g0 g1 g2 => by rw [hw1]; exact (x_set_ne _ _ g2).trans (hf b g0 g1)
  refine x_dup F dX6_open_40 rfl ?_
  refine x_aload_n F dX6_open_41 rfl rfl ?_
  refine x_get (ci := 6) (C := RX6) (T := TX6) (N := 12) (k := 3) F dX6_open_42 rfl inX6 (by decide) q68 rfl h_m rfl ?_
  refine x_cI1 F dX6_open_45 (x_gI q100) q9 q98 q99 rfl (c_face_init h_r (nI (nf K))) ⟨rfl, rfl, rfl, xd_X2_init, ⟨Nat.le_of_ble_eq_true rfl, Nat.le_of_ble_eq_true rfl⟩, Nat.le_of_ble_eq_true rfl, Nat.le_of_ble_eq_true rfl⟩ (Nat.le_of_ble_eq_true rfl) (fun w1 hp => ?_)
  obtain ⟨ka, fk, g_r, g_k, hf2⟩ := hp
  have ne_m_k : ¬ (Z 0 0) = ka := fun e => by rw [e, fk] at h_m; cases h_m
  have ne_a_k : ¬ (Z 1 0) = ka := fun e => by rw [e, fk] at h_a; cases h_a
  have ne_r_k : ¬ r = ka := fun e => by rw [e, fk] at h_r; cases h_r
  have fr_k : w ka = none := by rw [← hf ka (fun e => ne_m_k e.symm) (fun e => ne_a_k e.symm) (fun e => ne_r_k e.symm)]; exact fk
  have h_m : w1 (Z 0 0) = some (.inr (6, [.ref (Z 1 0), .ref (Z 2 0), .ref (Z 3 0), .int (nI (nf K)), .int (nI (nc K)), .int (nI (na K)), .int (kG K 0), .int (kG K 1), .int (kG K 2), .int (kG K 3), .ref (Z 4 0), .ref (Z 6 0)])) := by rw [hf2 (Z 0 0) ne_m_r ne_m_k]; exact h_m
  have h_a : w1 (Z 1 0) = some (aF 4 (fun j => if j < nf K then some (Z 8 j) else none)) := by rw [hf2 (Z 1 0) ne_a_r ne_a_k]; exact h_a
  have h_r : w1 r = some (.inr (2, [.int (nI (nf K)), .ref ka, .int 0])) := g_r
  have h_k : w1 ka = some (aV 6 (fun _ => none)) := g_k
  have hf : ∀ b, ¬ b = (Z 0 0) → ¬ b = (Z 1 0) → ¬ b = r → ¬ b = ka → w1 b = w b := fun b g0 g1 g2 g3 => by rw [hf2 b g2 g3]; exact hf b g0 g1 g2
  refine x_aastN F dX6_open_48 rfl rfl h_a h_r hn4 (by decide) ?_
  refine x_wd (fun w2 hw2 => ?_)
  have h_m : w2 (Z 0 0) = some (.inr (6, [.ref (Z 1 0), .ref (Z 2 0), .ref (Z 3 0), .int (nI (nf K)), .int (nI (nc K)), .int (nI (na K)), .int (kG K 0), .int (kG K 1), .int (kG K 2), .int (kG K 3), .ref (Z 4 0), .ref (Z 6 0)])) := by rw [hw2, x_set_ne _ _ ne_m_a]; exact h_m
  have h_a : w2 (Z 1 0) = some (aF 4 (va_up (fun j => if j < nf K then some (Z 8 j) else none) (nf K) (some r))) := by rw [hw2]; exact x_set_eq _ _ _
  have h_r : w2 r = some (.inr (2, [.int (nI (nf K)), .ref ka, .int 0])) := by rw [hw2, x_set_ne _ _ (fun e => ne_a_r e.symm)]; exact h_r
  have h_k : w2 ka = some (aV 6 (fun _ => none)) := by rw [hw2, x_set_ne _ _ (fun e => ne_a_k e.symm)]; exact h_k
  have hf : ∀ b, ¬ b = (Z 0 0) → ¬ b = (Z 1 0) → ¬ b = r → ¬ b = ka → w2 b = w b := fun b g0 g1 g2 g3 => by rw [hw2]; exact (x_set_ne _ _ g1).trans (hf b g0 g1 g2 g3)
  refine x_aload_n F dX6_open_49 rfl rfl ?_
  refine x_dup F dX6_open_50 rfl ?_
  refine x_get (ci := 6) (C := RX6) (T := TX6) (N := 12) (k := 3) F dX6_open_51 rfl inX6 (by decide) q68 rfl h_m rfl ?_
  refine x_dup_x1 F dX6_open_54 rfl rfl ?_
  refine x_iconst (v := 1) F dX6_open_55 (by decide) ?_
  refine x_iadd F dX6_open_56 ?_
  refine x_put (ci := 6) (C := RX6) (T := TX6) (N := 12) (k := 3) F dX6_open_57 rfl inX6 tyX6 tyX6_ok nmX6 (by decide) q68 rfl rfl h_m (Nat.le_of_ble_eq_true rfl) rfl rfl ?_
  refine x_wd (fun w3 hw3 => ?_)
  have h_m : w3 (Z 0 0) = some (.inr (6, [.ref (Z 1 0), .ref (Z 2 0), .ref (Z 3 0), .int (nI (nf K) + 1), .int (nI (nc K)), .int (nI (na K)), .int (kG K 0), .int (kG K 1), .int (kG K 2), .int (kG K 3), .ref (Z 4 0), .ref (Z 6 0)])) := by rw [hw3]; exact x_set_eq _ _ _
  have h_a : w3 (Z 1 0) = some (aF 4 (va_up (fun j => if j < nf K then some (Z 8 j) else none) (nf K) (some r))) := by rw [hw3, x_set_ne _ _ (fun e => ne_m_a e.symm)]; exact h_a
  have h_r : w3 r = some (.inr (2, [.int (nI (nf K)), .ref ka, .int 0])) := by rw [hw3, x_set_ne _ _ (fun e => ne_m_r e.symm)]; exact h_r
  have h_k : w3 ka = some (aV 6 (fun _ => none)) := by rw [hw3, x_set_ne _ _ (fun e => ne_m_k e.symm)]; exact h_k
  have hf : ∀ b, ¬ b = (Z 0 0) → ¬ b = (Z 1 0) → ¬ b = r → ¬ b = ka → w3 b = w b := fun b g0 g1 g2 g3 => by rw [hw3]; exact (x_set_ne _ _ g0).trans (hf b g0 g1 g2 g3)
  refine x_iret F rfl rfl dX6_open_60 (Nat.le_refl _) (Nat.le_refl _) ?_
  exact ⟨_, rfl, rfl, hR.addF hn4 fr_r fr_k ne_r_k h_m h_a h_r h_k hf⟩
theorem Rep.addV (h : Rep Z K J w) {f r ra ka : Nat} {hs q : Int32} (hf1 : f < nf K) (h6 : nv K f < 6) (hr : w r = none) (hra : w ra = none) (hk : w ka = none) (n1 : ¬ r = ra) (n2 : ¬ r = ka) (n3 : ¬ ra = ka) {w1 : xW}
    (e0 : w1 (Z 8 f) = some (.inr (2, [.int (nI f), .ref (Z 9 f), .int (nI (nv K f) + 1)])))
    (e1 : w1 (Z 9 f) = some (aV 6 (va_up (fun j => if j < nv K f then some (Z 10 (6 * f + j)) else none) (nv K f) (some r))))
    (er : w1 r = some (oVer (Z 8 f) (nI (nv K f)) hs q ra 0 0 0 0)) (era : w1 ra = some (oRet ka (-1) (-1) 0)) (ek : w1 ka = some (aI 5 (f_fill 5 (-1) (fun _ => 0))))
    (hf : ∀ b, ¬ b = Z 8 f → ¬ b = Z 9 f → ¬ b = r → ¬ b = ra → ¬ b = ka → w1 b = w b) : GM Z K w (kPub K f hs q) w1 := by
  obtain ⟨i, hi⟩ : ∃ i, i = 6 * f + nv K f := ⟨_, rfl⟩
  have i1 : i / 6 = f := by omega
  have i2 : i % 6 = nv K f := by omega
  have hnok : ¬ vOk K i := fun g => by
    have := g.2
    rw [i1, i2] at this
    omega
  have hZ : ∀ kd ix, live K kd ix → zUp (zUp (zUp Z 10 i r) 11 i ra) 12 i ka kd ix = Z kd ix := by
    intro kd ix g
    rw [zUp_ne _ (fun e => by obtain ⟨rfl, rfl⟩ := e; exact hnok g), zUp_ne _ (fun e => by obtain ⟨rfl, rfl⟩ := e; exact hnok g), zUp_ne _ (fun e => by obtain ⟨rfl, rfl⟩ := e; exact hnok g)]
  have z10 : zUp (zUp (zUp Z 10 i r) 11 i ra) 12 i ka 10 i = r := by rw [zUp_ne _ (by omega), zUp_ne _ (by omega), zUp_eq]
  have z11 : zUp (zUp (zUp Z 10 i r) 11 i ra) 12 i ka 11 i = ra := by rw [zUp_ne _ (by omega), zUp_eq]
  have z12 : zUp (zUp (zUp Z 10 i r) 11 i ra) 12 i ka 12 i = ka := zUp_eq _ _ _ _
  obtain ⟨Z1, hZ1⟩ : ∃ Z1, Z1 = zUp (zUp (zUp Z 10 i r) 11 i ra) 12 i ka := ⟨_, rfl⟩
  rw [← hZ1] at hZ z10 z11 z12
  have hvk : ∀ j, vOk (kPub K f hs q) j → vOk K j ∨ j = i := fun j g => by
    unfold vOk at g ⊢
    rw [kPub_nf, kPub_nv] at g
    by_cases e : j / 6 = f
    · rw [if_pos e] at g
      by_cases e2 : j % 6 = nv K f
      · exact Or.inr (by omega)
      · rw [e]; exact Or.inl ⟨hf1, by omega⟩
    · rw [if_neg e] at g; exact Or.inl g
  have hkv : ∀ a b, kV (kPub K f hs q) a b = if a = i then (match b with | 0 => hs | 1 => q | 6 => -1 | 7 => -1 | _ => 0) else kV K a b := fun a b => by subst hi; rfl
  have hkva : ∀ a, kVA (kPub K f hs q) a = if a = i then f_fill 5 (-1) (fun _ => 0) else kVA K a := fun a => by subst hi; rfl
  have hlv : ∀ kd ix, live (kPub K f hs q) kd ix → live K kd ix ∨ ((kd = 10 ∨ kd = 11 ∨ kd = 12) ∧ ix = i) := by
    intro kd ix g
    rcases kd with _ | _ | _ | _ | _ | _ | _ | _ | _ | _ | _ | _ | _ | _ | _ | _ | _ | kd
    all_goals first
      | exact Or.inl g
      | exact (hvk ix g).elim Or.inl (fun e => Or.inr ⟨by decide, e⟩)
      | (have g2 : ix < nf (kPub K f hs q) := g
         rw [kPub_nf] at g2
         exact Or.inl g2)
      | (have g2 : ix < nc (kPub K f hs q) := g
         rw [kPub_nc] at g2
         exact Or.inl g2)
      | (have g2 : ix < na (kPub K f hs q) := g
         rw [kPub_na] at g2
         exact Or.inl g2)
  have hG := h.grow (Z1 := Z1) (K1 := kPub K f hs q) (w1 := w1) (fun kd ix => (kd = 10 ∨ kd = 11 ∨ kd = 12) ∧ ix = i) (fun kd ix => (kd = 8 ∨ kd = 9) ∧ ix = f) hlv hZ
    (fun kd ix g => by obtain ⟨rfl | rfl | rfl, rfl⟩ := g; · rw [z10]; exact hr
                       · rw [z11]; exact hra
                       · rw [z12]; exact hk)
    (fun k1 j1 k2 j2 g1 g2 e => by
      obtain ⟨g1, rfl⟩ := g1
      obtain ⟨g2, rfl⟩ := g2
      refine ⟨?_, rfl⟩
      rcases g1 with rfl | rfl | rfl <;> rcases g2 with rfl | rfl | rfl <;> first | rfl | (simp only [z10, z11, z12] at e; first | exact absurd e n1 | exact absurd e n2 | exact absurd e n3 | exact absurd e.symm n1 | exact absurd e.symm n2 | exact absurd e.symm n3))
    (fun b g1 g2 => hf b (g1 8 f hf1 (by simp)) (g1 9 f hf1 (by simp)) (by rw [← z10]; exact g2 10 _ (by simp)) (by rw [← z11]; exact g2 11 _ (by simp)) (by rw [← z12]; exact g2 12 _ (by simp)))
    (fun kd ix g g1 => by
      rcases kd with _ | _ | _ | _ | _ | _ | _ | _ | _ | _ | _ | _ | _ | _ | _ | _ | _ | kd
      all_goals first
        | rfl
        | skip
      · show (Sum.inr (6, [_, _, _, Value.int (nI (nf (kPub K f hs q))), Value.int (nI (nc (kPub K f hs q))), Value.int (nI (na (kPub K f hs q))), _, _, _, _, _, _]) : xE) = _
        rw [kPub_nf, kPub_nc, kPub_na]
        rfl
      · show aF 4 _ = aF 4 _
        rw [kPub_nf]
      · show aC 10 _ = aC 10 _
        rw [kPub_nc]
      · show aA 10 _ = aA 10 _
        rw [kPub_na]
      · show (Sum.inr (2, [_, _, Value.int (nI (nv (kPub K f hs q) ix))]) : xE) = _
        rw [kPub_nv, if_neg (fun e => g1 ⟨Or.inl rfl, e⟩)]
        rfl
      · show aV 6 (fun j => if j < nv (kPub K f hs q) ix then some (Z1 10 (6 * ix + j)) else none) = _
        rw [kPub_nv, if_neg (fun e => g1 ⟨Or.inr rfl, e⟩)]
        rfl
      · have hx : ¬ ix = i := fun e => hnok (e ▸ g)
        show (Sum.inr (5, [_, _, Value.int (kV (kPub K f hs q) ix 0), Value.int (kV (kPub K f hs q) ix 1), _, Value.int (kV (kPub K f hs q) ix 2), Value.int (kV (kPub K f hs q) ix 3), Value.int (kV (kPub K f hs q) ix 4), Value.int (kV (kPub K f hs q) ix 5)]) : xE) = _
        simp only [hkv, if_neg hx]
        rfl
      · have hx : ¬ ix = i := fun e => hnok (e ▸ g)
        show oRet _ (kV (kPub K f hs q) ix 6) (kV (kPub K f hs q) ix 7) (kV (kPub K f hs q) ix 8) = _
        simp only [hkv, if_neg hx]
        rfl
      · have hx : ¬ ix = i := fun e => hnok (e ▸ g)
        show aI 5 (kVA (kPub K f hs q) ix) = _
        rw [hkva, if_neg hx]
        rfl)
    (fun kd ix g g1 => by
      obtain ⟨rfl | rfl, rfl⟩ := g1
      · rw [e0]
        show _ = some (Sum.inr (2, [Value.int (nI ix), Value.ref (Z1 9 ix), Value.int (nI (nv (kPub K ix hs q) ix))]) : xE)
        rw [kPub_nv, if_pos rfl, ← nI_1, hZ 9 ix g]
      · rw [e1, up_arr (g1 := fun j => Z1 10 (6 * ix + j)) (by show Z1 10 (6 * ix + nv K ix) = r; rw [← hi]; exact z10) (fun j hj => hZ 10 _ (by
          show vOk K (6 * ix + j)
          unfold vOk
          rw [show (6 * ix + j) / 6 = ix by omega, show (6 * ix + j) % 6 = j by omega]
          exact ⟨hf1, hj⟩))]
        show _ = some (aV 6 (fun j => if j < nv (kPub K ix hs q) ix then some (Z1 10 (6 * ix + j)) else none))
        rw [kPub_nv, if_pos rfl])
    (fun kd ix g => by
      obtain ⟨g1, e⟩ := g
      subst e
      rcases g1 with rfl | rfl | rfl
      · rw [z10, er]
        show _ = some (Sum.inr (5, [Value.ref (Z1 8 (ix / 6)), Value.int (nI (ix % 6)), Value.int (kV (kPub K f hs q) ix 0), Value.int (kV (kPub K f hs q) ix 1), Value.ref (Z1 11 ix), Value.int (kV (kPub K f hs q) ix 2), Value.int (kV (kPub K f hs q) ix 3), Value.int (kV (kPub K f hs q) ix 4), Value.int (kV (kPub K f hs q) ix 5)]) : xE)
        simp only [hkv, if_pos, z11, i1, i2]
        rw [hZ 8 f hf1]
      · rw [z11, era]
        show _ = some (oRet (Z1 12 ix) (kV (kPub K f hs q) ix 6) (kV (kPub K f hs q) ix 7) (kV (kPub K f hs q) ix 8))
        simp only [hkv, if_pos, z12]
      · rw [z12, ek]
        show _ = some (aI 5 (kVA (kPub K f hs q) ix))
        rw [hkva, if_pos rfl])
    (by
      obtain ⟨a1, a2, a3, a4, a5, a6⟩ := h.2.2
      have hv2 : ∀ j, vOk K j → vOk (kPub K f hs q) j := fun j g => by
        unfold vOk at g ⊢
        rw [kPub_nf, kPub_nv]
        by_cases e : j / 6 = f
        · rw [e] at g; rw [if_pos e]; exact ⟨by omega, by omega⟩
        · rw [if_neg e]; exact g
      unfold kWf
      rw [kPub_nf, kPub_nc, kPub_na]
      refine ⟨a1, fun g hg => ?_, a3, a4, fun k hk => hv2 _ (a5 k hk), fun k hk => ⟨hv2 _ (a6 k hk).1, hv2 _ (a6 k hk).2⟩⟩
      rw [kPub_nv]
      by_cases e : g = f
      · rw [if_pos e]; omega
      · rw [if_neg e]; exact a2 g hg)
  exact ⟨Z1, J, hZ 0 0 rfl, hG⟩
end NEW
