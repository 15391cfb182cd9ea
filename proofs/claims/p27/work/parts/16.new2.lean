/-! ===== calls that make something new, second part ===== -/
section NEW
variable {l : Launch} {D : va_G} {dA : Nat → ClassId} {B : Nat} {Z : Nat → Nat → Nat} {K : kT} {J : jT} {w : xW}
theorem Rep.far (h : Rep Z K J w) {w1 : xW} (hf : ∀ b x, w b = some x → w1 b = some x) : Rep Z K J w1 := ⟨fun kd ix g => hf _ _ (h.1 kd ix g), h.2⟩
theorem faceAt_some (hR : Rep Z K J w) {f : Nat} (hf : f < nf K) : f_at 4 (g_face Z K) (nI f) = some (Z 8 f) := by
  rw [f_at_nI (n := 4) (by decide) (Nat.lt_of_lt_of_le hf hR.nf4) (by decide)]
  exact if_pos hf
set_option maxRecDepth 100000 in
set_option maxHeartbeats 4000000 in
theorem c_publish (hR : Rep Z K J w) {f : Nat} (hf1 : f < nf K) (h6 : nv K f < 6) {hs q : Int32} (hsh : f_shape hs q = true) : x_Ci l D dA vwCl tyL0 B yX6_publish wX6_publish (rmd 3 3 18) [.ref (Z 0 0), .int (nI f), .int hs, .int q] w (fun v w1 => v = .int (nI (f_cnt (p_suit K f hs q) (nv K f))) ∧ GM Z K w (kPub K f hs q) w1) 3 18 := by
  refine x_Ct.of (cc := cX6_publish) (maxL := 8) (by decide) rfl (Nat.le_of_ble_eq_true rfl) ?_
  intro p e s m below meth c F
  have hf : ∀ b, ¬ b = (Z 8 f) → ¬ b = (Z 9 f) → w b = w b := fun b _ _ => rfl
  have h_m := hR.face hf1
  have h_a := hR.fvs hf1
  have ne_m_a : ¬ Z 8 f = Z 9 f := fun e => absurd (hR.inj (k1 := 8) (i1 := f) (k2 := 9) (i2 := f) hf1 hf1 e).1 (by decide)
  refine x_aload_n F dX6_publish_0 rfl rfl ?_
  refine x_iload_n F dX6_publish_1 rfl rfl ?_
  refine x_cVi1 (ci := 6) (C := RX6) (T := TX6) (N := 12) F dX6_publish_2 (x_gV q115 q116 q448 q1 q117) rfl (c_faceAt hR (nI f)) ⟨rfl, rfl, rfl, xd_X6_faceAt, ⟨Nat.le_of_ble_eq_true rfl, Nat.le_of_ble_eq_true rfl⟩, Nat.le_of_ble_eq_true rfl, Nat.le_of_ble_eq_true rfl⟩ rfl hR.main (Nat.le_of_ble_eq_true rfl) (fun v1 w1 hp => ?_)
  obtain ⟨rfl, hw9⟩ := hp
  replace hw9 := hw9.symm
  subst hw9
  rw [faceAt_some hR hf1]
  refine x_astore F dX6_publish_5 (by decide) ?_
  refine x_aload F dX6_publish_7 rfl ?_
  refine x_ifnonnull F dX6_publish_9 rfl ?_
  refine x_iload_n F dX6_publish_22 rfl rfl ?_
  refine x_iload_n F dX6_publish_23 rfl rfl ?_
  refine x_cSi2 F dX6_publish_24 (x_gS q120 q121 q1 q122) (c_isShape hs q) ⟨rfl, rfl, rfl, xd_X6_isShape, ⟨Nat.le_of_ble_eq_true rfl, Nat.le_of_ble_eq_true rfl⟩, Nat.le_of_ble_eq_true rfl, Nat.le_of_ble_eq_true rfl⟩ (Nat.le_of_ble_eq_true rfl) (fun v1 w1 hp => ?_)
  obtain ⟨rfl, hw9⟩ := hp
  replace hw9 := hw9.symm
  subst hw9
  refine x_if_ne F dX6_publish_27 rfl (fun h27 => ?_) (fun hc => absurd hc (by rw [hsh]; decide))
  refine x_aload F dX6_publish_40 rfl ?_
  refine x_get (ci := 2) (C := RX2) (T := TX2) (N := 3) (k := 2) F dX6_publish_42 rfl inX2 (by decide) q107 rfl h_m rfl ?_
  refine x_istore F dX6_publish_45 (by decide) ?_
  refine x_iload F dX6_publish_47 rfl ?_
  refine x_if_lt F dX6_publish_49 rfl (fun hc => absurd hc (nI_pos (by omega))) (fun h49 => ?_)
  refine x_iload F dX6_publish_52 rfl ?_
  refine x_aload F dX6_publish_54 rfl ?_
  refine x_get (ci := 2) (C := RX2) (T := TX2) (N := 3) (k := 1) F dX6_publish_56 rfl inX2 (by decide) q106 rfl h_m rfl ?_
  refine x_alen (v := 6) F dX6_publish_59 rfl h_a rfl ?_
  refine x_icmp_lt F dX6_publish_60 rfl (fun h60 => ?_) (fun hc => absurd hc (fun e => e (nI_lt (b := 6) h6 (by decide))))
  refine x_new (ci := 5) (C := RX5) (T := TX5) (N := 9) (fs := [.null, .int 0, .int 0, .int 0, .null, .int 0, .int 0, .int 0, .int 0]) F dX6_publish_73 rfl inX5 tyX5 tyX5_ok q128 q129 q12 (fun j hj => by rcases (show j = 0 ∨ j = 1 ∨ j = 2 ∨ j = 3 ∨ j = 4 ∨ j = 5 ∨ j = 6 ∨ j = 7 ∨ j = 8 by omega) with rfl | rfl | rfl | rfl | rfl | rfl | rfl | rfl | rfl <;> rfl) (Nat.le_of_ble_eq_true rfl) (Nat.le_of_ble_eq_true rfl) (fun r hr => ?_)
  refine x_wd (fun w1 hw1 => ?_)
  have ne_m_r : ¬ (Z 8 f) = r := fun e => by rw [e, hr] at h_m; cases h_m
  have ne_a_r : ¬ (Z 9 f) = r := fun e => by rw [e, hr] at h_a; cases h_a
  have fr_r : w r = none := by rw [← hf r (fun e => ne_m_r e.symm) (fun e => ne_a_r e.symm)]; exact hr
  have h_m : w1 (Z 8 f) = some (.inr (2, [.int (nI f), .ref (Z 9 f), .int (nI (nv K f))])) := by rw [hw1, x_set_ne _ _ ne_m_r]; exact h_m
  have h_a : w1 (Z 9 f) = some (aV 6 (fun j => if j < nv K f then some (Z 10 (6 * f + j)) else none)) := by rw [hw1, x_set_ne _ _ ne_a_r]; exact h_a
  have h_r : w1 r = some (.inr (5, [.null, .int 0, .int 0, .int 0, .null, .int 0, .int 0, .int 0, .int 0])) := by rw [hw1]; exact x_set_eq _ _ _
  have hf : ∀ b, ¬ b = (Z 8 f) → ¬ b = (Z 9 f) → ¬ b = r → w1 b = w b := fun b g0 g1 g2 => by rw [hw1]; exact (x_set_ne _ _ g2).trans (hf b g0 g1)
  refine x_dup F dX6_publish_76 rfl ?_
  refine x_aload F dX6_publish_77 rfl ?_
  refine x_iload F dX6_publish_79 rfl ?_
  refine x_iload_n F dX6_publish_81 rfl rfl ?_
  refine x_iload_n F dX6_publish_82 rfl rfl ?_
  refine x_cI4 F dX6_publish_83 (x_gI q132) q12 q130 q131 rfl (c_ver_init h_r (Z 8 f) (nI (nv K f)) hs q) ⟨rfl, rfl, rfl, xd_X5_init, ⟨Nat.le_of_ble_eq_true rfl, Nat.le_of_ble_eq_true rfl⟩, Nat.le_of_ble_eq_true rfl, Nat.le_of_ble_eq_true rfl⟩ (Nat.le_of_ble_eq_true rfl) (fun w1 hp => ?_)
  obtain ⟨ra, ka, fm, fk, ne_t_k, g_r, g_m, g_k, hf2⟩ := hp
  have ne_t_k2 := ne_t_k
  have ne_m_t : ¬ (Z 8 f) = ra := fun e => by rw [e, fm] at h_m; cases h_m
  have ne_a_t : ¬ (Z 9 f) = ra := fun e => by rw [e, fm] at h_a; cases h_a
  have ne_r_t : ¬ r = ra := fun e => by rw [e, fm] at h_r; cases h_r
  have fr_t : w ra = none := by rw [← hf ra (fun e => ne_m_t e.symm) (fun e => ne_a_t e.symm) (fun e => ne_r_t e.symm)]; exact fm
  have ne_m_k : ¬ (Z 8 f) = ka := fun e => by rw [e, fk] at h_m; cases h_m
  have ne_a_k : ¬ (Z 9 f) = ka := fun e => by rw [e, fk] at h_a; cases h_a
  have ne_r_k : ¬ r = ka := fun e => by rw [e, fk] at h_r; cases h_r
  have fr_k : w ka = none := by rw [← hf ka (fun e => ne_m_k e.symm) (fun e => ne_a_k e.symm) (fun e => ne_r_k e.symm)]; exact fk
  have h_m : w1 (Z 8 f) = some (.inr (2, [.int (nI f), .ref (Z 9 f), .int (nI (nv K f))])) := by rw [hf2 (Z 8 f) ne_m_r ne_m_t ne_m_k]; exact h_m
  have h_a : w1 (Z 9 f) = some (aV 6 (fun j => if j < nv K f then some (Z 10 (6 * f + j)) else none)) := by rw [hf2 (Z 9 f) ne_a_r ne_a_t ne_a_k]; exact h_a
  have h_r : w1 r = some (oVer (Z 8 f) (nI (nv K f)) hs q ra 0 0 0 0) := g_r
  have h_t : w1 ra = some (oRet ka (-1) (-1) 0) := g_m
  have h_k : w1 ka = some (aI 5 (f_fill 5 (-1) (fun _ => 0))) := g_k
  have hf : ∀ b, ¬ b = (Z 8 f) → ¬ b = (Z 9 f) → ¬ b = r → ¬ b = ra → ¬ b = ka → w1 b = w b := fun b g0 g1 g2 g3 g4 => by rw [hf2 b g2 g3 g4]; exact hf b g0 g1 g2
  have hR1 : Rep Z K J w1 := hR.far (fun b x hb => by rw [hf2 b (fun e => by rw [e, hr] at hb; cases hb) (fun e => by rw [e, fr_t] at hb; cases hb) (fun e => by rw [e, fr_k] at hb; cases hb), hw1, x_set_ne _ _ (fun e => by rw [e, hr] at hb; cases hb)]; exact hb)
  refine x_astore F dX6_publish_86 (by decide) ?_
  refine x_aload F dX6_publish_88 rfl ?_
  refine x_cSi1 F dX6_publish_90 (x_gS q162 q163 q1 q164) (c_countSuited hR1 hf1 (Nat.le_of_lt h6) h_r) ⟨rfl, rfl, rfl, xd_X6_countSuited, ⟨Nat.le_of_ble_eq_true rfl, Nat.le_of_ble_eq_true rfl⟩, Nat.le_of_ble_eq_true rfl, Nat.le_of_ble_eq_true rfl⟩ (Nat.le_of_ble_eq_true rfl) (fun v1 w1 hp => ?_)
  obtain ⟨rfl, hw9⟩ := hp
  replace hw9 := hw9.symm
  subst hw9
  refine x_istore F dX6_publish_93 (by decide) ?_
  refine x_aload F dX6_publish_95 rfl ?_
  refine x_get (ci := 2) (C := RX2) (T := TX2) (N := 3) (k := 1) F dX6_publish_97 rfl inX2 (by decide) q106 rfl h_m rfl ?_
  refine x_iload F dX6_publish_100 rfl ?_
  refine x_aload F dX6_publish_102 rfl ?_
  refine x_aastN F dX6_publish_104 rfl rfl h_a h_r h6 (by decide) ?_
  refine x_wd (fun w2 hw2 => ?_)
  have h_m : w2 (Z 8 f) = some (.inr (2, [.int (nI f), .ref (Z 9 f), .int (nI (nv K f))])) := by rw [hw2, x_set_ne _ _ ne_m_a]; exact h_m
  have h_a : w2 (Z 9 f) = some (aV 6 (va_up (fun j => if j < nv K f then some (Z 10 (6 * f + j)) else none) (nv K f) (some r))) := by rw [hw2]; exact x_set_eq _ _ _
  have h_r : w2 r = some (oVer (Z 8 f) (nI (nv K f)) hs q ra 0 0 0 0) := by rw [hw2, x_set_ne _ _ (fun e => ne_a_r e.symm)]; exact h_r
  have h_t : w2 ra = some (oRet ka (-1) (-1) 0) := by rw [hw2, x_set_ne _ _ (fun e => ne_a_t e.symm)]; exact h_t
  have h_k : w2 ka = some (aI 5 (f_fill 5 (-1) (fun _ => 0))) := by rw [hw2, x_set_ne _ _ (fun e => ne_a_k e.symm)]; exact h_k
  have hf : ∀ b, ¬ b = (Z 8 f) → ¬ b = (Z 9 f) → ¬ b = r → ¬ b = ra → ¬ b = ka → w2 b = w b := fun b g0 g1 g2 g3 g4 => by rw [hw2]; exact (x_set_ne _ _ g1).trans (hf b g0 g1 g2 g3 g4)
  refine x_aload F dX6_publish_105 rfl ?_
  refine x_iload F dX6_publish_107 rfl ?_
  refine x_iconst (v := 1) F dX6_publish_109 (by decide) ?_
  refine x_iadd F dX6_publish_110 ?_
  refine x_put (ci := 2) (C := RX2) (T := TX2) (N := 3) (k := 2) F dX6_publish_111 rfl inX2 tyX2 tyX2_ok nmX2 (by decide) q107 rfl rfl h_m (Nat.le_of_ble_eq_true rfl) rfl rfl ?_
  refine x_wd (fun w3 hw3 => ?_)
  have h_m : w3 (Z 8 f) = some (.inr (2, [.int (nI f), .ref (Z 9 f), .int (nI (nv K f) + 1)])) := by rw [hw3]; exact x_set_eq _ _ _
  have h_a : w3 (Z 9 f) = some (aV 6 (va_up (fun j => if j < nv K f then some (Z 10 (6 * f + j)) else none) (nv K f) (some r))) := by rw [hw3, x_set_ne _ _ (fun e => ne_m_a e.symm)]; exact h_a
  have h_r : w3 r = some (oVer (Z 8 f) (nI (nv K f)) hs q ra 0 0 0 0) := by rw [hw3, x_set_ne _ _ (fun e => ne_m_r e.symm)]; exact h_r
  have h_t : w3 ra = some (oRet ka (-1) (-1) 0) := by rw [hw3, x_set_ne _ _ (fun e => ne_m_t e.symm)]; exact h_t
  have h_k : w3 ka = some (aI 5 (f_fill 5 (-1) (fun _ => 0))) := by rw [hw3, x_set_ne _ _ (fun e => ne_m_k e.symm)]; exact h_k
  have hf : ∀ b, ¬ b = (Z 8 f) → ¬ b = (Z 9 f) → ¬ b = r → ¬ b = ra → ¬ b = ka → w3 b = w b := fun b g0 g1 g2 g3 g4 => by rw [hw3]; exact (x_set_ne _ _ g0).trans (hf b g0 g1 g2 g3 g4)
  refine x_iload F dX6_publish_114 rfl ?_
  refine x_iret F rfl rfl dX6_publish_116 (Nat.le_refl _) (Nat.le_refl _) ?_
  exact ⟨_, rfl, rfl, hR.addV hf1 h6 fr_r fr_t fr_k ne_r_t ne_r_k ne_t_k h_m h_a h_r h_t h_k hf⟩
theorem Rep.addC (h : Rep Z K J w) {r ka kb v : Nat} {o u : Int32} (hn : nc K < 10) (hv : vOk K v) (hr : w r = none) (hka : w ka = none) (hkb : w kb = none) (n1 : ¬ r = ka) (n2 : ¬ r = kb) (n3 : ¬ ka = kb) {w1 : xW}
    (e0 : w1 (Z 0 0) = some (.inr (6, [.ref (Z 1 0), .ref (Z 2 0), .ref (Z 3 0), .int (nI (nf K)), .int (nI (nc K) + 1), .int (nI (na K)), .int (kG K 0), .int (kG K 1), .int (kG K 2), .int (kG K 3), .ref (Z 4 0), .ref (Z 6 0)])))
    (e1 : w1 (Z 2 0) = some (aC 10 (va_up (fun j => if j < nc K then some (Z 13 j) else none) (nc K) (some r))))
    (er : w1 r = some (.inr (1, [.int o, .ref (Z 8 (v / 6)), .ref ka, .ref kb, .ref (Z 10 v), .int u, .int 0, .int 0]))) (eka : w1 ka = some (aI 6 (f_fill 6 (-1) (fun _ => 0)))) (ekb : w1 kb = some (aI 6 (fun _ => 0)))
    (hf : ∀ b, ¬ b = Z 0 0 → ¬ b = Z 2 0 → ¬ b = r → ¬ b = ka → ¬ b = kb → w1 b = w b) : GM Z K w (kCli K o u v) w1 := by
  obtain ⟨i, hi⟩ : ∃ i, i = nc K := ⟨_, rfl⟩
  have hZ : ∀ kd ix, live K kd ix → zUp (zUp (zUp Z 13 i r) 14 i ka) 15 i kb kd ix = Z kd ix := by
    intro kd ix g
    rw [zUp_ne _ (fun e => by obtain ⟨rfl, rfl⟩ := e; exact absurd (show ix < nc K from g) (by omega)), zUp_ne _ (fun e => by obtain ⟨rfl, rfl⟩ := e; exact absurd (show ix < nc K from g) (by omega)), zUp_ne _ (fun e => by obtain ⟨rfl, rfl⟩ := e; exact absurd (show ix < nc K from g) (by omega))]
  have z13 : zUp (zUp (zUp Z 13 i r) 14 i ka) 15 i kb 13 i = r := by rw [zUp_ne _ (by omega), zUp_ne _ (by omega), zUp_eq]
  have z14 : zUp (zUp (zUp Z 13 i r) 14 i ka) 15 i kb 14 i = ka := by rw [zUp_ne _ (by omega), zUp_eq]
  have z15 : zUp (zUp (zUp Z 13 i r) 14 i ka) 15 i kb 15 i = kb := zUp_eq _ _ _ _
  obtain ⟨Z1, hZ1⟩ : ∃ Z1, Z1 = zUp (zUp (zUp Z 13 i r) 14 i ka) 15 i kb := ⟨_, rfl⟩
  rw [← hZ1] at hZ z13 z14 z15
  have hvk : ∀ j, vOk (kCli K o u v) j ↔ vOk K j := fun j => by
    unfold vOk
    rw [kCli_nf, kCli_nv]
  have hkc : ∀ a b, kC (kCli K o u v) a b = if a = i then (match b with | 0 => o | 1 => u | _ => 0) else kC K a b := fun a b => by subst hi; rfl
  have hkl : ∀ a, kCL (kCli K o u v) a = if a = i then f_fill 6 (-1) (fun _ => 0) else kCL K a := fun a => by subst hi; rfl
  have hks : ∀ a, kCS (kCli K o u v) a = if a = i then (fun _ => 0) else kCS K a := fun a => by subst hi; rfl
  have hkw : ∀ a, kCV (kCli K o u v) a = if a = i then v else kCV K a := fun a => by subst hi; rfl
  have hlv : ∀ kd ix, live (kCli K o u v) kd ix → live K kd ix ∨ ((kd = 13 ∨ kd = 14 ∨ kd = 15) ∧ ix = i) := by
    intro kd ix g
    rcases kd with _ | _ | _ | _ | _ | _ | _ | _ | _ | _ | _ | _ | _ | _ | _ | _ | _ | kd
    all_goals first
      | exact Or.inl g
      | exact Or.inl ((hvk ix).mp g)
      | (have g2 : ix < nf (kCli K o u v) := g
         rw [kCli_nf] at g2
         exact Or.inl g2)
      | (have g2 : ix < nc (kCli K o u v) := g
         rw [kCli_nc] at g2
         by_cases e : ix = i
         · exact Or.inr ⟨by decide, e⟩
         · exact Or.inl (show ix < nc K by omega))
      | (have g2 : ix < na (kCli K o u v) := g
         rw [kCli_na] at g2
         exact Or.inl g2)
  have hG := h.grow (Z1 := Z1) (K1 := kCli K o u v) (w1 := w1) (fun kd ix => (kd = 13 ∨ kd = 14 ∨ kd = 15) ∧ ix = i) (fun kd ix => (kd = 0 ∨ kd = 2) ∧ ix = 0) hlv hZ
    (fun kd ix g => by obtain ⟨rfl | rfl | rfl, e⟩ := g; · rw [e, z13]; exact hr
                       · rw [e, z14]; exact hka
                       · rw [e, z15]; exact hkb)
    (fun k1 j1 k2 j2 g1 g2 e => by
      obtain ⟨g1, q1⟩ := g1
      obtain ⟨g2, q2⟩ := g2
      rw [q1, q2] at e ⊢
      refine ⟨?_, rfl⟩
      rcases g1 with rfl | rfl | rfl <;> rcases g2 with rfl | rfl | rfl <;> first | rfl | (simp only [z13, z14, z15] at e; first | exact absurd e n1 | exact absurd e n2 | exact absurd e n3 | exact absurd e.symm n1 | exact absurd e.symm n2 | exact absurd e.symm n3))
    (fun b g1 g2 => hf b (g1 0 0 rfl (by simp)) (g1 2 0 rfl (by simp)) (by rw [← z13]; exact g2 13 _ (by simp)) (by rw [← z14]; exact g2 14 _ (by simp)) (by rw [← z15]; exact g2 15 _ (by simp)))
    (fun kd ix g g1 => by
      rcases kd with _ | _ | _ | _ | _ | _ | _ | _ | _ | _ | _ | _ | _ | _ | _ | _ | _ | kd
      all_goals first
        | rfl
        | exact absurd ⟨Or.inl rfl, g⟩ g1
        | exact absurd ⟨Or.inr rfl, g⟩ g1
        | skip
      · show (Sum.inr (2, [_, _, Value.int (nI (nv (kCli K o u v) ix))]) : xE) = _
        rw [kCli_nv]
        rfl
      · show aV 6 (fun j => if j < nv (kCli K o u v) ix then some (Z1 10 (6 * ix + j)) else none) = _
        rw [kCli_nv]
        rfl
      · have hx : ¬ ix = i := fun e => absurd (show ix < nc K from g) (by omega)
        show (Sum.inr (1, [Value.int (kC (kCli K o u v) ix 0), Value.ref (Z1 8 (kCV (kCli K o u v) ix / 6)), _, _, Value.ref (Z1 10 (kCV (kCli K o u v) ix)), Value.int (kC (kCli K o u v) ix 1), Value.int (kC (kCli K o u v) ix 2), Value.int (kC (kCli K o u v) ix 3)]) : xE) = _
        simp only [hkc, hkw, if_neg hx]
        rfl
      · have hx : ¬ ix = i := fun e => absurd (show ix < nc K from g) (by omega)
        show aI 6 (kCL (kCli K o u v) ix) = _
        rw [hkl, if_neg hx]
        rfl
      · have hx : ¬ ix = i := fun e => absurd (show ix < nc K from g) (by omega)
        show aI 6 (kCS (kCli K o u v) ix) = _
        rw [hks, if_neg hx]
        rfl)
    (fun kd ix g g1 => by
      obtain ⟨rfl | rfl, rfl⟩ := g1
      · rw [e0]
        show _ = some (Sum.inr (6, [_, _, _, Value.int (nI (nf (kCli K o u v))), Value.int (nI (nc (kCli K o u v))), Value.int (nI (na (kCli K o u v))), _, _, _, _, _, _]) : xE)
        rw [kCli_nf, kCli_nc, kCli_na, ← nI_1, hZ 1 0 rfl, hZ 2 0 rfl, hZ 3 0 rfl, hZ 4 0 rfl, hZ 6 0 rfl]
        rfl
      · rw [e1, up_arr (g1 := Z1 13) (by rw [← hi]; exact z13) (fun j hj => hZ 13 j hj)]
        show _ = some (aC 10 (fun j => if j < nc (kCli K o u v) then some (Z1 13 j) else none))
        rw [kCli_nc])
    (fun kd ix g => by
      obtain ⟨g1, e⟩ := g
      subst e
      rcases g1 with rfl | rfl | rfl
      · rw [z13, er]
        show _ = some (Sum.inr (1, [Value.int (kC (kCli K o u v) ix 0), Value.ref (Z1 8 (kCV (kCli K o u v) ix / 6)), Value.ref (Z1 14 ix), Value.ref (Z1 15 ix), Value.ref (Z1 10 (kCV (kCli K o u v) ix)), Value.int (kC (kCli K o u v) ix 1), Value.int (kC (kCli K o u v) ix 2), Value.int (kC (kCli K o u v) ix 3)]) : xE)
        simp only [hkc, hkw, if_pos, z14, z15]
        rw [hZ 8 (v / 6) hv.1, hZ 10 v hv]
      · rw [z14, eka]
        show _ = some (aI 6 (kCL (kCli K o u v) ix))
        rw [hkl, if_pos rfl]
      · rw [z15, ekb]
        show _ = some (aI 6 (kCS (kCli K o u v) ix))
        rw [hks, if_pos rfl])
    (by
      obtain ⟨a1, a2, a3, a4, a5, a6⟩ := h.2.2
      unfold kWf
      rw [kCli_nf, kCli_nc, kCli_na]
      refine ⟨a1, fun g hg => by rw [kCli_nv]; exact a2 g hg, by omega, a4, fun k hk => (hvk _).mpr ?_, fun k hk => ⟨(hvk _).mpr (a6 k hk).1, (hvk _).mpr (a6 k hk).2⟩⟩
      rw [hkw]
      by_cases e : k = i
      · rw [if_pos e]; exact hv
      · rw [if_neg e]; exact a5 k (by omega))
  exact ⟨Z1, J, hZ 0 0 rfl, hG⟩
theorem Rep.addA (h : Rep Z K J w) {r x y : Nat} {u v : Int32} (hn : na K < 10) (hx : vOk K x) (hy : vOk K y) (hr : w r = none) {w1 : xW}
    (e0 : w1 (Z 0 0) = some (.inr (6, [.ref (Z 1 0), .ref (Z 2 0), .ref (Z 3 0), .int (nI (nf K)), .int (nI (nc K)), .int (nI (na K) + 1), .int (kG K 0), .int (kG K 1), .int (kG K 2), .int (kG K 3), .ref (Z 4 0), .ref (Z 6 0)])))
    (e1 : w1 (Z 3 0) = some (aA 10 (va_up (fun j => if j < na K then some (Z 16 j) else none) (na K) (some r))))
    (er : w1 r = some (.inr (0, [.ref (Z 10 x), .ref (Z 10 y), .int u, .int v])))
    (hf : ∀ b, ¬ b = Z 0 0 → ¬ b = Z 3 0 → ¬ b = r → w1 b = w b) : GM Z K w (kAda K x y u v) w1 := by
  obtain ⟨i, hi⟩ : ∃ i, i = na K := ⟨_, rfl⟩
  have hZ : ∀ kd ix, live K kd ix → zUp Z 16 i r kd ix = Z kd ix := by
    intro kd ix g
    rw [zUp_ne _ (fun e => by obtain ⟨rfl, rfl⟩ := e; exact absurd (show ix < na K from g) (by omega))]
  have z16 : zUp Z 16 i r 16 i = r := zUp_eq _ _ _ _
  obtain ⟨Z1, hZ1⟩ : ∃ Z1, Z1 = zUp Z 16 i r := ⟨_, rfl⟩
  rw [← hZ1] at hZ z16
  have hvk : ∀ j, vOk (kAda K x y u v) j ↔ vOk K j := fun j => by
    unfold vOk
    rw [kAda_nf, kAda_nv]
  have hka : ∀ a b, kA (kAda K x y u v) a b = if a = i then (match b with | 0 => u | _ => v) else kA K a b := fun a b => by subst hi; rfl
  have hkf : ∀ a, kAF (kAda K x y u v) a = if a = i then x else kAF K a := fun a => by subst hi; rfl
  have hkt : ∀ a, kAT (kAda K x y u v) a = if a = i then y else kAT K a := fun a => by subst hi; rfl
  have hlv : ∀ kd ix, live (kAda K x y u v) kd ix → live K kd ix ∨ (kd = 16 ∧ ix = i) := by
    intro kd ix g
    rcases kd with _ | _ | _ | _ | _ | _ | _ | _ | _ | _ | _ | _ | _ | _ | _ | _ | _ | kd
    all_goals first
      | exact Or.inl g
      | exact Or.inl ((hvk ix).mp g)
      | (have g2 : ix < nf (kAda K x y u v) := g
         rw [kAda_nf] at g2
         exact Or.inl g2)
      | (have g2 : ix < nc (kAda K x y u v) := g
         rw [kAda_nc] at g2
         exact Or.inl g2)
      | (have g2 : ix < na (kAda K x y u v) := g
         rw [kAda_na] at g2
         by_cases e : ix = i
         · exact Or.inr ⟨rfl, e⟩
         · exact Or.inl (show ix < na K by omega))
  have hG := h.grow (Z1 := Z1) (K1 := kAda K x y u v) (w1 := w1) (fun kd ix => kd = 16 ∧ ix = i) (fun kd ix => (kd = 0 ∨ kd = 3) ∧ ix = 0) hlv hZ
    (fun kd ix g => by obtain ⟨rfl, e⟩ := g; rw [e, z16]; exact hr)
    (fun k1 j1 k2 j2 g1 g2 e => ⟨g1.1.trans g2.1.symm, g1.2.trans g2.2.symm⟩)
    (fun b g1 g2 => hf b (g1 0 0 rfl (by simp)) (g1 3 0 rfl (by simp)) (by rw [← z16]; exact g2 16 _ (by simp)))
    (fun kd ix g g1 => by
      rcases kd with _ | _ | _ | _ | _ | _ | _ | _ | _ | _ | _ | _ | _ | _ | _ | _ | _ | kd
      all_goals first
        | rfl
        | exact absurd ⟨Or.inl rfl, g⟩ g1
        | exact absurd ⟨Or.inr rfl, g⟩ g1
        | skip
      · show (Sum.inr (2, [_, _, Value.int (nI (nv (kAda K x y u v) ix))]) : xE) = _
        rw [kAda_nv]
        rfl
      · show aV 6 (fun j => if j < nv (kAda K x y u v) ix then some (Z1 10 (6 * ix + j)) else none) = _
        rw [kAda_nv]
        rfl
      · have hx : ¬ ix = i := fun e => absurd (show ix < na K from g) (by omega)
        show (Sum.inr (0, [Value.ref (Z1 10 (kAF (kAda K x y u v) ix)), Value.ref (Z1 10 (kAT (kAda K x y u v) ix)), Value.int (kA (kAda K x y u v) ix 0), Value.int (kA (kAda K x y u v) ix 1)]) : xE) = _
        simp only [hka, hkf, hkt, if_neg hx]
        rfl
      · exact absurd g (by unfold live; simp))
    (fun kd ix g g1 => by
      obtain ⟨rfl | rfl, rfl⟩ := g1
      · rw [e0]
        show _ = some (Sum.inr (6, [_, _, _, Value.int (nI (nf (kAda K x y u v))), Value.int (nI (nc (kAda K x y u v))), Value.int (nI (na (kAda K x y u v))), _, _, _, _, _, _]) : xE)
        rw [kAda_nf, kAda_nc, kAda_na, ← nI_1, hZ 1 0 rfl, hZ 2 0 rfl, hZ 3 0 rfl, hZ 4 0 rfl, hZ 6 0 rfl]
        rfl
      · rw [e1, up_arr (g1 := Z1 16) (by rw [← hi]; exact z16) (fun j hj => hZ 16 j hj)]
        show _ = some (aA 10 (fun j => if j < na (kAda K x y u v) then some (Z1 16 j) else none))
        rw [kAda_na])
    (fun kd ix g => by
      obtain ⟨rfl, e⟩ := g
      subst e
      rw [z16, er]
      show _ = some (Sum.inr (0, [Value.ref (Z1 10 (kAF (kAda K x y u v) ix)), Value.ref (Z1 10 (kAT (kAda K x y u v) ix)), Value.int (kA (kAda K x y u v) ix 0), Value.int (kA (kAda K x y u v) ix 1)]) : xE)
      simp only [hka, hkf, hkt, if_pos]
      rw [hZ 10 x hx, hZ 10 y hy])
    (by
      obtain ⟨a1, a2, a3, a4, a5, a6⟩ := h.2.2
      unfold kWf
      rw [kAda_nf, kAda_nc, kAda_na]
      refine ⟨a1, fun g hg => by rw [kAda_nv]; exact a2 g hg, a3, by omega, fun k hk => (hvk _).mpr (a5 k hk), fun k hk => ?_⟩
      rw [hkf, hkt]
      by_cases e : k = i
      · rw [if_pos e, if_pos e]; exact ⟨(hvk _).mpr hx, (hvk _).mpr hy⟩
      · rw [if_neg e, if_neg e]; exact ⟨(hvk _).mpr (a6 k (by omega)).1, (hvk _).mpr (a6 k (by omega)).2⟩)
  exact ⟨Z1, J, hZ 0 0 rfl, hG⟩
set_option maxRecDepth 100000 in
set_option maxHeartbeats 4000000 in
theorem c_client (hR : Rep Z K J w) {f n : Nat} (hi : vOk K (6 * f + n)) (hk : n < 6) {o u : Int32} (ho : f_owner o = true) (hu : f_set u = true) (hfit : f_fits u (kV K (6 * f + n) 0) (kV K (6 * f + n) 1) = true) (hs : kV K (6 * f + n) 2 = 0) (hn : nc K < 10) : x_Ci l D dA vwCl tyL0 B yX6_client wX6_client (rmd 3 3 20) [.ref (Z 0 0), .int o, .int (nI f), .int (nI n), .int u] w (fun v w1 => v = .int (nI (nc K)) ∧ GM Z K w (kCli K o u (6 * f + n)) w1) 3 20 := by
  refine x_Ct.of (cc := cX6_client) (maxL := 6) (by decide) rfl (Nat.le_of_ble_eq_true rfl) ?_
  intro p e s m below meth c F
  have hf : ∀ b, ¬ b = (Z 0 0) → ¬ b = (Z 2 0) → w b = w b := fun b _ _ => rfl
  have h_m := hR.main
  have h_a := hR.clients
  have h_v := hR.ver hi
  have ne_m_a : ¬ Z 0 0 = Z 2 0 := (fun e => absurd (hR.inj (k1 := 0) (i1 := 0) (k2 := 2) (i2 := 0) rfl rfl e).1 (by decide))
  have ne_v_m : ¬ Z 10 (6 * f + n) = Z 0 0 := (fun e => absurd (hR.inj (k1 := 10) (i1 := (6 * f + n)) (k2 := 0) (i2 := 0) hi rfl e).1 (by decide))
  have ne_v_a : ¬ Z 10 (6 * f + n) = Z 2 0 := (fun e => absurd (hR.inj (k1 := 10) (i1 := (6 * f + n)) (k2 := 2) (i2 := 0) hi rfl e).1 (by decide))
  refine x_aload_n F dX6_client_0 rfl rfl ?_
  refine x_iload_n F dX6_client_1 rfl rfl ?_
  refine x_iload_n F dX6_client_2 rfl rfl ?_
  refine x_cVi2 (ci := 6) (C := RX6) (T := TX6) (N := 12) F dX6_client_3 (x_gV q177 q178 q449 q1 q179) rfl (c_versionAt hR (nI f) (nI n)) ⟨rfl, rfl, rfl, xd_X6_versionAt, ⟨Nat.le_of_ble_eq_true rfl, Nat.le_of_ble_eq_true rfl⟩, Nat.le_of_ble_eq_true rfl, Nat.le_of_ble_eq_true rfl⟩ rfl hR.main (Nat.le_of_ble_eq_true rfl) (fun v1 w1 hp => ?_)
  obtain ⟨rfl, hw9⟩ := hp
  replace hw9 := hw9.symm
  subst hw9
  rw [verAt_some hR hi hk]
  refine x_astore F dX6_client_6 (by decide) ?_
  refine x_aload F dX6_client_8 rfl ?_
  refine x_ifnonnull F dX6_client_10 rfl ?_
  refine x_iload_n F dX6_client_23 rfl rfl ?_
  refine x_cSi1 F dX6_client_24 (x_gS q236 q237 q1 q238) (c_isOwner o) ⟨rfl, rfl, rfl, xd_X6_isOwner, ⟨Nat.le_of_ble_eq_true rfl, Nat.le_of_ble_eq_true rfl⟩, Nat.le_of_ble_eq_true rfl, Nat.le_of_ble_eq_true rfl⟩ (Nat.le_of_ble_eq_true rfl) (fun v1 w1 hp => ?_)
  obtain ⟨rfl, hw9⟩ := hp
  replace hw9 := hw9.symm
  subst hw9
  refine x_if_eq F dX6_client_27 rfl (fun hc => absurd hc (by rw [ho]; decide)) (fun h27 => ?_)
  refine x_iload F dX6_client_30 rfl ?_
  refine x_cSi1 F dX6_client_32 (x_gS q123 q124 q1 q125) (c_isFieldSet u) ⟨rfl, rfl, rfl, xd_X6_isFieldSet, ⟨Nat.le_of_ble_eq_true rfl, Nat.le_of_ble_eq_true rfl⟩, Nat.le_of_ble_eq_true rfl, Nat.le_of_ble_eq_true rfl⟩ (Nat.le_of_ble_eq_true rfl) (fun v1 w1 hp => ?_)
  obtain ⟨rfl, hw9⟩ := hp
  replace hw9 := hw9.symm
  subst hw9
  refine x_if_eq F dX6_client_35 rfl (fun hc => absurd hc (by rw [hu]; decide)) (fun h35 => ?_)
  refine x_iload F dX6_client_38 rfl ?_
  refine x_aload F dX6_client_40 rfl ?_
  refine x_get (ci := 5) (C := RX5) (T := TX5) (N := 9) (k := 2) F dX6_client_42 rfl inX5 (by decide) q143 rfl h_v rfl ?_
  refine x_aload F dX6_client_45 rfl ?_
  refine x_get (ci := 5) (C := RX5) (T := TX5) (N := 9) (k := 3) F dX6_client_47 rfl inX5 (by decide) q145 rfl h_v rfl ?_
  refine x_cSi3 F dX6_client_50 (x_gS q218 q219 q1 q220) (c_fits u (kV K (6 * f + n) 0) (kV K (6 * f + n) 1)) ⟨rfl, rfl, rfl, xd_X6_fits, ⟨Nat.le_of_ble_eq_true rfl, Nat.le_of_ble_eq_true rfl⟩, Nat.le_of_ble_eq_true rfl, Nat.le_of_ble_eq_true rfl⟩ (Nat.le_of_ble_eq_true rfl) (fun v1 w1 hp => ?_)
  obtain ⟨rfl, hw9⟩ := hp
  replace hw9 := hw9.symm
  subst hw9
  refine x_if_ne F dX6_client_53 rfl (fun h53 => ?_) (fun hc => absurd hc (by rw [hfit]; decide))
  refine x_aload_n F dX6_client_66 rfl rfl ?_
  refine x_get (ci := 6) (C := RX6) (T := TX6) (N := 12) (k := 4) F dX6_client_67 rfl inX6 (by decide) q69 rfl h_m rfl ?_
  refine x_if_lt F dX6_client_70 rfl (fun hc => absurd hc (nI_pos (by omega))) (fun h70 => ?_)
  refine x_aload_n F dX6_client_73 rfl rfl ?_
  refine x_get (ci := 6) (C := RX6) (T := TX6) (N := 12) (k := 4) F dX6_client_74 rfl inX6 (by decide) q69 rfl h_m rfl ?_
  refine x_aload_n F dX6_client_77 rfl rfl ?_
  refine x_get (ci := 6) (C := RX6) (T := TX6) (N := 12) (k := 1) F dX6_client_78 rfl inX6 (by decide) q66 rfl h_m rfl ?_
  refine x_alen (v := 10) F dX6_client_81 rfl h_a rfl ?_
  refine x_icmp_ge F dX6_client_82 rfl (fun hc => absurd hc (nI_ge (b := 10) hn (by decide))) (fun h82 => ?_)
  refine x_aload F dX6_client_85 rfl ?_
  refine x_get (ci := 5) (C := RX5) (T := TX5) (N := 9) (k := 5) F dX6_client_87 rfl inX5 (by decide) q149 rfl h_v rfl ?_
  refine x_if_eq F dX6_client_90 rfl (fun h90 => ?_) (fun hc => absurd hc (fun q => q hs))
  refine x_aload_n F dX6_client_103 rfl rfl ?_
  refine x_get (ci := 6) (C := RX6) (T := TX6) (N := 12) (k := 1) F dX6_client_104 rfl inX6 (by decide) q66 rfl h_m rfl ?_
  refine x_aload_n F dX6_client_107 rfl rfl ?_
  refine x_get (ci := 6) (C := RX6) (T := TX6) (N := 12) (k := 4) F dX6_client_108 rfl inX6 (by decide) q69 rfl h_m rfl ?_
  refine x_new (ci := 1) (C := RX1) (T := TX1) (N := 8) (fs := [.int 0, .null, .null, .null, .null, .int 0, .int 0, .int 0]) F dX6_client_111 rfl inX1 tyX1 tyX1_ok q26 q239 q13 (fun j hj => by rcases (show j = 0 ∨ j = 1 ∨ j = 2 ∨ j = 3 ∨ j = 4 ∨ j = 5 ∨ j = 6 ∨ j = 7 by omega) with rfl | rfl | rfl | rfl | rfl | rfl | rfl | rfl <;> rfl) (Nat.le_of_ble_eq_true rfl) (Nat.le_of_ble_eq_true rfl) (fun r hr => ?_)
  refine x_wd (fun w1 hw1 => ?_)
  have ne_m_r : ¬ (Z 0 0) = r := fun e => by rw [e, hr] at h_m; cases h_m
  have ne_a_r : ¬ (Z 2 0) = r := fun e => by rw [e, hr] at h_a; cases h_a
  have ne_v_r : ¬ (Z 10 (6 * f + n)) = r := fun e => by rw [e, hr] at h_v; cases h_v
  have fr_r : w r = none := by rw [← hf r (fun e => ne_m_r e.symm) (fun e => ne_a_r e.symm)]; exact hr
  have h_m : w1 (Z 0 0) = some (.inr (6, [.ref (Z 1 0), .ref (Z 2 0), .ref (Z 3 0), .int (nI (nf K)), .int (nI (nc K)), .int (nI (na K)), .int (kG K 0), .int (kG K 1), .int (kG K 2), .int (kG K 3), .ref (Z 4 0), .ref (Z 6 0)])) := by rw [hw1, x_set_ne _ _ ne_m_r]; exact h_m
  have h_a : w1 (Z 2 0) = some (aC 10 (fun j => if j < nc K then some (Z 13 j) else none)) := by rw [hw1, x_set_ne _ _ ne_a_r]; exact h_a
  have h_v : w1 (Z 10 (6 * f + n)) = some (.inr (5, [.ref (Z 8 ((6 * f + n) / 6)), .int (nI ((6 * f + n) % 6)), .int (kV K (6 * f + n) 0), .int (kV K (6 * f + n) 1), .ref (Z 11 (6 * f + n)), .int (kV K (6 * f + n) 2), .int (kV K (6 * f + n) 3), .int (kV K (6 * f + n) 4), .int (kV K (6 * f + n) 5)])) := by rw [hw1, x_set_ne _ _ ne_v_r]; exact h_v
  have h_r : w1 r = some (.inr (1, [.int 0, .null, .null, .null, .null, .int 0, .int 0, .int 0])) := by rw [hw1]; exact x_set_eq _ _ _
  have hf : ∀ b, ¬ b = (Z 0 0) → ¬ b = (Z 2 0) → ¬ b = r → w1 b = w b := fun b g0 g1 g2 => by rw [hw1]; exact (x_set_ne _ _ g2).trans (hf b g0 g1)
  refine x_dup F dX6_client_114 rfl ?_
  refine x_iload_n F dX6_client_115 rfl rfl ?_
  refine x_aload F dX6_client_116 rfl ?_
  refine x_iload F dX6_client_118 rfl ?_
  refine x_cI3 F dX6_client_120 (x_gI q242) q13 q240 q241 rfl (c_cli_init h_r h_v o u) ⟨rfl, rfl, rfl, xd_X1_init, ⟨Nat.le_of_ble_eq_true rfl, Nat.le_of_ble_eq_true rfl⟩, Nat.le_of_ble_eq_true rfl, Nat.le_of_ble_eq_true rfl⟩ (Nat.le_of_ble_eq_true rfl) (fun w1 hp => ?_)
  obtain ⟨ka, kb, fka, fkb, ne_k_s, g_r, g_k, g_s, hf2⟩ := hp
  have ne_m_k : ¬ (Z 0 0) = ka := fun e => by rw [e, fka] at h_m; cases h_m
  have ne_a_k : ¬ (Z 2 0) = ka := fun e => by rw [e, fka] at h_a; cases h_a
  have ne_v_k : ¬ (Z 10 (6 * f + n)) = ka := fun e => by rw [e, fka] at h_v; cases h_v
  have ne_r_k : ¬ r = ka := fun e => by rw [e, fka] at h_r; cases h_r
  have fr_k : w ka = none := by rw [← hf ka (fun e => ne_m_k e.symm) (fun e => ne_a_k e.symm) (fun e => ne_r_k e.symm)]; exact fka
  have ne_m_s : ¬ (Z 0 0) = kb := fun e => by rw [e, fkb] at h_m; cases h_m
  have ne_a_s : ¬ (Z 2 0) = kb := fun e => by rw [e, fkb] at h_a; cases h_a
  have ne_v_s : ¬ (Z 10 (6 * f + n)) = kb := fun e => by rw [e, fkb] at h_v; cases h_v
  have ne_r_s : ¬ r = kb := fun e => by rw [e, fkb] at h_r; cases h_r
  have fr_s : w kb = none := by rw [← hf kb (fun e => ne_m_s e.symm) (fun e => ne_a_s e.symm) (fun e => ne_r_s e.symm)]; exact fkb
  have h_m : w1 (Z 0 0) = some (.inr (6, [.ref (Z 1 0), .ref (Z 2 0), .ref (Z 3 0), .int (nI (nf K)), .int (nI (nc K)), .int (nI (na K)), .int (kG K 0), .int (kG K 1), .int (kG K 2), .int (kG K 3), .ref (Z 4 0), .ref (Z 6 0)])) := by rw [hf2 (Z 0 0) ne_m_r ne_m_k ne_m_s]; exact h_m
  have h_a : w1 (Z 2 0) = some (aC 10 (fun j => if j < nc K then some (Z 13 j) else none)) := by rw [hf2 (Z 2 0) ne_a_r ne_a_k ne_a_s]; exact h_a
  have h_v : w1 (Z 10 (6 * f + n)) = some (.inr (5, [.ref (Z 8 ((6 * f + n) / 6)), .int (nI ((6 * f + n) % 6)), .int (kV K (6 * f + n) 0), .int (kV K (6 * f + n) 1), .ref (Z 11 (6 * f + n)), .int (kV K (6 * f + n) 2), .int (kV K (6 * f + n) 3), .int (kV K (6 * f + n) 4), .int (kV K (6 * f + n) 5)])) := by rw [hf2 (Z 10 (6 * f + n)) ne_v_r ne_v_k ne_v_s]; exact h_v
  have h_r : w1 r = some (.inr (1, [.int o, .ref (Z 8 ((6 * f + n) / 6)), .ref ka, .ref kb, .ref (Z 10 (6 * f + n)), .int u, .int 0, .int 0])) := g_r
  have h_k : w1 ka = some (aI 6 (f_fill 6 (-1) (fun _ => 0))) := g_k
  have h_s : w1 kb = some (aI 6 (fun _ => 0)) := g_s
  have hf : ∀ b, ¬ b = (Z 0 0) → ¬ b = (Z 2 0) → ¬ b = r → ¬ b = ka → ¬ b = kb → w1 b = w b := fun b g0 g1 g2 g3 g4 => by rw [hf2 b g2 g3 g4]; exact hf b g0 g1 g2
  refine x_aastN F dX6_client_123 rfl rfl h_a h_r hn (by decide) ?_
  refine x_wd (fun w2 hw2 => ?_)
  have h_m : w2 (Z 0 0) = some (.inr (6, [.ref (Z 1 0), .ref (Z 2 0), .ref (Z 3 0), .int (nI (nf K)), .int (nI (nc K)), .int (nI (na K)), .int (kG K 0), .int (kG K 1), .int (kG K 2), .int (kG K 3), .ref (Z 4 0), .ref (Z 6 0)])) := by rw [hw2, x_set_ne _ _ ne_m_a]; exact h_m
  have h_a : w2 (Z 2 0) = some (aC 10 (va_up (fun j => if j < nc K then some (Z 13 j) else none) (nc K) (some r))) := by rw [hw2]; exact x_set_eq _ _ _
  have h_v : w2 (Z 10 (6 * f + n)) = some (.inr (5, [.ref (Z 8 ((6 * f + n) / 6)), .int (nI ((6 * f + n) % 6)), .int (kV K (6 * f + n) 0), .int (kV K (6 * f + n) 1), .ref (Z 11 (6 * f + n)), .int (kV K (6 * f + n) 2), .int (kV K (6 * f + n) 3), .int (kV K (6 * f + n) 4), .int (kV K (6 * f + n) 5)])) := by rw [hw2, x_set_ne _ _ ne_v_a]; exact h_v
  have h_r : w2 r = some (.inr (1, [.int o, .ref (Z 8 ((6 * f + n) / 6)), .ref ka, .ref kb, .ref (Z 10 (6 * f + n)), .int u, .int 0, .int 0])) := by rw [hw2, x_set_ne _ _ (fun e => ne_a_r e.symm)]; exact h_r
  have h_k : w2 ka = some (aI 6 (f_fill 6 (-1) (fun _ => 0))) := by rw [hw2, x_set_ne _ _ (fun e => ne_a_k e.symm)]; exact h_k
  have h_s : w2 kb = some (aI 6 (fun _ => 0)) := by rw [hw2, x_set_ne _ _ (fun e => ne_a_s e.symm)]; exact h_s
  have hf : ∀ b, ¬ b = (Z 0 0) → ¬ b = (Z 2 0) → ¬ b = r → ¬ b = ka → ¬ b = kb → w2 b = w b := fun b g0 g1 g2 g3 g4 => by rw [hw2]; exact (x_set_ne _ _ g1).trans (hf b g0 g1 g2 g3 g4)
  refine x_aload_n F dX6_client_124 rfl rfl ?_
  refine x_dup F dX6_client_125 rfl ?_
  refine x_get (ci := 6) (C := RX6) (T := TX6) (N := 12) (k := 4) F dX6_client_126 rfl inX6 (by decide) q69 rfl h_m rfl ?_
  refine x_dup_x1 F dX6_client_129 rfl rfl ?_
  refine x_iconst (v := 1) F dX6_client_130 (by decide) ?_
  refine x_iadd F dX6_client_131 ?_
  refine x_put (ci := 6) (C := RX6) (T := TX6) (N := 12) (k := 4) F dX6_client_132 rfl inX6 tyX6 tyX6_ok nmX6 (by decide) q69 rfl rfl h_m (Nat.le_of_ble_eq_true rfl) rfl rfl ?_
  refine x_wd (fun w3 hw3 => ?_)
  have h_m : w3 (Z 0 0) = some (.inr (6, [.ref (Z 1 0), .ref (Z 2 0), .ref (Z 3 0), .int (nI (nf K)), .int (nI (nc K) + 1), .int (nI (na K)), .int (kG K 0), .int (kG K 1), .int (kG K 2), .int (kG K 3), .ref (Z 4 0), .ref (Z 6 0)])) := by rw [hw3]; exact x_set_eq _ _ _
  have h_a : w3 (Z 2 0) = some (aC 10 (va_up (fun j => if j < nc K then some (Z 13 j) else none) (nc K) (some r))) := by rw [hw3, x_set_ne _ _ (fun e => ne_m_a e.symm)]; exact h_a
  have h_v : w3 (Z 10 (6 * f + n)) = some (.inr (5, [.ref (Z 8 ((6 * f + n) / 6)), .int (nI ((6 * f + n) % 6)), .int (kV K (6 * f + n) 0), .int (kV K (6 * f + n) 1), .ref (Z 11 (6 * f + n)), .int (kV K (6 * f + n) 2), .int (kV K (6 * f + n) 3), .int (kV K (6 * f + n) 4), .int (kV K (6 * f + n) 5)])) := by rw [hw3, x_set_ne _ _ ne_v_m]; exact h_v
  have h_r : w3 r = some (.inr (1, [.int o, .ref (Z 8 ((6 * f + n) / 6)), .ref ka, .ref kb, .ref (Z 10 (6 * f + n)), .int u, .int 0, .int 0])) := by rw [hw3, x_set_ne _ _ (fun e => ne_m_r e.symm)]; exact h_r
  have h_k : w3 ka = some (aI 6 (f_fill 6 (-1) (fun _ => 0))) := by rw [hw3, x_set_ne _ _ (fun e => ne_m_k e.symm)]; exact h_k
  have h_s : w3 kb = some (aI 6 (fun _ => 0)) := by rw [hw3, x_set_ne _ _ (fun e => ne_m_s e.symm)]; exact h_s
  have hf : ∀ b, ¬ b = (Z 0 0) → ¬ b = (Z 2 0) → ¬ b = r → ¬ b = ka → ¬ b = kb → w3 b = w b := fun b g0 g1 g2 g3 g4 => by rw [hw3]; exact (x_set_ne _ _ g0).trans (hf b g0 g1 g2 g3 g4)
  refine x_iret F rfl rfl dX6_client_135 (Nat.le_refl _) (Nat.le_refl _) ?_
  exact ⟨_, rfl, rfl, hR.addC hn hi fr_r fr_k fr_s ne_r_k ne_r_s ne_k_s h_m h_a h_r h_k h_s hf⟩
set_option maxRecDepth 100000 in
set_option maxHeartbeats 4000000 in
theorem c_adapter (hR : Rep Z K J w) {f x y : Nat} (hx : vOk K (6 * f + x)) (hx6 : x < 6) (hy : vOk K (6 * f + y)) (hy6 : y < 6) (hxy : ¬ x = y) {u v : Int32} (hu : f_set u = true) (hv : f_set v = true) (hn : na K < 10) : x_Ci l D dA vwCl tyL0 B yX6_adapter wX6_adapter (rmd 3 1 4) [.ref (Z 0 0), .int (nI f), .int (nI x), .int (nI y), .int u, .int v] w (fun q w1 => q = .int (nI (na K)) ∧ GM Z K w (kAda K (6 * f + x) (6 * f + y) u v) w1) 1 4 := by
  refine x_Ct.of (cc := cX6_adapter) (maxL := 8) (by decide) rfl (Nat.le_of_ble_eq_true rfl) ?_
  intro p e s m below meth c F
  have hf : ∀ b, ¬ b = (Z 0 0) → ¬ b = (Z 3 0) → w b = w b := fun b _ _ => rfl
  have h_m := hR.main
  have h_a := hR.adapters
  have ne_m_a : ¬ Z 0 0 = Z 3 0 := (fun e => absurd (hR.inj (k1 := 0) (i1 := 0) (k2 := 3) (i2 := 0) rfl rfl e).1 (by decide))
  refine x_aload_n F dX6_adapter_0 rfl rfl ?_
  refine x_iload_n F dX6_adapter_1 rfl rfl ?_
  refine x_iload_n F dX6_adapter_2 rfl rfl ?_
  refine x_cVi2 (ci := 6) (C := RX6) (T := TX6) (N := 12) F dX6_adapter_3 (x_gV q177 q178 q449 q1 q179) rfl (c_versionAt hR (nI f) (nI x)) ⟨rfl, rfl, rfl, xd_X6_versionAt, ⟨Nat.le_of_ble_eq_true rfl, Nat.le_of_ble_eq_true rfl⟩, Nat.le_of_ble_eq_true rfl, Nat.le_of_ble_eq_true rfl⟩ rfl hR.main (Nat.le_of_ble_eq_true rfl) (fun v1 w1 hp => ?_)
  obtain ⟨rfl, hw9⟩ := hp
  replace hw9 := hw9.symm
  subst hw9
  rw [verAt_some hR hx hx6]
  refine x_astore F dX6_adapter_6 (by decide) ?_
  refine x_aload_n F dX6_adapter_8 rfl rfl ?_
  refine x_iload_n F dX6_adapter_9 rfl rfl ?_
  refine x_iload_n F dX6_adapter_10 rfl rfl ?_
  refine x_cVi2 (ci := 6) (C := RX6) (T := TX6) (N := 12) F dX6_adapter_11 (x_gV q177 q178 q449 q1 q179) rfl (c_versionAt hR (nI f) (nI y)) ⟨rfl, rfl, rfl, xd_X6_versionAt, ⟨Nat.le_of_ble_eq_true rfl, Nat.le_of_ble_eq_true rfl⟩, Nat.le_of_ble_eq_true rfl, Nat.le_of_ble_eq_true rfl⟩ rfl hR.main (Nat.le_of_ble_eq_true rfl) (fun v1 w1 hp => ?_)
  obtain ⟨rfl, hw9⟩ := hp
  replace hw9 := hw9.symm
  subst hw9
  rw [verAt_some hR hy hy6]
  refine x_astore F dX6_adapter_14 (by decide) ?_
  refine x_aload F dX6_adapter_16 rfl ?_
  refine x_ifnull F dX6_adapter_18 ?_
  refine x_aload F dX6_adapter_21 rfl ?_
  refine x_ifnonnull F dX6_adapter_23 rfl ?_
  refine x_aload F dX6_adapter_36 rfl ?_
  refine x_aload F dX6_adapter_38 rfl ?_
  refine x_acmp_eqR F dX6_adapter_40 rfl (fun hc => absurd hc (fun q => hxy (by have := (hR.veq hx hy).mp q; omega))) (fun h40 => ?_)
  refine x_iload F dX6_adapter_43 rfl ?_
  refine x_cSi1 F dX6_adapter_45 (x_gS q123 q124 q1 q125) (c_isFieldSet u) ⟨rfl, rfl, rfl, xd_X6_isFieldSet, ⟨Nat.le_of_ble_eq_true rfl, Nat.le_of_ble_eq_true rfl⟩, Nat.le_of_ble_eq_true rfl, Nat.le_of_ble_eq_true rfl⟩ (Nat.le_of_ble_eq_true rfl) (fun v1 w1 hp => ?_)
  obtain ⟨rfl, hw9⟩ := hp
  replace hw9 := hw9.symm
  subst hw9
  refine x_if_eq F dX6_adapter_48 rfl (fun hc => absurd hc (by rw [hu]; decide)) (fun h48 => ?_)
  refine x_iload F dX6_adapter_51 rfl ?_
  refine x_cSi1 F dX6_adapter_53 (x_gS q123 q124 q1 q125) (c_isFieldSet v) ⟨rfl, rfl, rfl, xd_X6_isFieldSet, ⟨Nat.le_of_ble_eq_true rfl, Nat.le_of_ble_eq_true rfl⟩, Nat.le_of_ble_eq_true rfl, Nat.le_of_ble_eq_true rfl⟩ (Nat.le_of_ble_eq_true rfl) (fun v1 w1 hp => ?_)
  obtain ⟨rfl, hw9⟩ := hp
  replace hw9 := hw9.symm
  subst hw9
  refine x_if_ne F dX6_adapter_56 rfl (fun h56 => ?_) (fun hc => absurd hc (by rw [hv]; decide))
  refine x_aload_n F dX6_adapter_69 rfl rfl ?_
  refine x_get (ci := 6) (C := RX6) (T := TX6) (N := 12) (k := 5) F dX6_adapter_70 rfl inX6 (by decide) q70 rfl h_m rfl ?_
  refine x_if_lt F dX6_adapter_73 rfl (fun hc => absurd hc (nI_pos (by omega))) (fun h73 => ?_)
  refine x_aload_n F dX6_adapter_76 rfl rfl ?_
  refine x_get (ci := 6) (C := RX6) (T := TX6) (N := 12) (k := 5) F dX6_adapter_77 rfl inX6 (by decide) q70 rfl h_m rfl ?_
  refine x_aload_n F dX6_adapter_80 rfl rfl ?_
  refine x_get (ci := 6) (C := RX6) (T := TX6) (N := 12) (k := 2) F dX6_adapter_81 rfl inX6 (by decide) q67 rfl h_m rfl ?_
  refine x_alen (v := 10) F dX6_adapter_84 rfl h_a rfl ?_
  refine x_icmp_lt F dX6_adapter_85 rfl (fun h85 => ?_) (fun hc => absurd hc (fun e => e (nI_lt (b := 10) hn (by decide))))
  refine x_aload_n F dX6_adapter_98 rfl rfl ?_
  refine x_get (ci := 6) (C := RX6) (T := TX6) (N := 12) (k := 2) F dX6_adapter_99 rfl inX6 (by decide) q67 rfl h_m rfl ?_
  refine x_aload_n F dX6_adapter_102 rfl rfl ?_
  refine x_get (ci := 6) (C := RX6) (T := TX6) (N := 12) (k := 5) F dX6_adapter_103 rfl inX6 (by decide) q70 rfl h_m rfl ?_
  refine x_new (ci := 0) (C := RX0) (T := TX0) (N := 4) (fs := [.null, .null, .int 0, .int 0]) F dX6_adapter_106 rfl inX0 tyX0 tyX0_ok q27 q283 q14 (fun j hj => by rcases (show j = 0 ∨ j = 1 ∨ j = 2 ∨ j = 3 by omega) with rfl | rfl | rfl | rfl <;> rfl) (Nat.le_of_ble_eq_true rfl) (Nat.le_of_ble_eq_true rfl) (fun r hr => ?_)
  refine x_wd (fun w1 hw1 => ?_)
  have ne_m_r : ¬ (Z 0 0) = r := fun e => by rw [e, hr] at h_m; cases h_m
  have ne_a_r : ¬ (Z 3 0) = r := fun e => by rw [e, hr] at h_a; cases h_a
  have fr_r : w r = none := by rw [← hf r (fun e => ne_m_r e.symm) (fun e => ne_a_r e.symm)]; exact hr
  have h_m : w1 (Z 0 0) = some (.inr (6, [.ref (Z 1 0), .ref (Z 2 0), .ref (Z 3 0), .int (nI (nf K)), .int (nI (nc K)), .int (nI (na K)), .int (kG K 0), .int (kG K 1), .int (kG K 2), .int (kG K 3), .ref (Z 4 0), .ref (Z 6 0)])) := by rw [hw1, x_set_ne _ _ ne_m_r]; exact h_m
  have h_a : w1 (Z 3 0) = some (aA 10 (fun j => if j < na K then some (Z 16 j) else none)) := by rw [hw1, x_set_ne _ _ ne_a_r]; exact h_a
  have h_r : w1 r = some (.inr (0, [.null, .null, .int 0, .int 0])) := by rw [hw1]; exact x_set_eq _ _ _
  have hf : ∀ b, ¬ b = (Z 0 0) → ¬ b = (Z 3 0) → ¬ b = r → w1 b = w b := fun b g0 g1 g2 => by rw [hw1]; exact (x_set_ne _ _ g2).trans (hf b g0 g1)
  refine x_dup F dX6_adapter_109 rfl ?_
  refine x_aload F dX6_adapter_110 rfl ?_
  refine x_aload F dX6_adapter_112 rfl ?_
  refine x_iload F dX6_adapter_114 rfl ?_
  refine x_iload F dX6_adapter_116 rfl ?_
  refine x_cI4 F dX6_adapter_118 (x_gI q286) q14 q284 q285 rfl (c_ada_init h_r (Z 10 (6 * f + x)) (Z 10 (6 * f + y)) u v) ⟨rfl, rfl, rfl, xd_X0_init, ⟨Nat.le_of_ble_eq_true rfl, Nat.le_of_ble_eq_true rfl⟩, Nat.le_of_ble_eq_true rfl, Nat.le_of_ble_eq_true rfl⟩ (Nat.le_of_ble_eq_true rfl) (fun w1 hp => ?_)
  obtain ⟨g_r, hf2⟩ := hp
  have h_m : w1 (Z 0 0) = some (.inr (6, [.ref (Z 1 0), .ref (Z 2 0), .ref (Z 3 0), .int (nI (nf K)), .int (nI (nc K)), .int (nI (na K)), .int (kG K 0), .int (kG K 1), .int (kG K 2), .int (kG K 3), .ref (Z 4 0), .ref (Z 6 0)])) := by rw [hf2 (Z 0 0) ne_m_r]; exact h_m
  have h_a : w1 (Z 3 0) = some (aA 10 (fun j => if j < na K then some (Z 16 j) else none)) := by rw [hf2 (Z 3 0) ne_a_r]; exact h_a
  have h_r : w1 r = some (.inr (0, [.ref (Z 10 (6 * f + x)), .ref (Z 10 (6 * f + y)), .int u, .int v])) := g_r
  have hf : ∀ b, ¬ b = (Z 0 0) → ¬ b = (Z 3 0) → ¬ b = r → w1 b = w b := fun b g0 g1 g2 => by rw [hf2 b g2]; exact hf b g0 g1 g2
  refine x_aastN F dX6_adapter_121 rfl rfl h_a h_r hn (by decide) ?_
  refine x_wd (fun w2 hw2 => ?_)
  have h_m : w2 (Z 0 0) = some (.inr (6, [.ref (Z 1 0), .ref (Z 2 0), .ref (Z 3 0), .int (nI (nf K)), .int (nI (nc K)), .int (nI (na K)), .int (kG K 0), .int (kG K 1), .int (kG K 2), .int (kG K 3), .ref (Z 4 0), .ref (Z 6 0)])) := by rw [hw2, x_set_ne _ _ ne_m_a]; exact h_m
  have h_a : w2 (Z 3 0) = some (aA 10 (va_up (fun j => if j < na K then some (Z 16 j) else none) (na K) (some r))) := by rw [hw2]; exact x_set_eq _ _ _
  have h_r : w2 r = some (.inr (0, [.ref (Z 10 (6 * f + x)), .ref (Z 10 (6 * f + y)), .int u, .int v])) := by rw [hw2, x_set_ne _ _ (fun e => ne_a_r e.symm)]; exact h_r
  have hf : ∀ b, ¬ b = (Z 0 0) → ¬ b = (Z 3 0) → ¬ b = r → w2 b = w b := fun b g0 g1 g2 => by rw [hw2]; exact (x_set_ne _ _ g1).trans (hf b g0 g1 g2)
  refine x_aload_n F dX6_adapter_122 rfl rfl ?_
  refine x_dup F dX6_adapter_123 rfl ?_
  refine x_get (ci := 6) (C := RX6) (T := TX6) (N := 12) (k := 5) F dX6_adapter_124 rfl inX6 (by decide) q70 rfl h_m rfl ?_
  refine x_dup_x1 F dX6_adapter_127 rfl rfl ?_
  refine x_iconst (v := 1) F dX6_adapter_128 (by decide) ?_
  refine x_iadd F dX6_adapter_129 ?_
  refine x_put (ci := 6) (C := RX6) (T := TX6) (N := 12) (k := 5) F dX6_adapter_130 rfl inX6 tyX6 tyX6_ok nmX6 (by decide) q70 rfl rfl h_m (Nat.le_of_ble_eq_true rfl) rfl rfl ?_
  refine x_wd (fun w3 hw3 => ?_)
  have h_m : w3 (Z 0 0) = some (.inr (6, [.ref (Z 1 0), .ref (Z 2 0), .ref (Z 3 0), .int (nI (nf K)), .int (nI (nc K)), .int (nI (na K) + 1), .int (kG K 0), .int (kG K 1), .int (kG K 2), .int (kG K 3), .ref (Z 4 0), .ref (Z 6 0)])) := by rw [hw3]; exact x_set_eq _ _ _
  have h_a : w3 (Z 3 0) = some (aA 10 (va_up (fun j => if j < na K then some (Z 16 j) else none) (na K) (some r))) := by rw [hw3, x_set_ne _ _ (fun e => ne_m_a e.symm)]; exact h_a
  have h_r : w3 r = some (.inr (0, [.ref (Z 10 (6 * f + x)), .ref (Z 10 (6 * f + y)), .int u, .int v])) := by rw [hw3, x_set_ne _ _ (fun e => ne_m_r e.symm)]; exact h_r
  have hf : ∀ b, ¬ b = (Z 0 0) → ¬ b = (Z 3 0) → ¬ b = r → w3 b = w b := fun b g0 g1 g2 => by rw [hw3]; exact (x_set_ne _ _ g0).trans (hf b g0 g1 g2)
  refine x_iret F rfl rfl dX6_adapter_133 (Nat.le_refl _) (Nat.le_refl _) ?_
  exact ⟨_, rfl, rfl, hR.addA hn hx hy fr_r h_m h_a h_r hf⟩
end NEW
