/-! ===== what isKind looks at ===== -/
section KND
variable {K : kT} {V C n : Nat}
/-- K1: the registry an hour after K; h: that hour -/
def KF (K K1 : kT) (V C n : Nat) (h : Int32) : Prop := kG K1 0 = h ∧ kN K1 = kN K ∧ kC K1 = kC K ∧ kCV K1 = kCV K ∧ Inv K1 V C (n + 1) ∧ (∀ k, k < C → f_ocin K1 k 0 = f_ocin K k 1)
  ∧ (∀ i, i < V → ¬ kV K i 2 = 1 → kV K1 i 2 = kV K i 2) ∧ (∀ i, i < V → kV K1 i 2 = 1 → h < kV K1 i 7) ∧ (∀ i, i < V → kV K i 2 = 1 → ¬ kV K1 i 2 = 1 → q_goes K h i = true ∧ kV K i 7 = h) ∧ (∀ i, i < V → q_goes K h i = true → kV K i 2 = 1 ∧ ¬ kV K1 i 2 = 1)
  ∧ ∀ i k o, i < V → k < C → o < 5 → q_goes K h i = true → kC K k 0 = nI o → ¬ f_since K1 k i < 0 → ¬ 24 ≤ f_since K1 k i → kCV K1 k = i → f_ocin K1 k 0 = 4 → ¬ f_askst K (nI o) i = 0
theorem kind_facts (hI : Inv K V C n) (hn : n ≤ 800) : ∃ h, KF K (f_hour K).1 V C n h ∧ (f_hour K).2 = f_cnt (q_goes K h) V := by
  have hI1 := hI.hour (by omega)
  obtain ⟨t, a, b, c, h0, h1, h2, h3, h4, h5, h6, h7⟩ := hI
  have HS := hour_spec K (h := nI (t + 1)) (by rw [h0, nI_1])
  have hoc := fun k hk => hour_ocin h7 (by omega) h0 (k := k) hk
  have hIV := h7.hour (by omega) h0
  have has := fun i k o (hi : i < V) (hk : k < C) (ho : o < 5) (hq : q_goes K (nI (t + 1)) i = true) (hko : kC K k 0 = nI o) => hour_asked h7 (by omega) h0 hk hi hq ho hko
  refine ⟨nI (t + 1), ?_, ?_⟩
  · obtain ⟨L, g1, g2, g3, g4, g5, -⟩ := HS
    generalize (f_hour K).1 = K1 at L g1 g2 g3 g4 g5 hoc hIV has hI1 ⊢
    have hV := h7.2.2.2.1
    refine ⟨g1, L.1, L.2.2.1, L.2.2.2.2.1, hI1, hoc, fun i hi s => ?_, fun i hi s => ?_, fun i hi s s1 => ?_, fun i hi q => ?_, fun i k o hi hk ho hq hko => has i k o hi hk ho hq hko⟩
    · rw [g4 i (by omega), if_neg]
      intro q
      unfold q_goes at q
      simp only [Bool.and_eq_true, decide_eq_true_eq] at q
      exact s q.1.2.1
    · obtain ⟨e, e1, e2, e3⟩ := (hIV.2.2.2.2.2.2 i hi).2.1 s
      rw [e3]
      exact nI_lt e1 (by omega)
    · have q : q_goes K (nI (t + 1)) i = true := by
        cases q : q_goes K (nI (t + 1)) i
        · rw [g4 i (by omega), q, if_neg (by decide)] at s1
          exact absurd s s1
        · rfl
      refine ⟨q, ?_⟩
      unfold q_goes at q
      simp only [Bool.and_eq_true, decide_eq_true_eq] at q
      exact q.1.2.2
    · rw [g4 i (by omega), if_pos q]
      unfold q_goes at q
      simp only [Bool.and_eq_true, decide_eq_true_eq] at q
      exact ⟨q.1.2.1, by decide⟩
  · rw [HS.2.2.2.2.2.2]
    exact goes_count h7 _
/-- a cell that is none of the registry's -/
def NL (Z : Nat → Nat → Nat) (K : kT) (a : Nat) : Prop := ∀ kd ix, live K kd ix → ¬ a = Z kd ix
theorem NL.of {Z : Nat → Nat → Nat} {J : jT} {w : xW} (hR : Rep Z K J w) {a : Nat} (h : w a = none) : NL Z K a := fun kd ix hl e => by
  have g := hR.1 kd ix hl
  rw [← e, h] at g
  cases g
theorem NL.same {Z : Nat → Nat → Nat} {K1 : kT} {a : Nat} (h : NL Z K a) (hN : kN K1 = kN K) : NL Z K1 a := fun kd ix hl => by
  refine h kd ix ?_
  revert hl
  unfold live vOk
  split <;> first | exact id | (simp only [nf, nc, na, nv, hN]; exact id)
theorem Oth.at {Z : Nat → Nat → Nat} {u w : xW} (h : Oth Z K u w) {a : Nat} (ha : NL Z K a) {x : xE} (hx : u a = some x) : w a = some x := (h a ha).trans hx
/-- a cell beside the registry is written -/
theorem Oth.side {Z : Nat → Nat → Nat} {u w : xW} (h : Oth Z K u w) (a : Nat) (x : xE) : Oth Z K (x_set u a x) (x_set w a x) := fun b hb => by
  by_cases e : b = a
  · subst e; rw [x_set_eq, x_set_eq]
  · rw [x_set_ne _ _ e, x_set_ne _ _ e]; exact h b hb
theorem Rep.side {Z : Nat → Nat → Nat} {J : jT} {w : xW} (h : Rep Z K J w) {a : Nat} (ha : NL Z K a) (x : xE) : Rep Z K J (x_set w a x) :=
  ⟨fun kd ix hl => by rw [x_set_ne _ _ (fun e => ha kd ix hl e.symm)]; exact h.1 kd ix hl, h.2⟩
theorem Rep.fresh {Z : Nat → Nat → Nat} {J : jT} {w : xW} (h : Rep Z K J w) {a : Nat} (ha : w a = none) (x : xE) : Rep Z K J (x_set w a x) := h.side (NL.of h ha) x
theorem Rep.rows {Z : Nat → Nat → Nat} {J : jT} {w : xW} (h : Rep Z K J w) {q N k t t0 : Nat} (hq : ∀ b, q ≤ b → w b = none) : Rep Z K J (x_rows w q N k t t0) :=
  h.far (fun b x hb => by
    have hlt : b < q := by
      by_cases g : q ≤ b
      · rw [hq b g] at hb; cases hb
      · omega
    unfold x_rows
    rw [if_neg (by omega), if_neg (by omega)]
    exact hb)
/-- the law's own arrays: what the versions were, who was asked, when they end -/
def SK (w u : xW) (V a q en : Nat) (fs fe : Nat → Int32) (fr : Nat → Nat → Int32) : Prop := u a = some (aI V fs) ∧ u en = some (aI V fe) ∧ u q = some (.inl (5, V, .inr (.inr (.inr (.inr (fun i => if i < V then some (q + 1 + i) else none)))))) ∧ (∀ i, i < V → u (q + 1 + i) = some (aI 5 (fr i))) ∧ ∀ b x, w b = some x → u b = some x
/-- their addresses: apart, and none of the registry's -/
def SA (Z : Nat → Nat → Nat) (K : kT) (w : xW) (V a q en : Nat) : Prop := a < q ∧ ¬ en = a ∧ (en < q ∨ q + V < en) ∧ w a = none ∧ w en = none ∧ (∀ b, q ≤ b → w b = none) ∧ NL Z K a ∧ NL Z K en ∧ NL Z K q ∧ ∀ i, i < V → NL Z K (q + 1 + i)
theorem SK.setS {Z : Nat → Nat → Nat} {w u : xW} {a q en : Nat} {fs fe : Nat → Int32} {fr : Nat → Nat → Int32} (h : SK w u V a q en fs fe fr) (A : SA Z K w V a q en) (f : Nat → Int32) : SK w (x_set u a (aI V f)) V a q en f fe fr := by
  obtain ⟨h1, h2, h3, h4, h5⟩ := h
  obtain ⟨A1, A2, A3, A4, A5, A6, -⟩ := A
  refine ⟨x_set_eq _ _ _, by rw [x_set_ne _ _ A2]; exact h2, by rw [x_set_ne _ _ (by omega)]; exact h3, fun i hi => by rw [x_set_ne _ _ (by omega)]; exact h4 i hi, fun b x hb => ?_⟩
  rw [x_set_ne _ _ (fun e => by rw [e, A4] at hb; cases hb)]
  exact h5 b x hb
theorem SK.setE {Z : Nat → Nat → Nat} {w u : xW} {a q en : Nat} {fs fe : Nat → Int32} {fr : Nat → Nat → Int32} (h : SK w u V a q en fs fe fr) (A : SA Z K w V a q en) (f : Nat → Int32) : SK w (x_set u en (aI V f)) V a q en fs f fr := by
  obtain ⟨h1, h2, h3, h4, h5⟩ := h
  obtain ⟨A1, A2, A3, A4, A5, A6, -⟩ := A
  refine ⟨by rw [x_set_ne _ _ (fun e => A2 e.symm)]; exact h1, x_set_eq _ _ _, by rw [x_set_ne _ _ (by omega)]; exact h3, fun i hi => by rw [x_set_ne _ _ (by omega)]; exact h4 i hi, fun b x hb => ?_⟩
  rw [x_set_ne _ _ (fun e => by rw [e, A5] at hb; cases hb)]
  exact h5 b x hb
theorem SK.setR {Z : Nat → Nat → Nat} {w u : xW} {a q en : Nat} {fs fe : Nat → Int32} {fr : Nat → Nat → Int32} (h : SK w u V a q en fs fe fr) (A : SA Z K w V a q en) {j : Nat} (hj : j < V) (f : Nat → Int32) : SK w (x_set u (q + 1 + j) (aI 5 f)) V a q en fs fe (fun i => if i = j then f else fr i) := by
  obtain ⟨h1, h2, h3, h4, h5⟩ := h
  obtain ⟨A1, A2, A3, A4, A5, A6, -⟩ := A
  refine ⟨by rw [x_set_ne _ _ (by omega)]; exact h1, by rw [x_set_ne _ _ (by omega)]; exact h2, by rw [x_set_ne _ _ (by omega)]; exact h3, fun i hi => ?_, fun b x hb => ?_⟩
  · show _ = some (aI 5 (if i = j then f else fr i))
    by_cases e : i = j
    · subst e; rw [x_set_eq, if_pos rfl]
    · rw [x_set_ne _ _ (by omega), if_neg e]; exact h4 i hi
  · rw [x_set_ne _ _ (fun e => by rw [e, A6 _ (by omega)] at hb; cases hb)]
    exact h5 b x hb
end KND
