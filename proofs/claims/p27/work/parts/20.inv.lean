/-! ===== what stays true from call to call ===== -/
section INV
variable {K K1 : kT} {V C t n : Nat}
def IV (K : kT) (V C t : Nat) : Prop := nf K = 1 ∧ nv K 0 = V ∧ nc K = C ∧ V ≤ 6 ∧ C ≤ 10 ∧ (∀ k, k < C → kCV K k < V ∧ ∃ o, o < 5 ∧ kC K k 0 = nI o) ∧ ∀ i, i < V → (kV K i 2 = 0 ∨ kV K i 2 = 1 ∨ kV K i 2 = 2) ∧ (kV K i 2 = 1 → ∃ e, t < e ∧ e ≤ t + 96 ∧ kV K i 7 = nI e) ∧ ∀ o, o < 5 → f_answ (kV K i 8) (nI o) = true → ¬ kVA K i o = -1
def Inv (K : kT) (V C n : Nat) : Prop := ∃ t a b c, kG K 0 = nI t ∧ t ≤ n ∧ kG K 1 = nI a ∧ kG K 2 = nI b ∧ kG K 3 = nI c ∧ a ≤ n ∧ b + c ≤ a ∧ IV K V C t
theorem nI_m1 {a : Nat} (h : a < 2 ^ 31) : ¬ nI a = -1 := fun e => by
  have g := nI_pos h
  rw [e] at g
  exact g (by decide)
theorem IV.bok (h : IV K V C t) {i : Nat} (hi : i < V) : b_ok K i = true := by
  obtain ⟨h1, h2, -, h4, -⟩ := h
  unfold b_ok
  rw [show i / 6 = 0 by omega, show i % 6 = i by omega, h1, h2, decide_eq_true hi]
  rfl
theorem IV.bokN (h : IV K V C t) {i : Nat} (hi : ¬ i < V) : b_ok K i = false := by
  obtain ⟨h1, h2, -, h4, -⟩ := h
  unfold b_ok
  rw [h1]
  by_cases g : i / 6 < 1
  · have e : i / 6 = 0 := by omega
    rw [e, h2, decide_eq_false (show ¬ i % 6 < V by omega), Bool.and_false]
  · rw [decide_eq_false g]; rfl
theorem IV.vok (h : IV K V C t) {i : Nat} (hi : i < V) : vOk K i := b_ok_iff.mp (h.bok hi)
theorem IV.vok0 (h : IV K V C t) {i : Nat} (hi : i < V) : vOk K (6 * 0 + i) := by
  rw [show 6 * 0 + i = i by omega]
  exact h.vok hi
theorem till_spec (ht : kG K 0 = nI t) (i : Nat) (g : Bool) (n : Nat) : ∀ e, t ≤ e → e + 24 * n < 2 ^ 30 → f_till K i g n (nI e) = -1 ∨ ∃ d, f_till K i g n (nI e) = nI d ∧ d < 2 ^ 30 ∧ e ≤ d + t ∧ (¬ f_cnt (p_hin K i (nI e) g) 10 = 0 → e + 24 ≤ d + t) := by
  induction n with
  | zero => intro e h1 h2; exact Or.inl rfl
  | succ n ih =>
    intro e h1 h2
    unfold f_till
    by_cases z : f_cnt (p_hin K i (nI e) g) 10 = 0
    · rw [if_pos z, ht, pk_sub h1]
      exact Or.inr ⟨e - t, rfl, by omega, by omega, fun q => absurd z q⟩
    · rw [if_neg z, show nI e + 24 = nI (e + 24) from nI_add e 24]
      rcases ih (e + 24) (by omega) (by omega) with q | ⟨d, q1, q2, q3, -⟩
      · exact Or.inl q
      · exact Or.inr ⟨d, q1, q2, by omega, fun _ => q3⟩
theorem till_now (ht : kG K 0 = nI t) {i : Nat} {g : Bool} {n e : Nat} (he : t ≤ e) (z : f_cnt (p_hin K i (nI e) g) 10 = 0) : f_till K i g (n + 1) (nI e) = nI (e - t) := by
  unfold f_till
  rw [if_pos z, ht, pk_sub he]
theorem stin0 (h : IV K V C t) (hn : t ≤ 1000) (ht : kG K 0 = nI t) {k : Nat} (hk : k < C) : f_stin K k 0 = kV K (kCV K k) 2 := by
  unfold f_stin
  refine if_neg (fun q => ?_)
  obtain ⟨e, e1, e2, e3⟩ := (h.2.2.2.2.2.2 _ (h.2.2.2.2.2.1 k hk).1).2.1 q.1
  rw [e3] at q
  rcases till_spec ht (kCV K k) false 100 e (by omega) (by omega) with g | ⟨d, g1, g2, g3, -⟩
  · exact q.2.1 g
  · have q2 := q.2.2
    rw [g1, show (0 : Int32) = nI 0 from rfl, nI_leI (by omega) (by omega)] at q2
    omega
theorem stin1 (h : IV K V C t) (hn : t ≤ 1000) (ht : kG K 0 = nI t) {k : Nat} (hk : k < C) : f_stin K k 1 = if q_goes K (nI (t + 1)) (kCV K k) = true then 2 else kV K (kCV K k) 2 := by
  have hv := (h.2.2.2.2.2.1 k hk).1
  unfold f_stin
  by_cases s : kV K (kCV K k) 2 = 1
  · obtain ⟨e, e1, e2, e3⟩ := (h.2.2.2.2.2.2 _ hv).2.1 s
    by_cases g : q_goes K (nI (t + 1)) (kCV K k) = true
    · rw [if_pos g]
      refine if_pos ⟨s, ?_⟩
      unfold q_goes at g
      rw [h.bok hv, e3] at g
      simp only [Bool.and_eq_true, decide_eq_true_eq, Bool.true_and] at g
      obtain ⟨⟨-, g2⟩, g3⟩ := g
      rw [← g2] at g3
      rw [e3, till_now ht (by omega) g3]
      have g4 := (nI_eq (by omega) (by omega)).mp g2
      rw [show e - t = 1 by omega]
      exact ⟨by decide, by decide⟩
    · rw [if_neg g]
      refine if_neg (fun q => g ?_)
      obtain ⟨-, q1, q2⟩ := q
      rw [e3] at q1 q2
      rcases till_spec ht (kCV K k) false 100 e (by omega) (by omega) with r | ⟨d, g1, g2, g3, g4⟩
      · exact absurd r q1
      · rw [g1, show (1 : Int32) = nI 1 from rfl, nI_leI (by omega) (by omega)] at q2
        have e4 : e = t + 1 := by omega
        subst e4
        unfold q_goes
        rw [h.bok hv, e3, s]
        have z : f_cnt (p_hin K (kCV K k) (nI (t + 1)) false) 10 = 0 := by
          by_cases z : f_cnt (p_hin K (kCV K k) (nI (t + 1)) false) 10 = 0
          · exact z
          · have := g4 z; omega
        rw [decide_eq_true z, decide_eq_true (rfl : nI (t + 1) = nI (t + 1))]
        rfl
  · rw [if_neg (fun q => s q.1), if_neg (fun q => ?_)]
    unfold q_goes at q
    simp only [Bool.and_eq_true, decide_eq_true_eq] at q
    exact s q.1.2.1
theorem outc_lat (h : Lat K K1) (k : Nat) (s x b : Int32) : f_outc K1 k s x b = f_outc K k s x b := by
  unfold f_outc
  rw [h.best, h.2.2.2.2.1, h.2.2.2.2.2.2.2.2.1 _ 6 (by decide) (by decide) (by decide)]
theorem outc_cases (K : kT) (k : Nat) (s x b : Int32) : f_outc K k s x b = 0 ∨ f_outc K k s x b = 1 ∨ f_outc K k s x b = 2 ∨ f_outc K k s x b = 3 ∨ f_outc K k s x b = 4 := by
  unfold f_outc
  split
  · simp
  · split
    · split <;> simp
    · split
      · simp
      · split <;> simp
/-- an hour -/
theorem IV.hour (h : IV K V C t) (hn : t ≤ 1000) (ht : kG K 0 = nI t) : IV (f_hour K).1 V C (t + 1) := by
  obtain ⟨L, g1, g2, g3, g4, g5, g6⟩ := hour_spec K (h := nI (t + 1)) (by rw [ht, nI_1])
  obtain ⟨a1, a2, a3, a4, a5, a6, a7⟩ := h
  refine ⟨by show kN _ 0 = 1; rw [L.1]; exact a1, by show kN _ (3 + 0) = V; rw [L.1]; exact a2, by show kN _ 1 = C; rw [L.1]; exact a3, a4, a5, fun k hk => by rw [L.2.2.2.2.1, L.2.2.1]; exact a6 k hk, fun i hi => ?_⟩
  obtain ⟨b1, b2, b3⟩ := a7 i hi
  refine ⟨?_, fun s => ?_, fun o ho => by rw [L.2.1, L.2.2.2.2.2.2.2.2.1 i 8 (by decide) (by decide) (by decide)]; exact b3 o ho⟩
  · rw [g4 i (by omega)]
    by_cases q : q_goes K (nI (t + 1)) i = true
    · rw [if_pos q]; exact Or.inr (Or.inr rfl)
    · rw [if_neg q]; exact b1
  · rw [g4 i (by omega)] at s
    by_cases q : q_goes K (nI (t + 1)) i = true
    · rw [if_pos q] at s; exact absurd s (by decide)
    · rw [if_neg q] at s
      obtain ⟨e, e1, e2, e3⟩ := b2 s
      rw [g5 i (by omega)]
      by_cases r : q_off K (nI (t + 1)) i = true
      · rw [if_pos r, e3, show nI e + 24 = nI (e + 24) from nI_add e 24]
        unfold q_off at r
        simp only [Bool.and_eq_true, decide_eq_true_eq] at r
        have e4 := r.1.2.2
        rw [e3, nI_eq (by omega) (by omega)] at e4
        exact ⟨e + 24, by omega, by omega, rfl⟩
      · rw [if_neg r, e3]
        refine ⟨e, ?_, by omega, rfl⟩
        by_cases e5 : e = t + 1
        · exfalso
          subst e5
          unfold q_goes at q
          unfold q_off at r
          have hb : b_ok K i = true := IV.bok (t := t) ⟨a1, a2, a3, a4, a5, a6, a7⟩ hi
          rw [hb, s, e3, decide_eq_true (rfl : nI (t + 1) = nI (t + 1))] at q r
          cases z : decide (f_cnt (p_hin K i (nI (t + 1)) false) 10 = 0)
          · rw [z] at r; exact r rfl
          · rw [z] at q; exact q rfl
        · omega
/-- what would come in an hour comes then -/
theorem hour_ocin (h : IV K V C t) (hn : t ≤ 900) (ht : kG K 0 = nI t) {k : Nat} (hk : k < C) : f_ocin (f_hour K).1 k 0 = f_ocin K k 1 := by
  have HS := hour_spec K (h := nI (t + 1)) (by rw [ht, nI_1])
  have h1 := h.hour (by omega) ht
  obtain ⟨L, g1, g2, g3, g4, g5, -⟩ := HS
  generalize (f_hour K).1 = K1 at L g1 g2 g3 g4 g5 h1 ⊢
  have hv := (h.2.2.2.2.2.1 k hk).1
  have e0 : kG K1 0 + 0 = kG K 0 + 1 := by rw [g1, ht, nI_1, show (0 : Int32) = nI 0 from rfl, nI_add]
  unfold f_ocin
  rw [if_pos rfl, if_neg (by decide), outc_lat L, stin0 h1 (by omega) g1 hk, stin1 h (by omega) ht hk, L.2.2.2.2.1, g4 _ (by have := h.2.2.2.1; omega), e0]
  congr 1
  unfold f_served
  rw [L.2.2.2.2.1, if_pos rfl]
  exact g3 k _ (Nat.mod_lt _ (by decide)) (by have := h.2.2.2.2.1; omega) (by rw [h.2.2.1]; exact hk)
/-- whom the end of a version hurts: its owner was asked -/
theorem cnt_zero {p : Nat → Bool} {n : Nat} (h : f_cnt p n = 0) {k : Nat} (hk : k < n) : p k = false := by
  induction n with
  | zero => omega
  | succ n ih =>
    unfold f_cnt at h
    by_cases e : k = n
    · subst e
      cases q : p k
      · rfl
      · rw [q] at h; simp at h
    · exact ih (by omega) (by omega)
theorem hour_asked (h : IV K V C t) (hn : t ≤ 900) (ht : kG K 0 = nI t) {k i o : Nat} (hk : k < C) (hi : i < V) (hq : q_goes K (nI (t + 1)) i = true) (ho : o < 5) (hko : kC K k 0 = nI o)
    (h1 : ¬ f_since (f_hour K).1 k i < 0) (h2 : ¬ 24 ≤ f_since (f_hour K).1 k i) (h3 : kCV (f_hour K).1 k = i) (h4 : f_ocin (f_hour K).1 k 0 = 4) : ¬ f_askst K (nI o) i = 0 := by
  obtain ⟨L, g1, g2, g3, g4, g5, g6⟩ := hour_spec K (h := nI (t + 1)) (by rw [ht, nI_1])
  have hz : f_cnt (p_hin K i (nI (t + 1)) false) 10 = 0 := by
    unfold q_goes at hq
    simp only [Bool.and_eq_true, decide_eq_true_eq] at hq
    exact hq.2
  have hs : kV K i 2 = 1 := by
    unfold q_goes at hq
    simp only [Bool.and_eq_true, decide_eq_true_eq] at hq
    exact hq.1.2.1
  have hp := cnt_zero hz (k := k) (by have := h.2.2.2.2.1; omega)
  unfold f_since at h1 h2
  rw [g1, L.called] at h1 h2
  have hc : ¬ f_called K k i = -1 := fun e => by rw [if_pos e] at h1; exact h1 (by decide)
  rw [if_neg hc] at h2
  have hcal : f_caller K k i (nI (t + 1)) = true := by
    unfold f_caller
    rw [decide_eq_false hc, decide_eq_false h2]
    rfl
  have hcv : kCV K k = i := by rw [← L.2.2.2.2.1]; exact h3
  have hnb : (f_best K k i (some i)).isSome = false := by
    cases q : (f_best K k i (some i)).isSome
    · rfl
    · exfalso
      have h5 := hour_ocin h hn ht hk
      rw [h4] at h5
      unfold f_ocin at h5
      rw [stin1 h (by omega) ht hk, hcv, if_pos hq] at h5
      unfold f_outc at h5
      rw [if_neg (by decide), if_pos rfl, hcv, q, if_pos rfl] at h5
      exact absurd h5 (by decide)
  unfold p_hin f_then at hp
  have hkn : k < nc K := by rw [h.2.2.1]; exact hk
  rw [decide_eq_true hkn, hcal, hnb, hko] at hp
  have hw : f_warned (kVA K i) (kV K i 8) (nI o) (nI (t + 1)) = true := by
    cases q : f_warned (kVA K i) (kV K i 8) (nI o) (nI (t + 1))
    · rw [q] at hp; simp at hp
    · rfl
  have hask : ¬ kVA K i o = -1 := by
    unfold f_warned at hw
    rw [asked_nI ho] at hw
    cases q : f_answ (kV K i 8) (nI o)
    · rw [q] at hw
      intro e
      rw [decide_eq_true e] at hw
      exact absurd hw (by simp)
    · exact (h.2.2.2.2.2.2 i hi).2.2 o ho q
  unfold f_askst
  rw [asked_nI ho, if_neg (fun q => q.elim (fun r => r hs) hask)]
  split
  · decide
  · split <;> decide
end INV
