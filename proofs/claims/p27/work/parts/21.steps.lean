/-! ===== each call keeps it ===== -/
section STP
variable {K K1 : kT} {V C t n : Nat}
/-- what the versions have and need -/
def KH (K : kT) (V : Nat) (H N : Nat → Int32) : Prop := ∀ i, i < V → kV K i 0 = H i ∧ kV K i 1 = N i
theorem KH.lat {H N : Nat → Int32} (h : KH K V H N) (L : Lat K K1) : KH K1 V H N := fun i hi => by
  rw [L.2.2.2.2.2.2.2.2.1 i 0 (by decide) (by decide) (by decide), L.2.2.2.2.2.2.2.2.1 i 1 (by decide) (by decide) (by decide)]
  exact h i hi
theorem rt_VA (i : Nat) (r : Nat → Int32) (sh : Option Nat) (n : Nat) : ∀ vi u, f_rt (kPutVA K i r) sh n vi u = f_rt K sh n vi u := by
  induction n with
  | zero => intro vi u; rfl
  | succ n ih =>
    intro vi u
    unfold f_rt
    refine congrArg (fun g => f_from g 10 0) (funext fun k => ?_)
    simp only [ih]
    rfl
theorem outc_VA (i : Nat) (r : Nat → Int32) (k : Nat) (s x b : Int32) : f_outc (kPutVA K i r) k s x b = f_outc K k s x b := by
  unfold f_outc f_best
  rw [rt_VA, rt_VA, rt_VA]
  rfl
theorem svo_eq (h : IV K V C t) (hn : t ≤ 1000) (ht : kG K 0 = nI t) {k : Nat} (hk : k < C) : f_ocin K k 0 = f_svo K k := by
  unfold f_ocin f_svo f_sv1
  rw [if_pos rfl, stin0 h hn ht hk, outc_VA, Int32.add_zero]
theorem svo_lt (K : kT) (k : Nat) : f_svo K k < 2 ↔ f_svb K k = true := by
  unfold f_svb
  rcases outc_cases (f_sv1 K k) k (kV K (kCV K k) 2) (kG K 0) (f_served K k (kCV K k)) with e | e | e | e | e <;> (rw [show f_svo K k = _ from e]; decide)
theorem serve_G (K : kT) (k b : Nat) : kG (f_serve K k) b = if b = 3 then kG K 3 + x_b (decide (f_svo K k = 1)) else if b = 2 then kG K 2 + x_b (!f_svb K k) else if b = 1 then kG K 1 + 1 else kG K b := rfl
theorem serve_V (K : kT) (k a b : Nat) (h4 : ¬ b = 4) (h5 : ¬ b = 5) : kV (f_serve K k) a b = kV K a b := by
  show (if b = 5 ∧ a = kCV K k then _ else if b = 4 ∧ a = kCV K k then _ else kV K a b) = _
  rw [if_neg (fun q => h5 q.1), if_neg (fun q => h4 q.1)]
theorem serve_VA (K : kT) (k a : Nat) : kVA (f_serve K k) a = if a = kCV K k then f_row0 K k else kVA K a := rfl
theorem serve_C (K : kT) (k a b : Nat) : kC (f_serve K k) a b = if b = 3 ∧ a = k then kC K k 3 + x_b (!f_svb K k) else if b = 2 ∧ a = k then kC K k 2 + 1 else kC K a b := rfl
theorem serve_C0 (K : kT) (k a : Nat) : kC (f_serve K k) a 0 = kC K a 0 := by
  rw [serve_C, if_neg (fun q => absurd q.1 (by decide)), if_neg (fun q => absurd q.1 (by decide))]
theorem serve_CV (K : kT) (k : Nat) : kCV (f_serve K k) = kCV K := rfl
theorem serve_CL (K : kT) (k a : Nat) : kCL (f_serve K k) a = if a = k then upd (kCL K k) (kCV K k % 6) (kG K 0) else kCL K a := rfl
theorem askrow_m1 {r : Nat → Int32} {o : Nat} (ho : o < 5) {h : Int32} (hh : ¬ h = -1) {j : Nat} (e : f_askrow r (nI o) h j = -1) : r j = -1 := by
  unfold f_askrow at e
  rw [askok_nI ho] at e
  by_cases q : r o = -1
  · rw [decide_eq_true q, if_pos rfl, nI_clamp (by omega)] at e
    by_cases g : j = o
    · rw [g]; exact q
    · rw [pk_un g] at e; exact e
  · rw [decide_eq_false q, if_neg (by decide)] at e
    exact e
theorem IV.serve (h : IV K V C t) (hn : t ≤ 1000) (ht : kG K 0 = nI t) {k : Nat} (hk : k < C) : IV (f_serve K k) V C t := by
  obtain ⟨a1, a2, a3, a4, a5, a6, a7⟩ := h
  refine ⟨a1, a2, a3, a4, a5, fun a ha => ?_, fun i hi => ?_⟩
  · rw [serve_CV, serve_C0]
    exact a6 a ha
  · rw [serve_V K k i 2 (by decide) (by decide), serve_V K k i 7 (by decide) (by decide), serve_V K k i 8 (by decide) (by decide), serve_VA]
    refine ⟨(a7 i hi).1, (a7 i hi).2.1, fun o ho g e => (a7 i hi).2.2 o ho g ?_⟩
    by_cases q : i = kCV K k
    · rw [if_pos q] at e
      unfold f_row0 at e
      rw [q]
      split at e
      · obtain ⟨o2, ho2, e2⟩ := (a6 k hk).2
        rw [e2, ht] at e
        exact askrow_m1 ho2 (nI_m1 (by omega)) e
      · exact e
    · rw [if_neg q] at e
      exact e
theorem KH.serve {H N : Nat → Int32} (h : KH K V H N) (k : Nat) : KH (f_serve K k) V H N := fun i hi => by
  rw [serve_V K k i 0 (by decide) (by decide), serve_V K k i 1 (by decide) (by decide)]
  exact h i hi
theorem Inv.serve (h : Inv K V C n) (hn : n ≤ 900) {k : Nat} (hk : k < C) : Inv (f_serve K k) V C (n + 1) := by
  obtain ⟨t, a, b, c, h0, h1, h2, h3, h4, h5, h6, h7⟩ := h
  have hb : (f_svo K k = 1 → f_svb K k = true) := fun e => by unfold f_svb; rw [e]; rfl
  have hI := h7.serve (by omega) h0 hk
  cases q : f_svb K k
  · have e1 : ¬ f_svo K k = 1 := fun e => by rw [hb e] at q; cases q
    refine ⟨t, a + 1, b + 1, c, h0, by omega, ?_, ?_, ?_, by omega, by omega, hI⟩
    · rw [serve_G, if_neg (by decide), if_neg (by decide), if_pos rfl, h2, nI_1]
    · rw [serve_G, if_neg (by decide), if_pos rfl, h3, q]
      exact nI_1 b
    · rw [serve_G, if_pos rfl, decide_eq_false e1, h4]
      exact Int32.add_zero _
  · by_cases e1 : f_svo K k = 1
    · refine ⟨t, a + 1, b, c + 1, h0, by omega, ?_, ?_, ?_, by omega, by omega, hI⟩
      · rw [serve_G, if_neg (by decide), if_neg (by decide), if_pos rfl, h2, nI_1]
      · rw [serve_G, if_neg (by decide), if_pos rfl, h3, q]
        exact Int32.add_zero _
      · rw [serve_G, if_pos rfl, decide_eq_true e1, h4]
        exact nI_1 c
    · refine ⟨t, a + 1, b, c, h0, by omega, ?_, ?_, ?_, by omega, by omega, hI⟩
      · rw [serve_G, if_neg (by decide), if_neg (by decide), if_pos rfl, h2, nI_1]
      · rw [serve_G, if_neg (by decide), if_pos rfl, h3, q]
        exact Int32.add_zero _
      · rw [serve_G, if_pos rfl, decide_eq_false e1, h4]
        exact Int32.add_zero _
/-- served is what is called less what is refused -/
theorem serve_diff (h : Inv K V C n) (hn : n ≤ 900) {k : Nat} (hk : k < C) : kG (f_serve K k) 1 - kG (f_serve K k) 2 = (kG K 1 - kG K 2) + x_b (f_svb K k) := by
  obtain ⟨t, a, b, c, h0, h1, h2, h3, h4, h5, h6, h7⟩ := h
  rw [serve_G, serve_G, if_neg (by decide), if_neg (by decide), if_pos rfl, if_neg (by decide), if_pos rfl, h2, h3, nI_1]
  cases q : f_svb K k
  · show nI (a + 1) - (nI b + 1) = nI a - nI b + 0
    rw [nI_1, pk_sub (by omega), pk_sub (by omega), Int32.add_zero, show a + 1 - (b + 1) = a - b by omega]
  · show nI (a + 1) - (nI b + 0) = nI a - nI b + 1
    rw [Int32.add_zero, pk_sub (by omega), pk_sub (by omega), nI_1, show a + 1 - b = a - b + 1 by omega]
theorem serve_since (h : Inv K V C n) (hn : n ≤ 900) {k : Nat} (hk : k < C) : f_since (f_serve K k) k (kCV K k) = 0 := by
  obtain ⟨t, a, b, c, h0, h1, h2, h3, h4, h5, h6, h7⟩ := h
  unfold f_since f_called
  rw [serve_CV, if_pos rfl, serve_CL, if_pos rfl, pk_us, h0, if_neg (nI_m1 (by omega)), serve_G, if_neg (by decide), if_neg (by decide), if_neg (by decide), h0, pk_sub (Nat.le_refl _), Nat.sub_self]
  rfl
/-- a retirement begins -/
theorem ret_V (K : kT) (i : Nat) (d : Int32) (a b : Nat) : kV (f_retK (kPutV K i 2 1) i d) a b = if b = 7 ∧ a = i then kG K 0 + d * 24 else if b = 6 ∧ a = i then kG K 0 else if b = 8 ∧ a = i then 0 else if b = 7 ∧ a = i then -1 else if b = 6 ∧ a = i then -1 else if b = 2 ∧ a = i then 1 else kV K a b := rfl
theorem IV.retire (h : IV K V C t) (hn : t ≤ 1000) (ht : kG K 0 = nI t) {i d : Nat} (hi : i < V) (hd : 1 ≤ d) (hd4 : d ≤ 4) : IV (f_retK (kPutV K i 2 1) i (nI d)) V C t := by
  obtain ⟨a1, a2, a3, a4, a5, a6, a7⟩ := h
  refine ⟨a1, a2, a3, a4, a5, a6, fun j hj => ?_⟩
  by_cases e : j = i
  · subst e
    rw [ret_V, ret_V, ret_V, if_neg (by simp), if_neg (by simp), if_neg (by simp), if_neg (by simp), if_neg (by simp), if_pos ⟨rfl, rfl⟩, if_pos ⟨rfl, rfl⟩, if_neg (by simp), if_neg (by simp), if_pos ⟨rfl, rfl⟩]
    refine ⟨Or.inr (Or.inl rfl), fun _ => ⟨t + d * 24, by omega, by omega, ?_⟩, fun o ho g => ?_⟩
    · rw [ht, ← nI_add, show nI (d * 24) = nI d * 24 from (by rcases (show d = 1 ∨ d = 2 ∨ d = 3 ∨ d = 4 by omega) with rfl | rfl | rfl | rfl <;> decide)]
    · rw [answ_bt (by omega), b_0] at g
      exact absurd g (by decide)
  · have e2 : ∀ b, kV (f_retK (kPutV K i 2 1) i (nI d)) j b = kV K j b := fun b => by
      rw [ret_V, if_neg (fun q => e q.2), if_neg (fun q => e q.2), if_neg (fun q => e q.2), if_neg (fun q => e q.2), if_neg (fun q => e q.2), if_neg (fun q => e q.2)]
    rw [e2, e2, e2]
    refine ⟨(a7 j hj).1, (a7 j hj).2.1, fun o ho g q => (a7 j hj).2.2 o ho g ?_⟩
    have e3 : kVA (f_retK (kPutV K i 2 1) i (nI d)) j = kVA K j := by
      show (if j = i then _ else if j = i then _ else kVA K j) = _
      rw [if_neg e, if_neg e]
    rw [e3] at q
    exact q
theorem KH.retire {H N : Nat → Int32} (h : KH K V H N) (i : Nat) (d : Int32) : KH (f_retK (kPutV K i 2 1) i d) V H N := fun j hj => by
  rw [ret_V, ret_V]
  simp
  exact h j hj
theorem Inv.retire (h : Inv K V C n) (hn : n ≤ 900) {i d : Nat} (hi : i < V) (hd : 1 ≤ d) (hd4 : d ≤ 4) : Inv (f_retK (kPutV K i 2 1) i (nI d)) V C (n + 1) := by
  obtain ⟨t, a, b, c, h0, h1, h2, h3, h4, h5, h6, h7⟩ := h
  exact ⟨t, a, b, c, h0, by omega, h2, h3, h4, by omega, h6, h7.retire (by omega) h0 hi hd hd4⟩
def f_free (r : Nat → Int32) : Nat := f_cnt (fun j => decide (r j = -1)) 5
theorem cnt_upd {p q : Nat → Bool} {o : Nat} (h : ∀ j, ¬ j = o → p j = q j) (hp : p o = false) (hq : q o = true) : ∀ m, o < m → f_cnt p m + 1 = f_cnt q m := by
  intro m
  induction m with
  | zero => intro h0; omega
  | succ m ih =>
    intro h0
    show f_cnt p m + (if p m then 1 else 0) + 1 = f_cnt q m + (if q m then 1 else 0)
    by_cases e : m = o
    · subst e
      rw [hp, hq, f_cnt_congr m (fun j hj => h j (by omega))]
      simp
    · rw [h m e, ← ih (by omega)]
      omega
theorem free_upd {r : Nat → Int32} {o : Nat} (ho : o < 5) (hr : r o = -1) {h : Int32} (hh : ¬ h = -1) : f_free (upd r o h) + 1 = f_free r := by
  unfold f_free
  refine cnt_upd (o := o) (fun j hj => ?_) ?_ ?_ 5 ho
  · rw [pk_un hj]
  · rw [pk_us]; exact decide_eq_false hh
  · exact decide_eq_true hr
theorem sr_spec (i : Nat) {t : Nat} (ht : kG K 0 = nI t) (hn : t ≤ 1000) (ho : ∀ k, k < nc K → ∃ o, o < 5 ∧ kC K k 0 = nI o) (n : Nat) : ∀ (k : Nat) (row : Nat → Int32) (c : Nat), (f_srT K i n k row c).2 + f_free (f_srT K i n k row c).1 = c + f_free row := by
  induction n with
  | zero => intro k row c; rfl
  | succ n ih =>
    intro k row c
    unfold f_srT
    by_cases g : (decide (k < nc K) && f_caller K k i (kG K 0)) = true
    · rw [if_pos g, ih]
      simp only [Bool.and_eq_true, decide_eq_true_eq] at g
      obtain ⟨o, ho5, e⟩ := ho k g.1
      unfold f_askrow
      rw [e, askok_nI ho5, ht]
      by_cases q : row o = -1
      · rw [decide_eq_true q, if_pos rfl, if_pos rfl, nI_clamp (by omega)]
        have := free_upd ho5 q (nI_m1 (show t < 2 ^ 31 by omega))
        omega
      · rw [decide_eq_false q, if_neg (by decide), if_neg (by decide)]
        omega
    · rw [if_neg g, ih]
theorem sr_le5 (h : Inv K V C n) (hn : n ≤ 900) (i j : Nat) : (f_sr (kPutV K i 2 1) j).2 ≤ 5 := by
  obtain ⟨t, a, b, c, h0, h1, h2, h3, h4, h5, h6, h7⟩ := h
  have e := sr_spec (K := kPutV K i 2 1) j (t := t) h0 (by omega) (fun k hk => (h7.2.2.2.2.2.1 k (by rw [← h7.2.2.1]; exact hk)).2) 10 0 (f_fill 5 (-1) (kVA (kPutV K i 2 1) j)) 0
  have f5 : f_free (f_fill 5 (-1) (kVA (kPutV K i 2 1) j)) ≤ 5 := f_cnt_le _ _
  unfold f_sr
  omega
/-- an owner answers -/
theorem IV.answer (h : IV K V C t) {i o : Nat} (ho : o < 5) (ha : ¬ kVA K i o = -1) : IV (kPutV K i 8 (kV K i 8 ||| (1 <<< (nI o &&& 31)))) V C t := by
  obtain ⟨a1, a2, a3, a4, a5, a6, a7⟩ := h
  refine ⟨a1, a2, a3, a4, a5, a6, fun j hj => ?_⟩
  rw [kV_put, kV_put, kV_put, if_neg (by simp), if_neg (by simp)]
  refine ⟨(a7 j hj).1, (a7 j hj).2.1, fun q hq g => ?_⟩
  by_cases e : j = i
  · subst e
    rw [if_pos ⟨rfl, rfl⟩, answ_or (by omega) (by omega)] at g
    by_cases e2 : q = o
    · subst e2; exact ha
    · rw [decide_eq_false e2, Bool.or_false] at g
      exact (a7 j hj).2.2 q hq g
  · rw [if_neg (fun q => e q.2)] at g
    exact (a7 j hj).2.2 q hq g
theorem Inv.answer (h : Inv K V C n) {i o : Nat} (ho : o < 5) (ha : ¬ kVA K i o = -1) : Inv (kPutV K i 8 (kV K i 8 ||| (1 <<< (nI o &&& 31)))) V C (n + 1) := by
  obtain ⟨t, a, b, c, h0, h1, h2, h3, h4, h5, h6, h7⟩ := h
  exact ⟨t, a, b, c, h0, by omega, h2, h3, h4, by omega, h6, h7.answer ho ha⟩
theorem KH.answer {H N : Nat → Int32} (h : KH K V H N) (i : Nat) (x : Int32) : KH (kPutV K i 8 x) V H N := fun j hj => by
  rw [kV_put, kV_put, if_neg (by simp), if_neg (by simp)]
  exact h j hj
/-- what asked shows, and what answer then answers -/
theorem askst_cases {i o : Nat} (ho : o < 5) : f_askst K (nI o) i = 0 ∨ (kV K i 2 = 1 ∧ ¬ kVA K i o = -1 ∧ ((f_askst K (nI o) i = 1 ∧ f_warned (kVA K i) (kV K i 8) (nI o) (kG K 0) = false) ∨ ((f_askst K (nI o) i = 2 ∨ f_askst K (nI o) i = 3) ∧ f_warned (kVA K i) (kV K i 8) (nI o) (kG K 0) = true))) := by
  unfold f_askst
  rw [asked_nI ho]
  by_cases h1 : kV K i 2 = 1
  · by_cases h2 : kVA K i o = -1
    · rw [if_pos (Or.inr h2)]; exact Or.inl rfl
    · rw [if_neg (fun q => q.elim (fun r => r h1) h2)]
      refine Or.inr ⟨h1, h2, ?_⟩
      cases q : f_answ (kV K i 8) (nI o)
      · rw [if_neg (by decide)]
        cases r : f_warned (kVA K i) (kV K i 8) (nI o) (kG K 0)
        · exact Or.inl ⟨by rw [if_neg (by decide)], rfl⟩
        · exact Or.inr ⟨Or.inl (by rw [if_pos rfl]), rfl⟩
      · refine Or.inr ⟨Or.inr (by rw [if_pos rfl]), ?_⟩
        unfold f_warned
        rw [q]; rfl
  · rw [if_pos (Or.inl h1)]; exact Or.inl rfl
theorem askst_after {i o : Nat} (ho : o < 5) (h1 : kV K i 2 = 1) (h2 : ¬ kVA K i o = -1) : f_askst (kPutV K i 8 (kV K i 8 ||| (1 <<< (nI o &&& 31)))) (nI o) i = 3 := by
  have e2 : kV (kPutV K i 8 (kV K i 8 ||| (1 <<< (nI o &&& 31)))) i 2 = kV K i 2 := by rw [kV_put, if_neg (by simp)]
  have e8 : kV (kPutV K i 8 (kV K i 8 ||| (1 <<< (nI o &&& 31)))) i 8 = (kV K i 8 ||| (1 <<< (nI o &&& 31))) := by rw [kV_put, if_pos ⟨rfl, rfl⟩]
  have eA : kVA (kPutV K i 8 (kV K i 8 ||| (1 <<< (nI o &&& 31)))) = kVA K := rfl
  unfold f_askst
  rw [asked_nI ho, e2, e8, eA, if_neg (fun q => q.elim (fun r => r h1) h2), answ_or (by omega) (by omega), decide_eq_true (rfl : o = o), Bool.or_true, if_pos rfl]
/-- code is generated again -/
theorem IV.again (h : IV K V C t) {k v : Nat} (u : Int32) (hv : v < V) : IV (kPutCV (kPutC K k 1 u) k v) V C t := by
  obtain ⟨a1, a2, a3, a4, a5, a6, a7⟩ := h
  refine ⟨a1, a2, a3, a4, a5, fun a ha => ⟨?_, ?_⟩, a7⟩
  · rw [kCV_put]
    split
    · exact hv
    · exact (a6 a ha).1
  · have e : kC (kPutCV (kPutC K k 1 u) k v) a 0 = kC K a 0 := by
      show (if 0 = 1 ∧ a = k then u else kC K a 0) = _
      rw [if_neg (by simp)]
    rw [e]
    exact (a6 a ha).2
theorem Inv.again (h : Inv K V C n) {k v : Nat} (u : Int32) (hv : v < V) : Inv (kPutCV (kPutC K k 1 u) k v) V C (n + 1) := by
  obtain ⟨t, a, b, c, h0, h1, h2, h3, h4, h5, h6, h7⟩ := h
  exact ⟨t, a, b, c, h0, by omega, h2, h3, h4, by omega, h6, h7.again u hv⟩
theorem near_spec (K : kT) (k m : Nat) : (f_near K k m).1 = -1 ∨ ∃ n, n < m ∧ (f_near K k m).1 = nI n ∧ n < nv K (kCV K k / 6) ∧ kV K (6 * (kCV K k / 6) + n) 2 = 0 := by
  induction m with
  | zero => exact Or.inl rfl
  | succ m ih =>
    unfold f_near
    split
    · rename_i h
      simp only [Bool.and_eq_true, decide_eq_true_eq] at h
      exact Or.inr ⟨m, by omega, rfl, h.1.1, h.1.2⟩
    · rcases ih with e | ⟨n, e1, e2⟩
      · exact Or.inl e
      · exact Or.inr ⟨n, by omega, e2⟩
/-- an hour passes -/
theorem Inv.hour (h : Inv K V C n) (hn : n ≤ 900) : Inv (f_hour K).1 V C (n + 1) := by
  obtain ⟨t, a, b, c, h0, h1, h2, h3, h4, h5, h6, h7⟩ := h
  obtain ⟨L, g1, g2, g3, g4, g5, g6⟩ := hour_spec K (h := nI (t + 1)) (by rw [h0, nI_1])
  exact ⟨t + 1, a, b, c, g1, by omega, (g2 1 (by decide)).trans h2, (g2 2 (by decide)).trans h3, (g2 3 (by decide)).trans h4, by omega, h6, h7.hour (by omega) h0⟩
theorem cnt_lt (V m : Nat) : f_cnt (fun j => decide (j < V)) m = if m ≤ V then m else V := by
  induction m with
  | zero => rw [if_pos (Nat.zero_le _)]; rfl
  | succ m ih =>
    show f_cnt (fun j => decide (j < V)) m + (if decide (m < V) = true then 1 else 0) = _
    rw [ih]
    simp only [decide_eq_true_eq]
    split <;> split <;> split <;> omega
theorem st_count (h : IV K V C t) : f_cnt (p_st K 0) 24 + f_cnt (p_st K 1) 24 + f_cnt (p_st K 2) 24 = V := by
  have e : ∀ m, f_cnt (p_st K 0) m + f_cnt (p_st K 1) m + f_cnt (p_st K 2) m = f_cnt (fun j => decide (j < V)) m := by
    intro m
    induction m with
    | zero => rfl
    | succ m ih =>
      unfold f_cnt
      rw [← ih]
      have pe : ∀ s, p_st K s m = (b_ok K m && decide (kV K m 2 = s)) := fun s => rfl
      rw [pe, pe, pe]
      by_cases g : m < V
      · rw [h.bok g, decide_eq_true g]
        have c1 : decide ((0 : Int32) = 1) = false := by decide
        have c2 : decide ((0 : Int32) = 2) = false := by decide
        have c3 : decide ((1 : Int32) = 0) = false := by decide
        have c4 : decide ((1 : Int32) = 2) = false := by decide
        have c5 : decide ((2 : Int32) = 0) = false := by decide
        have c6 : decide ((2 : Int32) = 1) = false := by decide
        have c7 : ∀ x : Int32, decide (x = x) = true := fun x => decide_eq_true rfl
        rcases (h.2.2.2.2.2.2 m g).1 with s | s | s <;> rw [s] <;> simp only [c1, c2, c3, c4, c5, c6, c7, Bool.true_and, if_pos] <;> simp <;> omega
      · rw [h.bokN g, decide_eq_false g]
        rfl
  rw [e, cnt_lt, if_neg (by have := h.2.2.2.1; omega)]
theorem cnt_stop {p : Nat → Bool} {V : Nat} (h : ∀ j, V ≤ j → p j = false) (m : Nat) : f_cnt p (V + m) = f_cnt p V := by
  induction m with
  | zero => rfl
  | succ m ih =>
    show f_cnt p (V + m) + (if p (V + m) then 1 else 0) = _
    rw [ih, h _ (by omega)]
    simp
theorem goes_count (h : IV K V C t) (x : Int32) : f_cnt (q_goes K x) 24 = f_cnt (q_goes K x) V := by
  have hV := h.2.2.2.1
  rw [show 24 = V + (24 - V) by omega]
  exact cnt_stop (fun j hj => by unfold q_goes; rw [h.bokN (by omega)]; rfl) _
end STP
