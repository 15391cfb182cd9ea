/-! ===== the law's registry at its making, and its arrays ===== -/
section SUP
variable {l : Launch} {D : va_G} {dA : Nat → ClassId} {B : Nat} {Z : Nat → Nat → Nat} {K : kT} {J : jT} {w : xW} {V C A t n : Nat} {H N : Nat → Int32}
def SU (K : kT) (V C A : Nat) (H N : Nat → Int32) : Prop := IV K V C 0 ∧ na K = A ∧ (∀ b, kG K b = 0) ∧ (∀ i, i < V → kV K i 2 = 0) ∧ KH K V H N
theorem SU.start (H N : Nat → Int32) : SU (kOpen K0) 0 0 0 H N := by
  refine ⟨⟨kOpen_nf K0, ?_, kOpen_nc K0, by omega, by omega, fun k hk => absurd hk (Nat.not_lt_zero _), fun i hi => absurd hi (Nat.not_lt_zero _)⟩, kOpen_na K0, fun _ => rfl, fun i hi => absurd hi (Nat.not_lt_zero _), fun i hi => absurd hi (Nat.not_lt_zero _)⟩
  rw [kOpen_nv]
  exact if_pos rfl
theorem pub_V (K : kT) (f : Nat) (h q : Int32) (a b : Nat) : kV (kPub K f h q) a b = if a = 6 * f + nv K f then (match b with | 0 => h | 1 => q | 6 => -1 | 7 => -1 | _ => 0) else kV K a b := rfl
theorem SU.pub (h : SU K V C A H N) (hV : V < 6) (hs q : Int32) (hH : H V = hs) (hN : N V = q) : SU (kPub K 0 hs q) (V + 1) C A H N := by
  obtain ⟨⟨a1, a2, a3, a4, a5, a6, a7⟩, b1, b2, b3, b4⟩ := h
  have eV : 6 * 0 + nv K 0 = V := by rw [a2]; omega
  have old : ∀ i, ¬ i = V → ∀ b, kV (kPub K 0 hs q) i b = kV K i b := fun i hi b => by rw [pub_V, eV, if_neg hi]
  have oldA : ∀ i, ¬ i = V → kVA (kPub K 0 hs q) i = kVA K i := fun i hi => by
    show (if i = 6 * 0 + nv K 0 then _ else kVA K i) = _
    rw [eV, if_neg hi]
  have new : ∀ b, kV (kPub K 0 hs q) V b = (match b with | 0 => hs | 1 => q | 6 => -1 | 7 => -1 | _ => 0) := fun b => by rw [pub_V, eV, if_pos rfl]
  refine ⟨⟨(kPub_nf K 0 hs q).trans a1, ?_, (kPub_nc K 0 hs q).trans a3, by omega, a5, fun k hk => ⟨Nat.lt_succ_of_lt (a6 k hk).1, (a6 k hk).2⟩, fun i hi => ?_⟩, (kPub_na K 0 hs q).trans b1, b2, fun i hi => ?_, fun i hi => ?_⟩
  · rw [kPub_nv, if_pos rfl, a2]
  · by_cases e : i = V
    · subst e
      rw [new, new, new]
      refine ⟨Or.inl rfl, fun g => absurd (show (0 : Int32) = 1 from g) (by decide), fun o ho g => ?_⟩
      rw [answ_bt (by omega)] at g
      exact absurd (g.symm.trans (b_0 o)) (by decide)
    · rw [old i e, old i e, old i e, oldA i e]
      exact a7 i (by omega)
  · by_cases e : i = V
    · subst e; exact new 2
    · rw [old i e]; exact b3 i (by omega)
  · by_cases e : i = V
    · subst e; exact ⟨(new 0).trans hH.symm, (new 1).trans hN.symm⟩
    · rw [old i e, old i e]; exact b4 i (by omega)
theorem SU.cli (h : SU K V C A H N) (hC : C < 10) {o v : Nat} (ho : o < 5) (hv : v < V) (u : Int32) : SU (kCli K (nI o) u v) V (C + 1) A H N := by
  obtain ⟨⟨a1, a2, a3, a4, a5, a6, a7⟩, b1, b2, b3, b4⟩ := h
  refine ⟨⟨(kCli_nf K _ _ _).trans a1, (kCli_nv K _ _ _ 0).trans a2, by rw [kCli_nc, a3], a4, by omega, fun k hk => ?_, a7⟩, (kCli_na K _ _ _).trans b1, b2, b3, b4⟩
  show (if k = nc K then v else kCV K k) < V ∧ ∃ o2, o2 < 5 ∧ (if k = nc K then (match 0 with | 0 => nI o | 1 => u | _ => 0) else kC K k 0) = nI o2
  by_cases e : k = nc K
  · rw [if_pos e, if_pos e]; exact ⟨hv, o, ho, rfl⟩
  · rw [if_neg e, if_neg e]; exact a6 k (by omega)
theorem SU.ada (h : SU K V C A H N) (x y : Nat) (u v : Int32) : SU (kAda K x y u v) V C (A + 1) H N := by
  obtain ⟨⟨a1, a2, a3, a4, a5, a6, a7⟩, b1, b2, b3, b4⟩ := h
  exact ⟨⟨(kAda_nf K _ _ _ _).trans a1, (kAda_nv K _ _ _ _ 0).trans a2, (kAda_nc K _ _ _ _).trans a3, a4, a5, a6, a7⟩, by rw [kAda_na, b1], b2, b3, b4⟩
theorem SU.inv (h : SU K V C A H N) : Inv K V C 0 := ⟨0, 0, 0, 0, h.2.2.1 0, Nat.le_refl _, h.2.2.1 1, h.2.2.1 2, h.2.2.1 3, Nat.le_refl _, Nat.le_refl _, h.1⟩
theorem SU.suit (h : SU K V C A H N) (hs q : Int32) : f_cnt (p_suit K 0 hs q) (nv K 0) = f_cnt (fun i => f_suits hs q (H i) (N i)) V := by
  have e : nv K 0 = V := h.1.2.1
  rw [e]
  refine f_cnt_congr V (fun j hj => ?_)
  unfold p_suit
  rw [e, decide_eq_true hj, i60, (h.2.2.2.2 j hj).1, (h.2.2.2.2 j hj).2]
  rfl
theorem Inv.le {n2 : Nat} (h : Inv K V C n) (hn : n ≤ n2) : Inv K V C n2 := by
  obtain ⟨t, a, b, c, h0, h1, h2, h3, h4, h5, h6, h7⟩ := h
  exact ⟨t, a, b, c, h0, by omega, h2, h3, h4, by omega, h6, h7⟩
/-- the law's two arrays -/
def SD (Z : Nat → Nat → Nat) (K : kT) (w : xW) (V ha nd : Nat) (H N : Nat → Int32) : Prop := w ha = some (aI V H) ∧ w nd = some (aI V N) ∧ NL Z K ha ∧ NL Z K nd ∧ ¬ ha = nd
theorem SD.keep {Z1 : Nat → Nat → Nat} {K1 : kT} {w1 : xW} {ha nd : Nat} (h : SD Z K w V ha nd H N) (k : Keep Z K w Z1 K1 w1) : SD Z1 K1 w1 V ha nd H N :=
  ⟨(k ha _ h.1 h.2.2.1).1, (k nd _ h.2.1 h.2.2.2.1).1, (k ha _ h.1 h.2.2.1).2, (k nd _ h.2.1 h.2.2.2.1).2, h.2.2.2.2⟩
theorem SD.oth {K1 : kT} {w1 : xW} {ha nd : Nat} (h : SD Z K w V ha nd H N) (k : Oth Z K w w1) (hN : kN K1 = kN K) : SD Z K1 w1 V ha nd H N := h.keep (k.keep hN)
theorem SD.kind {K1 : kT} {w1 : xW} {ha nd : Nat} (h : SD Z K w V ha nd H N) (k : ∀ b x, w b = some x → NL Z K b → w1 b = some x) (hN : kN K1 = kN K) : SD Z K1 w1 V ha nd H N :=
  ⟨k ha _ h.1 h.2.2.1, k nd _ h.2.1 h.2.2.2.1, h.2.2.1.same hN, h.2.2.2.1.same hN, h.2.2.2.2⟩
theorem SD.setH {ha nd : Nat} (h : SD Z K w V ha nd H N) (f : Nat → Int32) : SD Z K (x_set w ha (aI V f)) V ha nd f N :=
  ⟨x_set_eq _ _ _, by rw [x_set_ne _ _ (fun e => h.2.2.2.2 e.symm)]; exact h.2.1, h.2.2.1, h.2.2.2.1, h.2.2.2.2⟩
theorem SD.setN {ha nd : Nat} (h : SD Z K w V ha nd H N) (f : Nat → Int32) : SD Z K (x_set w nd (aI V f)) V ha nd H f :=
  ⟨by rw [x_set_ne _ _ h.2.2.2.2]; exact h.1, x_set_eq _ _ _, h.2.2.1, h.2.2.2.1, h.2.2.2.2⟩
/-- numbers of fields: what the versions have, and out of that what they need -/
def HN (V : Nat) (H N : Nat → Int32) : Prop := ∀ i, i < V → ∃ a c, a < 256 ∧ H i = nI a ∧ N i = nI (a &&& c)
theorem HN.shape (h : HN V H N) {i : Nat} (hi : i < V) : f_shape (H i) (N i) = true := by
  obtain ⟨a, c, h1, h2, h3⟩ := h i hi
  rw [h2, h3]
  exact shape_nI h1 c
theorem HN.sub (h : HN V H N) {i : Nat} (hi : i < V) : N i &&& (H i ^^^ -1) = 0 := by
  have g := h.shape hi
  unfold f_shape at g
  simp only [Bool.and_eq_true, decide_eq_true_eq] at g
  exact g.2.2
theorem HN.uses (h : HN V H N) {i : Nat} (hi : i < V) {x : Nat} : f_set ((nI x &&& H i) ||| N i) = true := by
  obtain ⟨a, c, h1, h2, h3⟩ := h i hi
  rw [h2, h3, n_and, n_or]
  refine set_nI (or_256 ?_ (and_256 h1 c))
  exact Nat.lt_of_le_of_lt Nat.and_le_right h1
theorem HN.need (h : HN V H N) {i : Nat} (hi : i < V) : f_set (N i) = true := by
  obtain ⟨a, c, h1, h2, h3⟩ := h i hi
  rw [h3]
  exact set_nI (and_256 h1 c)
theorem HN.rest (h : HN V H N) {i : Nat} (hi : i < V) : f_set (255 - H i) = true := by
  obtain ⟨a, c, h1, h2, h3⟩ := h i hi
  rw [h2, show (255 : Int32) - nI a = nI (255 - a) from pk_sub (a := 255) (by omega)]
  exact set_nI (by omega)
-- the calls once more
theorem k_many7 (hR : Rep Z K J w) : Ci l D dA B yX6_many wX6_many 5 [.ref (Z 0 0), .int 7] w (fun v w1 => v = .int (kG K 1) ∧ w1 = w) := c_many hR (t := 7) (by decide)
theorem k_many8 (hR : Rep Z K J w) : Ci l D dA B yX6_many wX6_many 5 [.ref (Z 0 0), .int 8] w (fun v w1 => v = .int (kG K 2) ∧ w1 = w) := c_many hR (t := 8) (by decide)
theorem k_many9 (hR : Rep Z K J w) : Ci l D dA B yX6_many wX6_many 5 [.ref (Z 0 0), .int 9] w (fun v w1 => v = .int (kG K 3) ∧ w1 = w) := c_many hR (t := 9) (by decide)
theorem k_many2 (hR : Rep Z K J w) : Ci l D dA B yX6_many wX6_many 5 [.ref (Z 0 0), .int 2] w (fun v w1 => v = .int (nI (f_cnt (p_st K 0) 24)) ∧ w1 = w) := c_many hR (t := 2) (by decide)
theorem k_many3 (hR : Rep Z K J w) : Ci l D dA B yX6_many wX6_many 5 [.ref (Z 0 0), .int 3] w (fun v w1 => v = .int (nI (f_cnt (p_st K 1) 24)) ∧ w1 = w) := c_many hR (t := 3) (by decide)
theorem k_many4 (hR : Rep Z K J w) : Ci l D dA B yX6_many wX6_many 5 [.ref (Z 0 0), .int 4] w (fun v w1 => v = .int (nI (f_cnt (p_st K 2) 24)) ∧ w1 = w) := c_many hR (t := 4) (by decide)
theorem k_cli3 (hR : Rep Z K J w) {k : Nat} (hk : k < nc K) : Ci l D dA B yX6_ofClient wX6_ofClient 8 [.ref (Z 0 0), .int (nI k), .int 3] w (QP Z K w (kC K k 1)) := c_ofClient hR hk (t := 3) (by decide)
theorem k_retire (hR : Rep Z K J w) {i d : Nat} (hi : vOk K i) (h6 : i < 6) (hd : 1 ≤ d) (hd4 : d ≤ 4) (hs : kV K i 2 = 0) : Ci l D dA B yX6_retire wX6_retire 4 [.ref (Z 0 0), .int 0, .int (nI i), .int (nI d)] w (QM Z K w (nI (f_sr (kPutV K i 2 1) i).2) (f_retK (kPutV K i 2 1) i (nI d))) := by
  have h := c_retire (l := l) (D := D) (dA := dA) (B := B) (f := 0) (k := i) (d := nI d) hR (by rw [i60]; exact hi) h6 (nI_nlt (b := 1) hd (by omega)) (nI_le (b := 9) (by omega) (by decide)) (by rw [i60]; exact hs)
  rw [i60] at h
  exact h
theorem k_answer (hR : Rep Z K J w) {i o : Nat} (hi : vOk K i) (h6 : i < 6) (ho : o < 5) (hs : kV K i 2 = 1) (ha : ¬ kVA K i o = -1) : Ci l D dA B yX6_answer wX6_answer 3 [.ref (Z 0 0), .int (nI o), .int 0, .int (nI i)] w (QM Z K w (x_b (f_warned (kVA K i) (kV K i 8) (nI o) (kG K 0))) (kPutV K i 8 (kV K i 8 ||| (1 <<< (nI o &&& 31))))) := by
  have h := c_answer (l := l) (D := D) (dA := dA) (B := B) (f := 0) (k := i) (o := nI o) hR (by rw [i60]; exact hi) h6 (owner_nI ho) (by rw [i60]; exact hs) (by rw [i60, asked_nI ho]; exact ha)
  rw [i60] at h
  exact h
theorem k_again (hI : IV K V C t) (hR : Rep Z K J w) {k i : Nat} (hk : k < C) (hi : i < V) (hs : kV K i 2 = 0) : Ci l D dA B yX6_again wX6_again 2 [.ref (Z 0 0), .int (nI k), .int (nI i)] w (QM Z K w (f_again (kV K i 0) (kV K i 1) (kC K k 1)) (kPutCV (kPutC K k 1 (f_again (kV K i 0) (kV K i 1) (kC K k 1))) k i)) := by
  have h0 := (hI.2.2.2.2.2.1 k hk).1
  have hV := hI.2.2.2.1
  have e0 : kCV K k / 6 = 0 := by omega
  have h := c_again (l := l) (D := D) (dA := dA) (B := B) (k := k) (n := i) hR (by rw [hI.2.2.1]; exact hk) (by rw [e0, i60]; exact hI.vok hi) (by omega) (by rw [e0, i60]; exact hs)
  rw [e0, i60] at h
  exact h
theorem k_near (hI : IV K V C t) {k : Nat} (hk : k < C) : (f_near K k 6).1 = -1 ∨ ∃ i, i < V ∧ (f_near K k 6).1 = nI i ∧ kV K i 2 = 0 := by
  have h0 := (hI.2.2.2.2.2.1 k hk).1
  have hV := hI.2.2.2.1
  have e0 : kCV K k / 6 = 0 := by omega
  rcases near_spec K k 6 with e | ⟨i, i1, i2, i3, i4⟩
  · exact Or.inl e
  · rw [e0, hI.2.1] at i3
    rw [e0, i60] at i4
    exact Or.inr ⟨i, i3, i2, i4⟩
theorem k_compat (hI : IV K V C t) (hK : KH K V H N) (hR : Rep Z K J w) {i j : Nat} (hi : i < V) (hj : j < V) : Ci l D dA B yX6_isCompatible wX6_isCompatible 3 [.ref (Z 0 0), .int 0, .int (nI i), .int (nI j)] w (fun v w1 => v = .int (x_b (f_suits (H i) (N i) (H j) (N j))) ∧ w1 = w) := by
  have hV := hI.2.2.2.1
  have h := c_isCompatible (l := l) (D := D) (dA := dA) (B := B) (f := 0) (k := i) (k2 := j) hR (hI.vok0 hi) (by omega) (hI.vok0 hj) (by omega)
  rw [i60, i60, (hK i hi).1, (hK i hi).2, (hK j hj).1, (hK j hj).2] at h
  exact h
theorem k_open (hR : Rep Z K0 J w) : x_Ci l D dA vwCl tyL0 B yX6_open wX6_open (rmd 2 2 9) [.ref (Z 0 0)] w (fun v w1 => v = .int 0 ∧ GM Z K0 w (kOpen K0) w1) 2 9 := c_open hR (by decide)
theorem k_publish (hU : SU K V C A H N) (hR : Rep Z K J w) (hV : V < 6) {hs q : Int32} (hsh : f_shape hs q = true) : x_Ci l D dA vwCl tyL0 B yX6_publish wX6_publish (rmd 3 3 18) [.ref (Z 0 0), .int 0, .int hs, .int q] w (fun v w1 => v = .int (nI (f_cnt (fun i => f_suits hs q (H i) (N i)) V)) ∧ GM Z K w (kPub K 0 hs q) w1) 3 18 := by
  have h := c_publish (l := l) (D := D) (dA := dA) (B := B) (f := 0) hR (by rw [hU.1.1]; decide) (by rw [hU.1.2.1]; exact hV) hsh
  rw [hU.suit] at h
  exact h
theorem k_client (hU : SU K V C A H N) (hHN : HN V H N) (hR : Rep Z K J w) (hC : C < 10) {o i x : Nat} (ho : o < 5) (hi : i < V) : x_Ci l D dA vwCl tyL0 B yX6_client wX6_client (rmd 3 3 20) [.ref (Z 0 0), .int (nI o), .int 0, .int (nI i), .int ((nI x &&& H i) ||| N i)] w (fun v w1 => v = .int (nI C) ∧ GM Z K w (kCli K (nI o) ((nI x &&& H i) ||| N i) i) w1) 3 20 := by
  have hV := hU.1.2.2.2.1
  have h := c_client (l := l) (D := D) (dA := dA) (B := B) (f := 0) (n := i) (o := nI o) (u := (nI x &&& H i) ||| N i) hR (hU.1.vok0 hi) (by omega) (owner_nI ho) (hHN.uses hi) (by rw [i60, (hU.2.2.2.2 i hi).1, (hU.2.2.2.2 i hi).2]; exact fits_nI (hHN.sub hi)) (by rw [i60]; exact hU.2.2.2.1 i hi) (by rw [hU.1.2.2.1]; exact hC)
  rw [i60, hU.1.2.2.1] at h
  exact h
theorem k_adapter (hU : SU K V C A H N) (hHN : HN V H N) (hR : Rep Z K J w) (hA : A < 10) {i j : Nat} (hi : i < V) (hj : j < V) (hij : ¬ i = j) : x_Ci l D dA vwCl tyL0 B yX6_adapter wX6_adapter (rmd 3 1 4) [.ref (Z 0 0), .int 0, .int (nI i), .int (nI j), .int (N j), .int (255 - H j)] w (fun v w1 => v = .int (nI A) ∧ GM Z K w (kAda K i j (N j) (255 - H j)) w1) 1 4 := by
  have hV := hU.1.2.2.2.1
  have h := c_adapter (l := l) (D := D) (dA := dA) (B := B) (f := 0) (x := i) (y := j) (u := N j) (v := 255 - H j) hR (hU.1.vok0 hi) (by omega) (hU.1.vok0 hj) (by omega) hij (hHN.need hj) (hHN.rest hj) (by rw [hU.2.1]; exact hA)
  rw [i60, i60, hU.2.1] at h
  exact h
end SUP
