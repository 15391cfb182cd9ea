/-! ===== what an hour does: states and ends, no more ===== -/
section LAT
variable {K K1 K2 : kT}
def Lat (K K1 : kT) : Prop := kN K1 = kN K ∧ kVA K1 = kVA K ∧ kC K1 = kC K ∧ kCL K1 = kCL K ∧ kCV K1 = kCV K ∧ kA K1 = kA K ∧ kAF K1 = kAF K ∧ kAT K1 = kAT K ∧ (∀ i j, ¬ j = 2 → ¬ j = 3 → ¬ j = 7 → kV K1 i j = kV K i j) ∧ ∀ i, kV K1 i 2 = 0 ↔ kV K i 2 = 0
theorem Lat.refl (K : kT) : Lat K K := ⟨rfl, rfl, rfl, rfl, rfl, rfl, rfl, rfl, fun _ _ _ _ _ => rfl, fun _ => Iff.rfl⟩
theorem Lat.trans (h : Lat K K1) (g : Lat K1 K2) : Lat K K2 := by
  obtain ⟨a1, a2, a3, a4, a5, a6, a7, a8, a9, a10⟩ := h
  obtain ⟨b1, b2, b3, b4, b5, b6, b7, b8, b9, b10⟩ := g
  exact ⟨b1.trans a1, b2.trans a2, b3.trans a3, b4.trans a4, b5.trans a5, b6.trans a6, b7.trans a7, b8.trans a8, fun i j h1 h2 h3 => (b9 i j h1 h2 h3).trans (a9 i j h1 h2 h3), fun i => (b10 i).trans (a10 i)⟩
theorem Lat.leaf (h : Lat K K1) (sh : Option Nat) (vi : Nat) (u : Int32) : f_leaf K1 sh vi u = f_leaf K sh vi u := by
  obtain ⟨a1, a2, a3, a4, a5, a6, a7, a8, a9, a10⟩ := h
  unfold f_leaf
  rw [a9 vi 0 (by decide) (by decide) (by decide), a9 vi 1 (by decide) (by decide) (by decide), decide_eq_decide.mpr (a10 vi)]
theorem Lat.rt (h : Lat K K1) (sh : Option Nat) (n : Nat) : ∀ (vi : Nat) (u : Int32), f_rt K1 sh n vi u = f_rt K sh n vi u := by
  induction n with
  | zero =>
    intro vi u
    unfold f_rt
    rw [h.leaf]
  | succ n ih =>
    intro vi u
    obtain ⟨a1, a2, a3, a4, a5, a6, a7, a8, a9, a10⟩ := h
    unfold f_rt
    refine congrArg (fun g => f_from g 10 0) (funext fun k => ?_)
    simp only [na, a1, a6, a7, a8, ih]
theorem Lat.best (h : Lat K K1) (k vi : Nat) (sh : Option Nat) : f_best K1 k vi sh = f_best K k vi sh := by
  unfold f_best
  rw [h.rt, h.rt, h.rt, h.2.2.1]
theorem Lat.called (h : Lat K K1) (k i : Nat) : f_called K1 k i = f_called K k i := by
  unfold f_called
  rw [h.2.2.2.1, h.2.2.2.2.1]
theorem Lat.caller (h : Lat K K1) (k i : Nat) (t : Int32) : f_caller K1 k i t = f_caller K k i t := by
  unfold f_caller
  rw [h.called]
theorem Lat.hin (h : Lat K K1) (i : Nat) (t : Int32) : p_hin K1 i t false = p_hin K i t false := by
  funext k
  unfold p_hin f_then
  rw [h.best, h.caller, h.2.1, h.2.2.1, h.2.2.2.2.2.2.2.2.1 i 8 (by decide) (by decide) (by decide)]
  simp only [nc, h.1, Bool.false_and]
theorem Lat.bok (h : Lat K K1) (i : Nat) : b_ok K1 i = b_ok K i := by
  unfold b_ok
  simp only [nf, nv, h.1]
/-- becomes gone as the hour t begins -/
def q_goes (K : kT) (t : Int32) (i : Nat) : Bool := (b_ok K i && (decide (kV K i 2 = 1) && decide (kV K i 7 = t))) && decide (f_cnt (p_hin K i t false) 10 = 0)
/-- is put off -/
def q_off (K : kT) (t : Int32) (i : Nat) : Bool := (b_ok K i && (decide (kV K i 2 = 1) && decide (kV K i 7 = t))) && !decide (f_cnt (p_hin K i t false) 10 = 0)
theorem end_goes {i : Nat} (h : f_cnt (p_hin K i (kG K 0) false) 10 = 0) : f_endK K i = kPutV K i 2 2 := if_pos h
theorem end_off {i : Nat} (h : ¬ f_cnt (p_hin K i (kG K 0) false) 10 = 0) : f_endK K i = kPutV (kPutV K i 7 (kV K i 7 + 24)) i 3 (kV K i 3 + 1) := if_neg h
theorem end_G (i : Nat) : kG (f_endK K i) = kG K := by
  unfold f_endK; split <;> rfl
theorem end_S (i : Nat) : kCS (f_endK K i) = kCS K := by
  unfold f_endK; split <;> rfl
theorem end_V {i j b : Nat} (h : ¬ j = i) : kV (f_endK K i) j b = kV K j b := by
  unfold f_endK; split <;> simp [kV_put, h]
theorem end_lat {i : Nat} (h : kV K i 2 = 1) : Lat K (f_endK K i) := by
  by_cases g : f_cnt (p_hin K i (kG K 0) false) 10 = 0
  · rw [end_goes g]
    refine ⟨rfl, rfl, rfl, rfl, rfl, rfl, rfl, rfl, fun a b h1 h2 h3 => ?_, fun a => ?_⟩
    · rw [kV_put, if_neg (fun e => h1 e.1)]
    · rw [kV_put]
      by_cases e : a = i
      · rw [if_pos ⟨rfl, e⟩, e, h]; decide
      · rw [if_neg (fun q => e q.2)]
  · rw [end_off g]
    refine ⟨rfl, rfl, rfl, rfl, rfl, rfl, rfl, rfl, fun a b h1 h2 h3 => ?_, fun a => ?_⟩
    · rw [kV_put, if_neg (fun e => h2 e.1), kV_put, if_neg (fun e => h3 e.1)]
    · rw [kV_put, if_neg (fun e => absurd e.1 (by decide)), kV_put, if_neg (fun e => absurd e.1 (by decide))]
theorem f_cnt_congr {p q : Nat → Bool} (n : Nat) (h : ∀ j, j < n → p j = q j) : f_cnt p n = f_cnt q n := by
  induction n with
  | zero => rfl
  | succ n ih =>
    unfold f_cnt
    rw [ih (fun j hj => h j (by omega)), h n (by omega)]
/-- how many of the numbers from j on -/
def f_cntF (p : Nat → Bool) (n j : Nat) : Nat := match n with
  | 0 => 0
  | n + 1 => (if p j then 1 else 0) + f_cntF p n (j + 1)
theorem f_cntF_eq (p : Nat → Bool) (n : Nat) : ∀ j, f_cnt p j + f_cntF p n j = f_cnt p (j + n) := by
  induction n with
  | zero => intro j; rfl
  | succ n ih =>
    intro j
    have e := ih (j + 1)
    rw [show j + (n + 1) = j + 1 + n by omega, ← e]
    show f_cnt p j + ((if p j then 1 else 0) + f_cntF p n (j + 1)) = f_cnt p j + (if p j then 1 else 0) + f_cntF p n (j + 1)
    omega
theorem f_cntF_congr {p q : Nat → Bool} (n : Nat) : ∀ j, (∀ a, j ≤ a → p a = q a) → f_cntF p n j = f_cntF q n j := by
  induction n with
  | zero => intro j h; rfl
  | succ n ih =>
    intro j h
    unfold f_cntF
    rw [h j (Nat.le_refl _), ih (j + 1) (fun a ha => h a (by omega))]
/-- the versions from j on, as the hour begins -/
theorem hv_spec (n : Nat) : ∀ (j : Nat) (K : kT) (c : Nat), Lat K (f_hvT n j K c).1 ∧ kG (f_hvT n j K c).1 = kG K ∧ kCS (f_hvT n j K c).1 = kCS K
    ∧ (∀ i, kV (f_hvT n j K c).1 i 2 = if j ≤ i ∧ i < j + n ∧ q_goes K (kG K 0) i = true then 2 else kV K i 2)
    ∧ (∀ i, kV (f_hvT n j K c).1 i 7 = if j ≤ i ∧ i < j + n ∧ q_off K (kG K 0) i = true then kV K i 7 + 24 else kV K i 7)
    ∧ (f_hvT n j K c).2 = c + f_cntF (q_goes K (kG K 0)) n j := by
  induction n with
  | zero =>
    intro j K c
    refine ⟨Lat.refl K, rfl, rfl, fun i => ?_, fun i => ?_, rfl⟩
    · rw [if_neg (by omega)]; rfl
    · rw [if_neg (by omega)]; rfl
  | succ n ih =>
    intro j K c
    unfold f_hvT f_cntF
    by_cases g : (b_ok K j && (decide (kV K j 2 = 1) && decide (kV K j 7 = kG K 0))) = true
    · rw [if_pos g]
      have h2 : kV K j 2 = 1 := by
        simp only [Bool.and_eq_true, decide_eq_true_eq] at g
        exact g.2.1
      obtain ⟨e1, e2, e3, e4, e5, e6⟩ := ih (j + 1) (f_endK K j) (c + (if f_cnt (p_hin K j (kG K 0) false) 10 = 0 then 1 else 0))
      have L := end_lat h2
      rw [end_G] at e2 e4 e5 e6
      rw [end_S] at e3
      have hq : ∀ i, ¬ i = j → q_goes (f_endK K j) (kG K 0) i = q_goes K (kG K 0) i := fun i hi => by
        unfold q_goes
        rw [L.bok, L.hin, end_V hi, end_V hi]
      have ho : ∀ i, ¬ i = j → q_off (f_endK K j) (kG K 0) i = q_off K (kG K 0) i := fun i hi => by
        unfold q_off
        rw [L.bok, L.hin, end_V hi, end_V hi]
      refine ⟨L.trans e1, e2, e3, fun i => ?_, fun i => ?_, ?_⟩
      · rw [e4]
        by_cases hij : i = j
        · subst hij
          rw [if_neg (by omega)]
          by_cases z : f_cnt (p_hin K i (kG K 0) false) 10 = 0
          · rw [end_goes z, kV_put, if_pos ⟨rfl, rfl⟩, if_pos ⟨Nat.le_refl _, by omega, by unfold q_goes; rw [g, decide_eq_true z]; rfl⟩]
          · rw [end_off z, kV_put, if_neg (fun e => absurd e.1 (by decide)), kV_put, if_neg (fun e => absurd e.1 (by decide)), if_neg (fun e => by
              have := e.2.2
              unfold q_goes at this
              rw [g, decide_eq_false z] at this
              exact absurd this (by decide))]
        · rw [hq i hij, end_V hij]
          by_cases r : j + 1 ≤ i ∧ i < j + 1 + n ∧ q_goes K (kG K 0) i = true
          · rw [if_pos r, if_pos ⟨by omega, by omega, r.2.2⟩]
          · rw [if_neg r, if_neg (fun e => r ⟨by omega, by omega, e.2.2⟩)]
      · rw [e5]
        by_cases hij : i = j
        · subst hij
          rw [if_neg (by omega)]
          by_cases z : f_cnt (p_hin K i (kG K 0) false) 10 = 0
          · rw [end_goes z, kV_put, if_neg (fun e => absurd e.1 (by decide)), if_neg (fun e => by
              have := e.2.2
              unfold q_off at this
              rw [g, decide_eq_true z] at this
              exact absurd this (by decide))]
          · rw [end_off z, kV_put, if_neg (fun e => absurd e.1 (by decide)), kV_put, if_pos ⟨rfl, rfl⟩, if_pos ⟨Nat.le_refl _, by omega, by unfold q_off; rw [g, decide_eq_false z]; rfl⟩]
        · rw [ho i hij, end_V hij]
          by_cases r : j + 1 ≤ i ∧ i < j + 1 + n ∧ q_off K (kG K 0) i = true
          · rw [if_pos r, if_pos ⟨by omega, by omega, r.2.2⟩]
          · rw [if_neg r, if_neg (fun e => r ⟨by omega, by omega, e.2.2⟩)]
      · rw [e6, f_cntF_congr n (j + 1) (fun a ha => hq a (by omega))]
        have : (if f_cnt (p_hin K j (kG K 0) false) 10 = 0 then 1 else 0) = (if q_goes K (kG K 0) j = true then 1 else 0) := by
          unfold q_goes
          rw [g]
          by_cases z : f_cnt (p_hin K j (kG K 0) false) 10 = 0
          · rw [if_pos z, decide_eq_true z]; rfl
          · rw [if_neg z, decide_eq_false z]; rfl
        rw [this]
        omega
    · rw [if_neg g]
      obtain ⟨e1, e2, e3, e4, e5, e6⟩ := ih (j + 1) K c
      have g2 : (b_ok K j && (decide (kV K j 2 = 1) && decide (kV K j 7 = kG K 0))) = false := Bool.eq_false_iff.mpr g
      have hq : q_goes K (kG K 0) j = false := by unfold q_goes; rw [g2]; rfl
      have ho : q_off K (kG K 0) j = false := by unfold q_off; rw [g2]; rfl
      refine ⟨e1, e2, e3, fun i => ?_, fun i => ?_, ?_⟩
      · rw [e4]
        by_cases r : j + 1 ≤ i ∧ i < j + 1 + n ∧ q_goes K (kG K 0) i = true
        · rw [if_pos r, if_pos ⟨by omega, by omega, r.2.2⟩]
        · rw [if_neg r, if_neg (fun e => by
            by_cases hij : i = j
            · rw [hij, hq] at e; exact absurd e.2.2 (by decide)
            · exact r ⟨by omega, by omega, e.2.2⟩)]
      · rw [e5]
        by_cases r : j + 1 ≤ i ∧ i < j + 1 + n ∧ q_off K (kG K 0) i = true
        · rw [if_pos r, if_pos ⟨by omega, by omega, r.2.2⟩]
        · rw [if_neg r, if_neg (fun e => by
            by_cases hij : i = j
            · rw [hij, ho] at e; exact absurd e.2.2 (by decide)
            · exact r ⟨by omega, by omega, e.2.2⟩)]
      · rw [e6, hq]
        simp
theorem clr_spec (n : Nat) : ∀ (k : Nat) (K : kT), Lat K (f_clrT n k K) ∧ kG (f_clrT n k K) = kG K ∧ kV (f_clrT n k K) = kV K ∧ ∀ a j, j < 6 → kCS (f_clrT n k K) a j = if k ≤ a ∧ a < k + n ∧ a < nc K then 0 else kCS K a j := by
  induction n with
  | zero =>
    intro k K
    refine ⟨Lat.refl K, rfl, rfl, fun a j hj => ?_⟩
    rw [if_neg (by omega)]; rfl
  | succ n ih =>
    intro k K
    unfold f_clrT
    by_cases g : k < nc K
    · rw [if_pos g]
      obtain ⟨e1, e2, e3, e4⟩ := ih (k + 1) (kPutCS K k (f_fill 6 0 (kCS K k)))
      refine ⟨Lat.trans ⟨rfl, rfl, rfl, rfl, rfl, rfl, rfl, rfl, fun _ _ _ _ _ => rfl, fun _ => Iff.rfl⟩ e1, e2, e3, fun a j hj => ?_⟩
      rw [e4 a j hj, kCS_put]
      show (if k + 1 ≤ a ∧ a < k + 1 + n ∧ a < nc K then 0 else _) = _
      by_cases e : a = k
      · subst e
        rw [if_neg (by omega), if_pos rfl, if_pos ⟨Nat.le_refl _, by omega, g⟩]
        exact if_pos hj
      · rw [if_neg e]
        by_cases r : k + 1 ≤ a ∧ a < k + 1 + n ∧ a < nc K
        · rw [if_pos r, if_pos ⟨by omega, by omega, r.2.2⟩]
        · rw [if_neg r, if_neg (fun q => r ⟨by omega, by omega, q.2.2⟩)]
    · rw [if_neg g]
      obtain ⟨e1, e2, e3, e4⟩ := ih (k + 1) K
      refine ⟨e1, e2, e3, fun a j hj => ?_⟩
      rw [e4 a j hj]
      by_cases r : k + 1 ≤ a ∧ a < k + 1 + n ∧ a < nc K
      · rw [if_pos r, if_pos ⟨by omega, by omega, r.2.2⟩]
      · rw [if_neg r, if_neg (fun q => r ⟨by omega, by omega, q.2.2⟩)]
/-- an hour: h = the new one -/
theorem hour_spec (K : kT) {h : Int32} (hh : kG K 0 + 1 = h) : Lat K (f_hour K).1 ∧ kG (f_hour K).1 0 = h ∧ (∀ b, ¬ b = 0 → kG (f_hour K).1 b = kG K b) ∧ (∀ a j, j < 6 → a < 10 → a < nc K → kCS (f_hour K).1 a j = 0)
    ∧ (∀ i, i < 24 → kV (f_hour K).1 i 2 = if q_goes K h i = true then 2 else kV K i 2) ∧ (∀ i, i < 24 → kV (f_hour K).1 i 7 = if q_off K h i = true then kV K i 7 + 24 else kV K i 7) ∧ (f_hour K).2 = f_cnt (q_goes K h) 24 := by
  subst hh
  unfold f_hour
  obtain ⟨c1, c2, c3, c4⟩ := clr_spec 10 0 (kPutG K 0 (kG K 0 + 1))
  have L0 : Lat K (kPutG K 0 (kG K 0 + 1)) := ⟨rfl, rfl, rfl, rfl, rfl, rfl, rfl, rfl, fun _ _ _ _ _ => rfl, fun _ => Iff.rfl⟩
  have L := L0.trans c1
  have hG : kG (f_clrT 10 0 (kPutG K 0 (kG K 0 + 1))) 0 = kG K 0 + 1 := by rw [c2, kG_put, if_pos rfl]
  obtain ⟨e1, e2, e3, e4, e5, e6⟩ := hv_spec 24 0 (f_clrT 10 0 (kPutG K 0 (kG K 0 + 1))) 0
  have hV : kV (f_clrT 10 0 (kPutG K 0 (kG K 0 + 1))) = kV K := c3
  have hq : ∀ i, q_goes (f_clrT 10 0 (kPutG K 0 (kG K 0 + 1))) (kG K 0 + 1) i = q_goes K (kG K 0 + 1) i := fun i => by
    unfold q_goes
    rw [L.bok, L.hin, hV]
  have ho : ∀ i, q_off (f_clrT 10 0 (kPutG K 0 (kG K 0 + 1))) (kG K 0 + 1) i = q_off K (kG K 0 + 1) i := fun i => by
    unfold q_off
    rw [L.bok, L.hin, hV]
  rw [hG] at e4 e5 e6
  refine ⟨L.trans e1, by rw [e2, hG], fun b hb => by rw [e2, c2, kG_put, if_neg hb], fun a j hj ha hn => ?_, fun i hi => ?_, fun i hi => ?_, ?_⟩
  · rw [e3, c4 a j hj]
    exact if_pos ⟨by omega, by omega, hn⟩
  · rw [e4, hq, hV]
    by_cases r : q_goes K (kG K 0 + 1) i = true
    · rw [if_pos ⟨by omega, by omega, r⟩, if_pos r]
    · rw [if_neg (fun q => r q.2.2), if_neg r]
  · rw [e5, ho, hV]
    by_cases r : q_off K (kG K 0 + 1) i = true
    · rw [if_pos ⟨by omega, by omega, r⟩, if_pos r]
    · rw [if_neg (fun q => r q.2.2), if_neg r]
  · rw [e6, f_cntF_congr 24 0 (fun a _ => hq a), Nat.zero_add, ← Nat.zero_add (f_cntF _ 24 0)]
    exact f_cntF_eq (q_goes K (kG K 0 + 1)) 24 0
end LAT
