/-! ===== Int32 by its bits: bt x i ===== -/
def bt (x : Int32) (i : Nat) : Bool := x.toBitVec.getLsbD i
theorem b_ext {x y : Int32} (h : ∀ i, i < 32 → bt x i = bt y i) : x = y := Int32.toBitVec_inj.mp (BitVec.eq_of_getLsbD_eq (fun i hi => h i hi))
theorem b_or (x y : Int32) (i : Nat) : bt (x ||| y) i = (bt x i || bt y i) := by unfold bt; rw [Int32.toBitVec_or, BitVec.getLsbD_or]
theorem b_and (x y : Int32) (i : Nat) : bt (x &&& y) i = (bt x i && bt y i) := by unfold bt; rw [Int32.toBitVec_and, BitVec.getLsbD_and]
theorem b_xor (x y : Int32) (i : Nat) : bt (x ^^^ y) i = (bt x i ^^ bt y i) := by unfold bt; rw [Int32.toBitVec_xor, BitVec.getLsbD_xor]
theorem b_big {x : Int32} {i : Nat} (h : 32 ≤ i) : bt x i = false := BitVec.getLsbD_of_ge _ _ h
theorem b_255 (i : Nat) : bt 255 i = decide (i < 8) := by
  rcases Nat.lt_or_ge i 32 with h | h
  · exact (by decide +kernel : ∀ i, i < 32 → bt 255 i = decide (i < 8)) i h
  · rw [b_big h, decide_eq_false (by omega)]
theorem b_65535 (i : Nat) : bt 65535 i = decide (i < 16) := by
  rcases Nat.lt_or_ge i 32 with h | h
  · exact (by decide +kernel : ∀ i, i < 32 → bt 65535 i = decide (i < 16)) i h
  · rw [b_big h, decide_eq_false (by omega)]
theorem b_m1 : ∀ i, i < 32 → bt (-1) i = true := by decide +kernel
theorem b_0 (i : Nat) : bt 0 i = false := BitVec.getLsbD_zero
theorem s_l : ∀ n, n < 32 → ((nI n &&& 31).toBitVec.smod 32).toNat = n := by decide +kernel
theorem s_u : ∀ n, n < 32 → (((nI n).toUInt32 &&& Int32.toUInt32 31).toBitVec % 32).toNat = n := by decide +kernel
theorem b_shl (n : Nat) (hn : n < 32) (x : Int32) {i : Nat} (hi : i < 32) : bt (x <<< (nI n &&& 31)) i = (decide (n ≤ i) && bt x (i - n)) := by
  unfold bt
  rw [Int32.toBitVec_shiftLeft]
  show (x.toBitVec <<< ((nI n &&& 31).toBitVec.smod 32).toNat).getLsbD i = _
  rw [s_l n hn, BitVec.getLsbD_shiftLeft]
  rcases Nat.lt_or_ge i n with h | h
  · simp [h, Nat.not_le.mpr h]
  · simp [hi, h, Nat.not_lt.mpr h]
theorem b_ushr (n : Nat) (hn : n < 32) (x : Int32) (i : Nat) : bt ((x.toUInt32 >>> ((nI n).toUInt32 &&& Int32.toUInt32 31)).toInt32) i = bt x (n + i) := by
  show (x.toUInt32 >>> ((nI n).toUInt32 &&& Int32.toUInt32 31)).toBitVec.getLsbD i = x.toUInt32.toBitVec.getLsbD (n + i)
  rw [UInt32.toBitVec_shiftRight]
  show (x.toUInt32.toBitVec >>> (((nI n).toUInt32 &&& Int32.toUInt32 31).toBitVec % 32).toNat).getLsbD i = _
  rw [s_u n hn, BitVec.getLsbD_ushiftRight]
theorem b_sshr (n : Nat) (hn : n < 32) (x : Int32) {i : Nat} (hi : i < 32) : bt (x >>> (nI n &&& 31)) i = if n + i < 32 then bt x (n + i) else bt x 31 := by
  unfold bt
  rw [Int32.toBitVec_shiftRight]
  show (x.toBitVec.sshiftRight ((nI n &&& 31).toBitVec.smod 32).toNat).getLsbD i = _
  rw [s_l n hn, BitVec.getLsbD_sshiftRight, BitVec.msb_eq_getLsbD_last]
  simp [hi]
/-! ===== sets of fields, and owners that have answered ===== -/
theorem b_1 : ∀ i, i < 32 → bt 1 i = decide (i = 0) := by decide +kernel
theorem b_low {x : Int32} : x &&& 1 = 1 ↔ bt x 0 = true := by
  constructor
  · intro h
    have e := b_and x 1 0
    rw [h, b_1 0 (by decide)] at e
    cases q : bt x 0
    · rw [q] at e; exact absurd e (by decide)
    · rfl
  · intro h
    refine b_ext fun i hi => ?_
    rw [b_and, b_1 i hi]
    by_cases g : i = 0
    · rw [g, h]; rfl
    · rw [decide_eq_false g, Bool.and_false]
theorem answ_bt {n : Int32} {o : Nat} (ho : o < 32) : f_answ n (nI o) = bt n o := by
  unfold f_answ
  have e : bt (n >>> (nI o &&& 31)) 0 = bt n o := by
    rw [b_sshr o ho n (by decide), if_pos (by omega)]
    rfl
  cases q : bt n o
  · rw [q] at e
    exact decide_eq_false (fun h => by rw [b_low, e] at h; exact absurd h (by decide))
  · rw [q] at e
    exact decide_eq_true (b_low.mpr e)
theorem answ_or {n : Int32} {o q : Nat} (ho : o < 32) (hq : q < 32) : f_answ (n ||| (1 <<< (nI o &&& 31))) (nI q) = (f_answ n (nI q) || decide (q = o)) := by
  rw [answ_bt hq, answ_bt hq, b_or, b_shl o ho 1 hq, b_1 (q - o) (by omega)]
  by_cases h : q = o
  · subst h; simp
  · rw [decide_eq_false h]
    by_cases g : o ≤ q
    · rw [decide_eq_false (show ¬ q - o = 0 by omega)]; simp
    · rw [decide_eq_false g]; simp
theorem b_sub {x y : Int32} : x &&& (y ^^^ -1) = 0 ↔ ∀ i, i < 32 → bt x i = true → bt y i = true := by
  constructor
  · intro h i hi hx
    have e : bt (x &&& (y ^^^ -1)) i = false := by rw [h, b_0]
    rw [b_and, b_xor, b_m1 i hi, hx] at e
    cases q : bt y i
    · rw [q] at e; exact absurd e (by decide)
    · rfl
  · intro h
    refine b_ext fun i hi => ?_
    rw [b_and, b_xor, b_m1 i hi, b_0]
    cases q : bt x i
    · rfl
    · rw [h i hi q]; rfl
theorem b_orE {x y : Int32} : x ||| y = y ↔ ∀ i, i < 32 → bt x i = true → bt y i = true := by
  constructor
  · intro h i hi hx
    rw [← h, b_or, hx]; rfl
  · intro h
    refine b_ext fun i hi => ?_
    rw [b_or]
    cases q : bt x i
    · rfl
    · rw [h i hi q]; rfl
theorem b_andE {x y : Int32} : x &&& y = y ↔ ∀ i, i < 32 → bt y i = true → bt x i = true := by
  constructor
  · intro h i hi hx
    have e : bt (x &&& y) i = true := by rw [h]; exact hx
    rw [b_and] at e
    cases q : bt x i
    · rw [q] at e; exact absurd e (by simp)
    · rfl
  · intro h
    refine b_ext fun i hi => ?_
    rw [b_and]
    cases q : bt y i
    · simp
    · rw [h i hi q]; rfl
/-- what suits fits all that the other one fits -/
theorem suits_all {h n h2 n2 u : Int32} (hs : f_suits h n h2 n2 = true) (h1 : u ||| h2 = h2) (h3 : u &&& n2 = n2) : u ||| h = h ∧ u &&& n = n := by
  unfold f_suits at hs
  simp only [Bool.and_eq_true, decide_eq_true_eq] at hs
  rw [b_sub, b_sub] at hs
  rw [b_orE] at h1 ⊢
  rw [b_andE] at h3 ⊢
  exact ⟨fun i hi g => hs.1 i hi (h1 i hi g), fun i hi g => h3 i hi (hs.2 i hi g)⟩
theorem n_and (a b : Nat) : nI a &&& nI b = nI (a &&& b) := by
  apply Int32.toBitVec_inj.1
  show BitVec.ofNat 32 a &&& BitVec.ofNat 32 b = BitVec.ofNat 32 (a &&& b)
  apply BitVec.eq_of_getLsbD_eq
  intro i hi
  simp [hi]
theorem n_or (a b : Nat) : nI a ||| nI b = nI (a ||| b) := by
  apply Int32.toBitVec_inj.1
  show BitVec.ofNat 32 a ||| BitVec.ofNat 32 b = BitVec.ofNat 32 (a ||| b)
  apply BitVec.eq_of_getLsbD_eq
  intro i hi
  simp [hi]
theorem or_256 {a b : Nat} (ha : a < 256) (hb : b < 256) : a ||| b < 256 := Nat.or_lt_two_pow (n := 8) ha hb
theorem and_256 {a : Nat} (ha : a < 256) (b : Nat) : a &&& b < 256 := Nat.lt_of_le_of_lt Nat.and_le_left ha
theorem set_nI {a : Nat} (ha : a < 256) : f_set (nI a) = true := by
  unfold f_set
  rw [decide_eq_false (nI_pos (by omega)), decide_eq_false (show ¬ (255 : Int32) < nI a from fun q => absurd q (nI_nlt (a := 255) (by omega) (by decide)))]
  rfl
theorem owner_nI {a : Nat} (ha : a < 5) : f_owner (nI a) = true := by
  unfold f_owner
  rw [decide_eq_false (nI_pos (by omega)), decide_eq_false (show ¬ (5 : Int32) ≤ nI a from nI_ge (b := 5) ha (by decide))]
  rfl
theorem asked_nI {f : Nat → Int32} {a : Nat} (ha : a < 5) : f_asked f (nI a) = f a := by
  unfold f_asked
  rw [if_neg (fun q => q.elim (nI_pos (by omega)) (nI_ge (b := 5) ha (by decide))), nI_clamp (by omega)]
theorem askok_nI {f : Nat → Int32} {a : Nat} (ha : a < 5) : f_askok f (nI a) = decide (f a = -1) := by
  unfold f_askok
  rw [decide_eq_false (nI_pos (by omega)), decide_eq_false (show ¬ (5 : Int32) ≤ nI a from nI_ge (b := 5) ha (by decide)), nI_clamp (by omega)]
  rfl
theorem shape_nI {a : Nat} (ha : a < 256) (b : Nat) : f_shape (nI a) (nI (a &&& b)) = true := by
  unfold f_shape
  rw [set_nI ha, decide_eq_false (nI_pos (Nat.lt_trans (and_256 ha b) (by decide))), decide_eq_true]
  · rfl
  · rw [b_sub]
    intro i hi g
    rw [← n_and, b_and] at g
    cases q : bt (nI a) i
    · rw [q] at g; exact absurd g (by simp)
    · rfl
/-- fields out of what a version has, with all that it needs -/
theorem fits_nI {u h n : Int32} (hn : n &&& (h ^^^ -1) = 0) : f_fits ((u &&& h) ||| n) h n = true := by
  unfold f_fits
  rw [b_sub] at hn
  rw [decide_eq_true, decide_eq_true]
  · rfl
  · rw [b_sub]
    intro i hi g
    rw [b_or, b_and] at g
    cases q : bt h i
    · rw [q, Bool.and_false, Bool.false_or] at g
      exact absurd (hn i hi g) (by rw [q]; decide)
    · rfl
  · rw [b_sub]
    intro i hi g
    rw [b_or, g, Bool.or_true]
