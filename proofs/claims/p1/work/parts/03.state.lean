/-! ===== a new registry of the class, and one of the reference ===== -/
abbrev tyL1 : List FieldType := [.int, .object "ServiceApiary$Face", .object "ServiceApiary$Client", .object "ServiceApiary$Adapter", .object "ServiceApiary$Version", .long, .object "java/lang/Object"]
abbrev rmd (d mc ms : Nat) : Room := { frames := d, cells := mc, slots := ms, locals := 64 * d }
abbrev Ci (l : Launch) (D : va_G) (dA : Nat → ClassId) (B : Nat) (y : MethodName) (ws : List Cond) (d : Nat) (av : List Value) (w : xW) (post : Value → xW → Prop) : Prop := x_Ci l D dA vwC1 tyL1 B y ws (rmd d 0 0) av w post 0 0
abbrev Cv (l : Launch) (D : va_G) (dA : Nat → ClassId) (B : Nat) (y : MethodName) (ws : List Cond) (d : Nat) (av : List Value) (w : xW) (post : xW → Prop) : Prop := x_Cv l D dA vwC1 tyL1 B y ws (rmd d 0 0) av w post 0 0
abbrev Th (l : Launch) (D : va_G) (dA : Nat → ClassId) (B : Nat) (y : MethodName) (ws : List Cond) (d : Nat) (av : List Value) (w : xW) (E : String) : Prop := x_Th l D dA vwC1 tyL1 B y ws (rmd d 1 6) av w E 1 6
def x_b (b : Bool) : Int32 := if b then 1 else 0
theorem x_b_t {b : Bool} (h : b = true) : (1 : Int32) = x_b b := by subst h; rfl
theorem x_b_f {b : Bool} (h : b = false) : (0 : Int32) = x_b b := by subst h; rfl
theorem x_b_ne {b : Bool} : ¬ x_b b = 0 ↔ b = true := by cases b <;> decide
theorem x_b_eq {b : Bool} : x_b b = 0 ↔ b = false := by cases b <;> decide
theorem x_b_nar {b : Bool} : narrow .boolean (.int (x_b b)) = .int (x_b b) := by cases b <;> rfl
theorem x_set_set (w : xW) (a : Nat) (x y : xE) : x_set (x_set w a x) a y = x_set w a y := by
  funext b
  by_cases h : b = a
  · subst h; rw [x_set_eq, x_set_eq]
  · rw [x_set_ne _ _ h, x_set_ne _ _ h, x_set_ne _ _ h]
theorem x_set_self {w : xW} {a : Nat} {x : xE} (h : w a = some x) : x_set w a x = w := by
  funext b
  by_cases hb : b = a
  · subst hb; rw [x_set_eq, h]
  · rw [x_set_ne _ _ hb]
/-- a world without its new cells -/
theorem x_less {w w2 : xW} {a : Nat} {y : xE} (h : w a = none) (hw : w2 = x_set w a y) : ∀ b x, w b = some x → w2 b = some x := fun b x hx => by
  rw [hw, x_set_ne _ _ (fun e => by rw [e, h] at hx; cases hx)]
  exact hx
abbrev aI (n : Nat) (f : Nat → Int32) : xE := .inl (0, n, .inl f)
abbrev aF (n : Nat) (f : Nat → Option Nat) : xE := .inl (1, n, .inr (.inr (.inr (.inr f))))
abbrev aC (n : Nat) (f : Nat → Option Nat) : xE := .inl (2, n, .inr (.inr (.inr (.inr f))))
abbrev aA (n : Nat) (f : Nat → Option Nat) : xE := .inl (3, n, .inr (.inr (.inr (.inr f))))
abbrev aV (n : Nat) (f : Nat → Option Nat) : xE := .inl (4, n, .inr (.inr (.inr (.inr f))))
abbrev aL (n : Nat) (f : Nat → Int64) : xE := .inl (5, n, .inr (.inl f))
abbrev aO (n : Nat) (f : Nat → Option Nat) : xE := .inl (6, n, .inr (.inr (.inr (.inr f))))
/-- the class's main object; f how many interfaces, n the hour -/
abbrev oX (F C A Ro Tr : Nat) (f n : Int32) : xE := .inr (5, [.ref F, .ref C, .ref A, .int f, .int 0, .int 0, .int n, .int 0, .int 0, .int 0, .ref Ro, .ref Tr])
/-- a new registry of the class in the hour n -/
def FR (w : xW) (M F C A Ro Tr : Nat) (n : Int32) : Prop := w M = some (oX F C A Ro Tr 0 n) ∧ w F = some (aF 4 (fun _ => none)) ∧ w C = some (aC 10 (fun _ => none))
/-- the reference: its front, its registry, an empty list -/
abbrev oM (t : Int32) (r : Nat) : xE := .inr (7, [.int t, .ref r])
abbrev oR (a b c d : Nat) (n : Int32) : xE := .inr (6, [.ref a, .ref b, .ref c, .ref d, .int n])
abbrev oE (e : Nat) : xE := .inr (1, [.int 0, .ref e, .int 0])
def MR (w : xW) (e m r a b c d : Nat) (t n : Int32) : Prop := w m = some (oM t r) ∧ w r = some (oR a b c d n) ∧ w a = some (oE e) ∧ w b = some (oE e) ∧ w c = some (oE e) ∧ w d = some (oE e)
/-- no cell of the reference's is the class's -/
theorem w_ne {w : xW} {a b : Nat} {x y : xE} (ha : w a = some x) (hb : w b = some y) (h : ¬ x = y) : ¬ a = b := fun e => by
  subst e
  exact h (Option.some.inj (ha.symm.trans hb))
theorem w_neN {w : xW} {a b : Nat} {x : xE} (ha : w a = some x) (hb : w b = none) : ¬ a = b := fun e => by
  subst e
  rw [ha] at hb
  cases hb
theorem ne75 {x y : List Value} : ¬ (Sum.inr (7, x) : xE) = .inr (5, y) := fun h => by cases h
theorem ne76 {x y : List Value} : ¬ (Sum.inr (7, x) : xE) = .inr (6, y) := fun h => by cases h
theorem ne71 {x y : List Value} : ¬ (Sum.inr (7, x) : xE) = .inr (1, y) := fun h => by cases h
theorem ne61 {x y : List Value} : ¬ (Sum.inr (6, x) : xE) = .inr (1, y) := fun h => by cases h
theorem MR.setT {w : xW} {e m r a b c d : Nat} {t n : Int32} (h : MR w e m r a b c d t n) (t2 : Int32) : MR (x_set w m (oM t2 r)) e m r a b c d t2 n := by
  obtain ⟨h0, h1, h2, h3, h4, h5⟩ := h
  exact ⟨x_set_eq _ _ _, by rw [x_set_ne _ _ (fun q => w_ne h0 h1 ne76 q.symm)]; exact h1, by rw [x_set_ne _ _ (fun q => w_ne h0 h2 ne71 q.symm)]; exact h2, by rw [x_set_ne _ _ (fun q => w_ne h0 h3 ne71 q.symm)]; exact h3, by rw [x_set_ne _ _ (fun q => w_ne h0 h4 ne71 q.symm)]; exact h4, by rw [x_set_ne _ _ (fun q => w_ne h0 h5 ne71 q.symm)]; exact h5⟩
theorem MR.setN {w : xW} {e m r a b c d : Nat} {t n : Int32} (h : MR w e m r a b c d t n) (n2 : Int32) : MR (x_set w r (oR a b c d n2)) e m r a b c d t n2 := by
  obtain ⟨h0, h1, h2, h3, h4, h5⟩ := h
  exact ⟨by rw [x_set_ne _ _ (w_ne h0 h1 ne76)]; exact h0, x_set_eq _ _ _, by rw [x_set_ne _ _ (fun q => w_ne h1 h2 ne61 q.symm)]; exact h2, by rw [x_set_ne _ _ (fun q => w_ne h1 h3 ne61 q.symm)]; exact h3, by rw [x_set_ne _ _ (fun q => w_ne h1 h4 ne61 q.symm)]; exact h4, by rw [x_set_ne _ _ (fun q => w_ne h1 h5 ne61 q.symm)]; exact h5⟩
theorem FR.setN {w : xW} {M F C A Ro Tr : Nat} {n : Int32} (h : FR w M F C A Ro Tr n) (n2 : Int32) : FR (x_set w M (oX F C A Ro Tr 0 n2)) M F C A Ro Tr n2 := by
  obtain ⟨h0, h1, h2⟩ := h
  exact ⟨x_set_eq _ _ _, by rw [x_set_ne _ _ (fun q => w_ne h1 h0 (fun z => by cases z) q)]; exact h1, by rw [x_set_ne _ _ (fun q => w_ne h2 h0 (fun z => by cases z) q)]; exact h2⟩
theorem x_in0 {i m2 : Int32} {n : Nat} (hm : m2.toInt = n) (h1 : ¬ i < 0) (h2 : ¬ m2 ≤ i) : vp_in i n := x_in hm h1 h2
theorem le10 {t : Nat} (h : t ≤ 10) : t = 0 ∨ t = 1 ∨ t = 2 ∨ t = 3 ∨ t = 4 ∨ t = 5 ∨ t = 6 ∨ t = 7 ∨ t = 8 ∨ t = 9 ∨ t = 10 := by omega
/-- the checksum of a new registry -/
def f_dg (n : Nat) (d : Int64) : Int64 := match n with
  | 0 => d
  | n + 1 => f_dg n (d * 31 + (0 : Int32).toInt64)
