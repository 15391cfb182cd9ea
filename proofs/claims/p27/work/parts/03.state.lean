/-! ===== the state of a registry: numbers, and the cells that hold them ===== -/
abbrev tyL0 : List FieldType := [.int, .object "ServiceApiary$Face", .object "ServiceApiary$Client", .object "ServiceApiary$Adapter", .object "ServiceApiary$Version", .array .int]
abbrev rmd (d mc ms : Nat) : Room := { frames := d, cells := mc, slots := ms, locals := 64 * d }
/-- a contract without new cells, of a method that gives a value back; d: how deep it calls -/
abbrev Ci (l : Launch) (D : va_G) (dA : Nat → ClassId) (B : Nat) (y : MethodName) (ws : List Cond) (d : Nat) (av : List Value) (w : xW) (post : Value → xW → Prop) : Prop := x_Ci l D dA vwCl tyL0 B y ws (rmd d 0 0) av w post 0 0
abbrev Cv (l : Launch) (D : va_G) (dA : Nat → ClassId) (B : Nat) (y : MethodName) (ws : List Cond) (d : Nat) (av : List Value) (w : xW) (post : xW → Prop) : Prop := x_Cv l D dA vwCl tyL0 B y ws (rmd d 0 0) av w post 0 0
def x_b (b : Bool) : Int32 := if b then 1 else 0
theorem x_b_t {b : Bool} (h : b = true) : (1 : Int32) = x_b b := by subst h; rfl
theorem x_b_f {b : Bool} (h : b = false) : (0 : Int32) = x_b b := by subst h; rfl
theorem x_b_ne {b : Bool} : ¬ x_b b = 0 ↔ b = true := by cases b <;> decide
theorem x_b_eq {b : Bool} : x_b b = 0 ↔ b = false := by cases b <;> decide
theorem x_b_nar {b : Bool} : narrow .boolean (.int (x_b b)) = .int (x_b b) := by cases b <;> rfl
theorem x_set_set (w : xW) (a : Nat) (x y : xE) : x_set (x_set w a x) a y = x_set w a y := by
  funext b
  by_cases h : b = a
  · subst h; rw [x_set_eq, x_set_eq]
  · rw [x_set_ne _ _ h, x_set_ne _ _ h, x_set_ne _ _ h]
theorem x_set_self {w : xW} {a : Nat} {x : xE} (h : w a = some x) : x_set w a x = w := by
  funext b
  by_cases hb : b = a
  · subst hb; rw [x_set_eq, h]
  · rw [x_set_ne _ _ hb]
abbrev aI (n : Nat) (f : Nat → Int32) : xE := .inl (0, n, .inl f)
abbrev aF (n : Nat) (f : Nat → Option Nat) : xE := .inl (1, n, .inr (.inr (.inr (.inr f))))
abbrev aC (n : Nat) (f : Nat → Option Nat) : xE := .inl (2, n, .inr (.inr (.inr (.inr f))))
abbrev aA (n : Nat) (f : Nat → Option Nat) : xE := .inl (3, n, .inr (.inr (.inr (.inr f))))
abbrev aV (n : Nat) (f : Nat → Option Nat) : xE := .inl (4, n, .inr (.inr (.inr (.inr f))))
abbrev oRet (ka : Nat) (b e n : Int32) : xE := .inr (3, [.ref ka, .int b, .int e, .int n])
abbrev oVer (fa : Nat) (n h q : Int32) (ra : Nat) (s p x y : Int32) : xE := .inr (5, [.ref fa, .int n, .int h, .int q, .ref ra, .int s, .int p, .int x, .int y])
abbrev oRou (a : Nat) (n k m : Int32) (v : Option Nat) : xE := .inr (4, [.ref a, .int n, .int k, .int m, va_rf v])
/-- what is held: how many (0 interfaces, 1 clients, 2 adapters, 3 + f the versions of the interface f); 0 NOW, 1 calls, 2 refused, 3 by a route; of a version 6 f + k: 0 has, 1 needs, 2 state, 3 put off, 4 calls, 5 refused, 6 began, 7 end, 8 answered; asked at; of a client: 0 owner, 1 uses, 2 calls, 3 refused; called at; served; its version; of an adapter: 0 adds, 1 drops; from; to -/
abbrev kT : Type := (Nat → Nat) × (Nat → Int32) × (Nat → Nat → Int32) × (Nat → Nat → Int32) × (Nat → Nat → Int32) × (Nat → Nat → Int32) × (Nat → Nat → Int32) × (Nat → Nat) × (Nat → Nat → Int32) × (Nat → Nat) × (Nat → Nat)
def kN (K : kT) : Nat → Nat := K.1
def kG (K : kT) : Nat → Int32 := K.2.1
def kV (K : kT) : Nat → Nat → Int32 := K.2.2.1
def kVA (K : kT) : Nat → Nat → Int32 := K.2.2.2.1
def kC (K : kT) : Nat → Nat → Int32 := K.2.2.2.2.1
def kCL (K : kT) : Nat → Nat → Int32 := K.2.2.2.2.2.1
def kCS (K : kT) : Nat → Nat → Int32 := K.2.2.2.2.2.2.1
def kCV (K : kT) : Nat → Nat := K.2.2.2.2.2.2.2.1
def kA (K : kT) : Nat → Nat → Int32 := K.2.2.2.2.2.2.2.2.1
def kAF (K : kT) : Nat → Nat := K.2.2.2.2.2.2.2.2.2.1
def kAT (K : kT) : Nat → Nat := K.2.2.2.2.2.2.2.2.2.2
abbrev nf (K : kT) : Nat := kN K 0
abbrev nc (K : kT) : Nat := kN K 1
abbrev na (K : kT) : Nat := kN K 2
abbrev nv (K : kT) (f : Nat) : Nat := kN K (3 + f)
def vOk (K : kT) (i : Nat) : Prop := i / 6 < nf K ∧ i % 6 < nv K (i / 6)
/-- what no call shows: the route that was looked for last (its steps; length, where it leads, what it makes; shut), the trial (asked at; began, end, answered) -/
abbrev jT : Type := (Nat → Int32) × (Nat → Int32) × Option Nat × (Nat → Int32) × (Nat → Int32)
/-- the cells: by kind and number, what lies there; Z: their addresses -/
def obj (Z : Nat → Nat → Nat) (K : kT) (J : jT) (kind idx : Nat) : xE := match kind with
  | 0 => .inr (6, [.ref (Z 1 0), .ref (Z 2 0), .ref (Z 3 0), .int (nI (nf K)), .int (nI (nc K)), .int (nI (na K)), .int (kG K 0), .int (kG K 1), .int (kG K 2), .int (kG K 3), .ref (Z 4 0), .ref (Z 6 0)])
  | 1 => aF 4 (fun j => if j < nf K then some (Z 8 j) else none)
  | 2 => aC 10 (fun j => if j < nc K then some (Z 13 j) else none)
  | 3 => aA 10 (fun j => if j < na K then some (Z 16 j) else none)
  | 4 => oRou (Z 5 0) (J.2.1 0) (J.2.1 1) (J.2.1 2) J.2.2.1
  | 5 => aI 3 J.1
  | 6 => oRet (Z 7 0) (J.2.2.2.2 0) (J.2.2.2.2 1) (J.2.2.2.2 2)
  | 7 => aI 5 J.2.2.2.1
  | 8 => .inr (2, [.int (nI idx), .ref (Z 9 idx), .int (nI (nv K idx))])
  | 9 => aV 6 (fun j => if j < nv K idx then some (Z 10 (6 * idx + j)) else none)
  | 10 => .inr (5, [.ref (Z 8 (idx / 6)), .int (nI (idx % 6)), .int (kV K idx 0), .int (kV K idx 1), .ref (Z 11 idx), .int (kV K idx 2), .int (kV K idx 3), .int (kV K idx 4), .int (kV K idx 5)])
  | 11 => oRet (Z 12 idx) (kV K idx 6) (kV K idx 7) (kV K idx 8)
  | 12 => aI 5 (kVA K idx)
  | 13 => .inr (1, [.int (kC K idx 0), .ref (Z 8 (kCV K idx / 6)), .ref (Z 14 idx), .ref (Z 15 idx), .ref (Z 10 (kCV K idx)), .int (kC K idx 1), .int (kC K idx 2), .int (kC K idx 3)])
  | 14 => aI 6 (kCL K idx)
  | 15 => aI 6 (kCS K idx)
  | _ => .inr (0, [.ref (Z 10 (kAF K idx)), .ref (Z 10 (kAT K idx)), .int (kA K idx 0), .int (kA K idx 1)])
def live (K : kT) (kind idx : Nat) : Prop := match kind with
  | 0 | 1 | 2 | 3 | 4 | 5 | 6 | 7 => idx = 0
  | 8 | 9 => idx < nf K
  | 10 | 11 | 12 => vOk K idx
  | 13 | 14 | 15 => idx < nc K
  | 16 => idx < na K
  | _ => False
def kWf (K : kT) : Prop := nf K ≤ 4 ∧ (∀ f, f < nf K → nv K f ≤ 6) ∧ nc K ≤ 10 ∧ na K ≤ 10 ∧ (∀ k, k < nc K → vOk K (kCV K k)) ∧ ∀ k, k < na K → vOk K (kAF K k) ∧ vOk K (kAT K k)
def Rep (Z : Nat → Nat → Nat) (K : kT) (J : jT) (w : xW) : Prop :=
  (∀ kind idx, live K kind idx → w (Z kind idx) = some (obj Z K J kind idx)) ∧ (∀ k1 i1 k2 i2, live K k1 i1 → live K k2 i2 → Z k1 i1 = Z k2 i2 → k1 = k2 ∧ i1 = i2) ∧ kWf K
section RP
variable {Z : Nat → Nat → Nat} {K : kT} {J : jT} {w : xW}
theorem Rep.main (h : Rep Z K J w) : w (Z 0 0) = some (.inr (6, [.ref (Z 1 0), .ref (Z 2 0), .ref (Z 3 0), .int (nI (nf K)), .int (nI (nc K)), .int (nI (na K)), .int (kG K 0), .int (kG K 1), .int (kG K 2), .int (kG K 3), .ref (Z 4 0), .ref (Z 6 0)])) := h.1 0 0 rfl
theorem Rep.faces (h : Rep Z K J w) : w (Z 1 0) = some (aF 4 (fun j => if j < nf K then some (Z 8 j) else none)) := h.1 1 0 rfl
theorem Rep.clients (h : Rep Z K J w) : w (Z 2 0) = some (aC 10 (fun j => if j < nc K then some (Z 13 j) else none)) := h.1 2 0 rfl
theorem Rep.adapters (h : Rep Z K J w) : w (Z 3 0) = some (aA 10 (fun j => if j < na K then some (Z 16 j) else none)) := h.1 3 0 rfl
theorem Rep.route (h : Rep Z K J w) : w (Z 4 0) = some (oRou (Z 5 0) (J.2.1 0) (J.2.1 1) (J.2.1 2) J.2.2.1) := h.1 4 0 rfl
theorem Rep.steps (h : Rep Z K J w) : w (Z 5 0) = some (aI 3 J.1) := h.1 5 0 rfl
theorem Rep.face (h : Rep Z K J w) {f : Nat} (hf : f < nf K) : w (Z 8 f) = some (.inr (2, [.int (nI f), .ref (Z 9 f), .int (nI (nv K f))])) := h.1 8 f hf
theorem Rep.fvs (h : Rep Z K J w) {f : Nat} (hf : f < nf K) : w (Z 9 f) = some (aV 6 (fun j => if j < nv K f then some (Z 10 (6 * f + j)) else none)) := h.1 9 f hf
theorem Rep.ver (h : Rep Z K J w) {i : Nat} (hi : vOk K i) : w (Z 10 i) = some (.inr (5, [.ref (Z 8 (i / 6)), .int (nI (i % 6)), .int (kV K i 0), .int (kV K i 1), .ref (Z 11 i), .int (kV K i 2), .int (kV K i 3), .int (kV K i 4), .int (kV K i 5)])) := h.1 10 i hi
theorem Rep.ret (h : Rep Z K J w) {i : Nat} (hi : vOk K i) : w (Z 11 i) = some (oRet (Z 12 i) (kV K i 6) (kV K i 7) (kV K i 8)) := h.1 11 i hi
theorem Rep.ask (h : Rep Z K J w) {i : Nat} (hi : vOk K i) : w (Z 12 i) = some (aI 5 (kVA K i)) := h.1 12 i hi
theorem Rep.cli (h : Rep Z K J w) {k : Nat} (hk : k < nc K) : w (Z 13 k) = some (.inr (1, [.int (kC K k 0), .ref (Z 8 (kCV K k / 6)), .ref (Z 14 k), .ref (Z 15 k), .ref (Z 10 (kCV K k)), .int (kC K k 1), .int (kC K k 2), .int (kC K k 3)])) := h.1 13 k hk
theorem Rep.cla (h : Rep Z K J w) {k : Nat} (hk : k < nc K) : w (Z 14 k) = some (aI 6 (kCL K k)) := h.1 14 k hk
theorem Rep.csv (h : Rep Z K J w) {k : Nat} (hk : k < nc K) : w (Z 15 k) = some (aI 6 (kCS K k)) := h.1 15 k hk
theorem Rep.ada (h : Rep Z K J w) {k : Nat} (hk : k < na K) : w (Z 16 k) = some (.inr (0, [.ref (Z 10 (kAF K k)), .ref (Z 10 (kAT K k)), .int (kA K k 0), .int (kA K k 1)])) := h.1 16 k hk
theorem Rep.cv (h : Rep Z K J w) {k : Nat} (hk : k < nc K) : vOk K (kCV K k) := h.2.2.2.2.2.2.1 k hk
theorem Rep.af (h : Rep Z K J w) {k : Nat} (hk : k < na K) : vOk K (kAF K k) := (h.2.2.2.2.2.2.2 k hk).1
theorem Rep.at (h : Rep Z K J w) {k : Nat} (hk : k < na K) : vOk K (kAT K k) := (h.2.2.2.2.2.2.2 k hk).2
theorem Rep.nf4 (h : Rep Z K J w) : nf K ≤ 4 := h.2.2.1
theorem Rep.nv6 (h : Rep Z K J w) {f : Nat} (hf : f < nf K) : nv K f ≤ 6 := h.2.2.2.1 f hf
theorem Rep.nc10 (h : Rep Z K J w) : nc K ≤ 10 := h.2.2.2.2.1
theorem Rep.na10 (h : Rep Z K J w) : na K ≤ 10 := h.2.2.2.2.2.1
theorem Rep.inj (h : Rep Z K J w) {k1 i1 k2 i2 : Nat} (h1 : live K k1 i1) (h2 : live K k2 i2) (he : Z k1 i1 = Z k2 i2) : k1 = k2 ∧ i1 = i2 := h.2.1 k1 i1 k2 i2 h1 h2 he
theorem Rep.veq (h : Rep Z K J w) {i j : Nat} (hi : vOk K i) (hj : vOk K j) : Z 10 i = Z 10 j ↔ i = j := ⟨fun e => (h.inj (k1 := 10) (k2 := 10) hi hj e).2, fun e => by rw [e]⟩
theorem Rep.feq (h : Rep Z K J w) {i j : Nat} (hi : i < nf K) (hj : j < nf K) : Z 8 i = Z 8 j ↔ i = j := ⟨fun e => (h.inj (k1 := 8) (k2 := 8) hi hj e).2, fun e => by rw [e]⟩
/-- one cell changes -/
theorem Rep.put (h : Rep Z K J w) {K1 : kT} {J1 : jT} {kind idx : Nat} (hl : live K kind idx) (hN : kN K1 = kN K) (hC : kCV K1 = kCV K) (hF : kAF K1 = kAF K) (hT : kAT K1 = kAT K)
    (ho : ∀ k2 i2, live K k2 i2 → ¬ (k2 = kind ∧ i2 = idx) → obj Z K1 J1 k2 i2 = obj Z K J k2 i2) {x : xE} (hx : x = obj Z K1 J1 kind idx) : Rep Z K1 J1 (x_set w (Z kind idx) x) := by
  subst hx
  have hvo : ∀ i, vOk K1 i ↔ vOk K i := fun i => by unfold vOk; simp only [nf, nv, hN]
  have hlv : ∀ k i, live K1 k i ↔ live K k i := fun k i => by
    unfold live vOk
    split <;> first | exact Iff.rfl | simp only [nf, nc, na, nv, hN]
  refine ⟨fun k2 i2 h2 => ?_, fun k1 i1 k2 i2 h1 h2 e => h.2.1 k1 i1 k2 i2 ((hlv _ _).mp h1) ((hlv _ _).mp h2) e, ?_⟩
  · have h2' := (hlv _ _).mp h2
    by_cases hc : k2 = kind ∧ i2 = idx
    · obtain ⟨rfl, rfl⟩ := hc
      exact x_set_eq _ _ _
    · rw [x_set_ne _ _ (fun e => hc (h.inj h2' hl e)), h.1 _ _ h2', ho k2 i2 h2' hc]
  · obtain ⟨a1, a2, a3, a4, a5, a6⟩ := h.2.2
    unfold kWf
    simp only [nf, nc, na, nv, hN, hC, hF, hT]
    exact ⟨a1, a2, a3, a4, fun k hk => (hvo _).mpr (a5 k hk), fun k hk => ⟨(hvo _).mpr (a6 k hk).1, (hvo _).mpr (a6 k hk).2⟩⟩
/-- the other cells of the world stay -/
def Oth (Z : Nat → Nat → Nat) (K : kT) (w w1 : xW) : Prop := ∀ a, (∀ kind idx, live K kind idx → ¬ a = Z kind idx) → w1 a = w a
theorem Oth.rfl : Oth Z K w w := fun _ _ => Eq.refl _
theorem Oth.trans {w1 w2 : xW} {K1 : kT} (h : Oth Z K w w1) (h1 : Oth Z K1 w1 w2) (hN : kN K1 = kN K) : Oth Z K w w2 := by
  intro a ha
  have hlv : ∀ k i, live K1 k i → live K k i := fun k i => by
    unfold live vOk
    split <;> first | exact id | (simp only [nf, nc, na, nv, hN]; exact id)
  rw [h1 a (fun k i q => ha k i (hlv k i q)), h a ha]
theorem Oth.set {kind idx : Nat} (hl : live K kind idx) (x : xE) : Oth Z K w (x_set w (Z kind idx) x) := fun a ha => x_set_ne _ _ (ha kind idx hl)
end RP
