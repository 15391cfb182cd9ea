/-! ===== what changes the state ===== -/
section MUT
variable {l : Launch} {D : va_G} {dA : Nat → ClassId} {B : Nat} {Z : Nat → Nat → Nat} {K : kT} {J : jT} {w : xW}
def kPutG (K : kT) (j : Nat) (x : Int32) : kT := (K.1, (fun b => if b = j then x else kG K b), K.2.2)
def kPutV (K : kT) (i j : Nat) (x : Int32) : kT := (K.1, K.2.1, (fun a b => if b = j ∧ a = i then x else kV K a b), K.2.2.2)
def kPutVA (K : kT) (i : Nat) (f : Nat → Int32) : kT := (K.1, K.2.1, K.2.2.1, (fun a => if a = i then f else kVA K a), K.2.2.2.2)
def kPutC (K : kT) (i j : Nat) (x : Int32) : kT := (K.1, K.2.1, K.2.2.1, K.2.2.2.1, (fun a b => if b = j ∧ a = i then x else kC K a b), K.2.2.2.2.2)
def kPutCL (K : kT) (i : Nat) (f : Nat → Int32) : kT := (K.1, K.2.1, K.2.2.1, K.2.2.2.1, K.2.2.2.2.1, (fun a => if a = i then f else kCL K a), K.2.2.2.2.2.2)
def kPutCS (K : kT) (i : Nat) (f : Nat → Int32) : kT := (K.1, K.2.1, K.2.2.1, K.2.2.2.1, K.2.2.2.2.1, K.2.2.2.2.2.1, (fun a => if a = i then f else kCS K a), K.2.2.2.2.2.2.2)
def kPutCV (K : kT) (i v : Nat) : kT := (K.1, K.2.1, K.2.2.1, K.2.2.2.1, K.2.2.2.2.1, K.2.2.2.2.2.1, K.2.2.2.2.2.2.1, (fun a => if a = i then v else kCV K a), K.2.2.2.2.2.2.2.2)
theorem kG_put (K : kT) (j : Nat) (x : Int32) (b : Nat) : kG (kPutG K j x) b = if b = j then x else kG K b := rfl
theorem kV_put (K : kT) (i j : Nat) (x : Int32) (a b : Nat) : kV (kPutV K i j x) a b = if b = j ∧ a = i then x else kV K a b := rfl
theorem kVA_put (K : kT) (i : Nat) (f : Nat → Int32) (a : Nat) : kVA (kPutVA K i f) a = if a = i then f else kVA K a := rfl
theorem kC_put (K : kT) (i j : Nat) (x : Int32) (a b : Nat) : kC (kPutC K i j x) a b = if b = j ∧ a = i then x else kC K a b := rfl
theorem kCL_put (K : kT) (i : Nat) (f : Nat → Int32) (a : Nat) : kCL (kPutCL K i f) a = if a = i then f else kCL K a := rfl
theorem kCS_put (K : kT) (i : Nat) (f : Nat → Int32) (a : Nat) : kCS (kPutCS K i f) a = if a = i then f else kCS K a := rfl
theorem kCV_put (K : kT) (i v a : Nat) : kCV (kPutCV K i v) a = if a = i then v else kCV K a := rfl
theorem kPutVA_self (K : kT) (i : Nat) : kPutVA K i (kVA K i) = K := by
  obtain ⟨a, b, c, d, e⟩ := K
  have : (fun q => if q = i then d i else d q) = d := by funext q; by_cases h : q = i <;> simp [h]
  simp only [kPutVA, kVA, this]
theorem kPutVA_twice (K : kT) (i : Nat) (f g : Nat → Int32) : kPutVA (kPutVA K i f) i g = kPutVA K i g := by
  obtain ⟨a, b, c, d, e⟩ := K
  have : (fun q => if q = i then g else if q = i then f else d q) = fun q => if q = i then g else d q := by funext q; by_cases h : q = i <;> simp [h]
  simp only [kPutVA, kVA, this]
theorem kPutC_self {K : kT} {i j : Nat} {x : Int32} (h : x = kC K i j) : kPutC K i j x = K := by
  subst h
  obtain ⟨a, b, c, d, e, f⟩ := K
  have : (fun p q => if q = j ∧ p = i then e i j else e p q) = e := by
    funext p q
    by_cases h : q = j ∧ p = i
    · rw [if_pos h, h.1, h.2]
    · rw [if_neg h]
  simp only [kPutC, kC, this]
theorem kPutV_self {K : kT} {i j : Nat} {x : Int32} (h : x = kV K i j) : kPutV K i j x = K := by
  subst h
  obtain ⟨a, b, c, d⟩ := K
  have : (fun p q => if q = j ∧ p = i then c i j else c p q) = c := by
    funext p q
    by_cases h : q = j ∧ p = i
    · rw [if_pos h, h.1, h.2]
    · rw [if_neg h]
  simp only [kPutV, kV, this]
theorem kPutG_self {K : kT} {j : Nat} {x : Int32} (h : x = kG K j) : kPutG K j x = K := by
  subst h
  obtain ⟨a, b, c⟩ := K
  have : (fun q => if q = j then b j else b q) = b := by funext q; by_cases h : q = j <;> simp [h]
  simp only [kPutG, kG, this]
theorem Rep.putG (h : Rep Z K J w) (j : Nat) (x : Int32) {c : xE} (hc : c = obj Z (kPutG K j x) J 0 0) : Rep Z (kPutG K j x) J (x_set w (Z 0 0) c) := by
  refine h.put (K1 := kPutG K j x) (J1 := J) (kind := 0) (idx := 0) (rfl : live K 0 0) rfl rfl rfl rfl (fun k2 i2 g1 g2 => ?_) hc
  rcases k2 with _ | _ | _ | _ | _ | _ | _ | _ | _ | _ | _ | _ | _ | _ | _ | _ | k2 <;> first | rfl | exact absurd ⟨rfl, g1⟩ g2
theorem Rep.putV (h : Rep Z K J w) {i : Nat} (hi : vOk K i) (j : Nat) (hj : j < 6) (x : Int32) {c : xE} (hc : c = obj Z (kPutV K i j x) J 10 i) : Rep Z (kPutV K i j x) J (x_set w (Z 10 i) c) := by
  refine h.put (K1 := kPutV K i j x) (J1 := J) (kind := 10) (idx := i) hi rfl rfl rfl rfl (fun k2 i2 g1 g2 => ?_) hc
  rcases k2 with _ | _ | _ | _ | _ | _ | _ | _ | _ | _ | _ | _ | _ | _ | _ | _ | k2
  all_goals first
    | rfl
    | (have hi2 : ¬ i2 = i := fun e => g2 ⟨rfl, e⟩
       simp [obj, kV_put, hi2]; done)
    | (simp [obj, kV_put, show ¬ 6 = j by omega, show ¬ 7 = j by omega, show ¬ 8 = j by omega]; done)
theorem Rep.putR (h : Rep Z K J w) {i : Nat} (hi : vOk K i) (j : Nat) (hj : 6 ≤ j) (x : Int32) {c : xE} (hc : c = obj Z (kPutV K i j x) J 11 i) : Rep Z (kPutV K i j x) J (x_set w (Z 11 i) c) := by
  refine h.put (K1 := kPutV K i j x) (J1 := J) (kind := 11) (idx := i) hi rfl rfl rfl rfl (fun k2 i2 g1 g2 => ?_) hc
  rcases k2 with _ | _ | _ | _ | _ | _ | _ | _ | _ | _ | _ | _ | _ | _ | _ | _ | k2
  all_goals first
    | rfl
    | (have hi2 : ¬ i2 = i := fun e => g2 ⟨rfl, e⟩
       simp [obj, kV_put, hi2]; done)
    | (simp [obj, kV_put, show ¬ 0 = j by omega, show ¬ 1 = j by omega, show ¬ 2 = j by omega, show ¬ 3 = j by omega, show ¬ 4 = j by omega, show ¬ 5 = j by omega]; done)
theorem Rep.putVA (h : Rep Z K J w) {i : Nat} (hi : vOk K i) (f : Nat → Int32) : Rep Z (kPutVA K i f) J (x_set w (Z 12 i) (aI 5 f)) := by
  refine h.put (K1 := kPutVA K i f) (J1 := J) (kind := 12) (idx := i) hi rfl rfl rfl rfl (fun k2 i2 g1 g2 => ?_) (by show aI 5 f = aI 5 (kVA (kPutVA K i f) i); rw [kVA_put, if_pos rfl])
  rcases k2 with _ | _ | _ | _ | _ | _ | _ | _ | _ | _ | _ | _ | _ | _ | _ | _ | k2
  all_goals first
    | rfl
    | (have hi2 : ¬ i2 = i := fun e => g2 ⟨rfl, e⟩
       simp [obj, kVA_put, hi2]; done)
theorem Rep.putC (h : Rep Z K J w) {k : Nat} (hk : k < nc K) (j : Nat) (x : Int32) {c : xE} (hc : c = obj Z (kPutC K k j x) J 13 k) : Rep Z (kPutC K k j x) J (x_set w (Z 13 k) c) := by
  refine h.put (K1 := kPutC K k j x) (J1 := J) (kind := 13) (idx := k) hk rfl rfl rfl rfl (fun k2 i2 g1 g2 => ?_) hc
  rcases k2 with _ | _ | _ | _ | _ | _ | _ | _ | _ | _ | _ | _ | _ | _ | _ | _ | k2
  all_goals first
    | rfl
    | (have hi2 : ¬ i2 = k := fun e => g2 ⟨rfl, e⟩
       simp [obj, kC_put, hi2]; exact ⟨rfl, rfl⟩)
theorem Rep.putCL (h : Rep Z K J w) {k : Nat} (hk : k < nc K) (f : Nat → Int32) : Rep Z (kPutCL K k f) J (x_set w (Z 14 k) (aI 6 f)) := by
  refine h.put (K1 := kPutCL K k f) (J1 := J) (kind := 14) (idx := k) hk rfl rfl rfl rfl (fun k2 i2 g1 g2 => ?_) (by show aI 6 f = aI 6 (kCL (kPutCL K k f) k); rw [kCL_put, if_pos rfl])
  rcases k2 with _ | _ | _ | _ | _ | _ | _ | _ | _ | _ | _ | _ | _ | _ | _ | _ | k2
  all_goals first
    | rfl
    | (have hi2 : ¬ i2 = k := fun e => g2 ⟨rfl, e⟩
       simp [obj, kCL_put, hi2]; done)
theorem Rep.putCS (h : Rep Z K J w) {k : Nat} (hk : k < nc K) (f : Nat → Int32) : Rep Z (kPutCS K k f) J (x_set w (Z 15 k) (aI 6 f)) := by
  refine h.put (K1 := kPutCS K k f) (J1 := J) (kind := 15) (idx := k) hk rfl rfl rfl rfl (fun k2 i2 g1 g2 => ?_) (by show aI 6 f = aI 6 (kCS (kPutCS K k f) k); rw [kCS_put, if_pos rfl])
  rcases k2 with _ | _ | _ | _ | _ | _ | _ | _ | _ | _ | _ | _ | _ | _ | _ | _ | k2
  all_goals first
    | rfl
    | (have hi2 : ¬ i2 = k := fun e => g2 ⟨rfl, e⟩
       simp [obj, kCS_put, hi2]; done)
theorem kN_ofG (K : kT) (j : Nat) (x : Int32) : kN (kPutG K j x) = kN K := rfl
theorem kV_ofG (K : kT) (j : Nat) (x : Int32) : kV (kPutG K j x) = kV K := rfl
theorem kVA_ofG (K : kT) (j : Nat) (x : Int32) : kVA (kPutG K j x) = kVA K := rfl
theorem kC_ofG (K : kT) (j : Nat) (x : Int32) : kC (kPutG K j x) = kC K := rfl
theorem kCL_ofG (K : kT) (j : Nat) (x : Int32) : kCL (kPutG K j x) = kCL K := rfl
theorem kCS_ofG (K : kT) (j : Nat) (x : Int32) : kCS (kPutG K j x) = kCS K := rfl
theorem kCV_ofG (K : kT) (j : Nat) (x : Int32) : kCV (kPutG K j x) = kCV K := rfl
theorem kA_ofG (K : kT) (j : Nat) (x : Int32) : kA (kPutG K j x) = kA K := rfl
theorem kAF_ofG (K : kT) (j : Nat) (x : Int32) : kAF (kPutG K j x) = kAF K := rfl
theorem kAT_ofG (K : kT) (j : Nat) (x : Int32) : kAT (kPutG K j x) = kAT K := rfl
theorem kN_ofV (K : kT) (i j : Nat) (x : Int32) : kN (kPutV K i j x) = kN K := rfl
theorem kG_ofV (K : kT) (i j : Nat) (x : Int32) : kG (kPutV K i j x) = kG K := rfl
theorem kVA_ofV (K : kT) (i j : Nat) (x : Int32) : kVA (kPutV K i j x) = kVA K := rfl
theorem kC_ofV (K : kT) (i j : Nat) (x : Int32) : kC (kPutV K i j x) = kC K := rfl
theorem kCL_ofV (K : kT) (i j : Nat) (x : Int32) : kCL (kPutV K i j x) = kCL K := rfl
theorem kCS_ofV (K : kT) (i j : Nat) (x : Int32) : kCS (kPutV K i j x) = kCS K := rfl
theorem kCV_ofV (K : kT) (i j : Nat) (x : Int32) : kCV (kPutV K i j x) = kCV K := rfl
theorem kA_ofV (K : kT) (i j : Nat) (x : Int32) : kA (kPutV K i j x) = kA K := rfl
theorem kAF_ofV (K : kT) (i j : Nat) (x : Int32) : kAF (kPutV K i j x) = kAF K := rfl
theorem kAT_ofV (K : kT) (i j : Nat) (x : Int32) : kAT (kPutV K i j x) = kAT K := rfl
theorem kN_ofVA (K : kT) (i : Nat) (f : Nat → Int32) : kN (kPutVA K i f) = kN K := rfl
theorem kG_ofVA (K : kT) (i : Nat) (f : Nat → Int32) : kG (kPutVA K i f) = kG K := rfl
theorem kV_ofVA (K : kT) (i : Nat) (f : Nat → Int32) : kV (kPutVA K i f) = kV K := rfl
theorem kC_ofVA (K : kT) (i : Nat) (f : Nat → Int32) : kC (kPutVA K i f) = kC K := rfl
theorem kCL_ofVA (K : kT) (i : Nat) (f : Nat → Int32) : kCL (kPutVA K i f) = kCL K := rfl
theorem kCS_ofVA (K : kT) (i : Nat) (f : Nat → Int32) : kCS (kPutVA K i f) = kCS K := rfl
theorem kCV_ofVA (K : kT) (i : Nat) (f : Nat → Int32) : kCV (kPutVA K i f) = kCV K := rfl
theorem kA_ofVA (K : kT) (i : Nat) (f : Nat → Int32) : kA (kPutVA K i f) = kA K := rfl
theorem kAF_ofVA (K : kT) (i : Nat) (f : Nat → Int32) : kAF (kPutVA K i f) = kAF K := rfl
theorem kAT_ofVA (K : kT) (i : Nat) (f : Nat → Int32) : kAT (kPutVA K i f) = kAT K := rfl
theorem kN_ofC (K : kT) (i j : Nat) (x : Int32) : kN (kPutC K i j x) = kN K := rfl
theorem kG_ofC (K : kT) (i j : Nat) (x : Int32) : kG (kPutC K i j x) = kG K := rfl
theorem kV_ofC (K : kT) (i j : Nat) (x : Int32) : kV (kPutC K i j x) = kV K := rfl
theorem kVA_ofC (K : kT) (i j : Nat) (x : Int32) : kVA (kPutC K i j x) = kVA K := rfl
theorem kCL_ofC (K : kT) (i j : Nat) (x : Int32) : kCL (kPutC K i j x) = kCL K := rfl
theorem kCS_ofC (K : kT) (i j : Nat) (x : Int32) : kCS (kPutC K i j x) = kCS K := rfl
theorem kCV_ofC (K : kT) (i j : Nat) (x : Int32) : kCV (kPutC K i j x) = kCV K := rfl
theorem kA_ofC (K : kT) (i j : Nat) (x : Int32) : kA (kPutC K i j x) = kA K := rfl
theorem kAF_ofC (K : kT) (i j : Nat) (x : Int32) : kAF (kPutC K i j x) = kAF K := rfl
theorem kAT_ofC (K : kT) (i j : Nat) (x : Int32) : kAT (kPutC K i j x) = kAT K := rfl
theorem kN_ofCL (K : kT) (i : Nat) (f : Nat → Int32) : kN (kPutCL K i f) = kN K := rfl
theorem kG_ofCL (K : kT) (i : Nat) (f : Nat → Int32) : kG (kPutCL K i f) = kG K := rfl
theorem kV_ofCL (K : kT) (i : Nat) (f : Nat → Int32) : kV (kPutCL K i f) = kV K := rfl
theorem kVA_ofCL (K : kT) (i : Nat) (f : Nat → Int32) : kVA (kPutCL K i f) = kVA K := rfl
theorem kC_ofCL (K : kT) (i : Nat) (f : Nat → Int32) : kC (kPutCL K i f) = kC K := rfl
theorem kCS_ofCL (K : kT) (i : Nat) (f : Nat → Int32) : kCS (kPutCL K i f) = kCS K := rfl
theorem kCV_ofCL (K : kT) (i : Nat) (f : Nat → Int32) : kCV (kPutCL K i f) = kCV K := rfl
theorem kA_ofCL (K : kT) (i : Nat) (f : Nat → Int32) : kA (kPutCL K i f) = kA K := rfl
theorem kAF_ofCL (K : kT) (i : Nat) (f : Nat → Int32) : kAF (kPutCL K i f) = kAF K := rfl
theorem kAT_ofCL (K : kT) (i : Nat) (f : Nat → Int32) : kAT (kPutCL K i f) = kAT K := rfl
theorem kN_ofCS (K : kT) (i : Nat) (f : Nat → Int32) : kN (kPutCS K i f) = kN K := rfl
theorem kG_ofCS (K : kT) (i : Nat) (f : Nat → Int32) : kG (kPutCS K i f) = kG K := rfl
theorem kV_ofCS (K : kT) (i : Nat) (f : Nat → Int32) : kV (kPutCS K i f) = kV K := rfl
theorem kVA_ofCS (K : kT) (i : Nat) (f : Nat → Int32) : kVA (kPutCS K i f) = kVA K := rfl
theorem kC_ofCS (K : kT) (i : Nat) (f : Nat → Int32) : kC (kPutCS K i f) = kC K := rfl
theorem kCL_ofCS (K : kT) (i : Nat) (f : Nat → Int32) : kCL (kPutCS K i f) = kCL K := rfl
theorem kCV_ofCS (K : kT) (i : Nat) (f : Nat → Int32) : kCV (kPutCS K i f) = kCV K := rfl
theorem kA_ofCS (K : kT) (i : Nat) (f : Nat → Int32) : kA (kPutCS K i f) = kA K := rfl
theorem kAF_ofCS (K : kT) (i : Nat) (f : Nat → Int32) : kAF (kPutCS K i f) = kAF K := rfl
theorem kAT_ofCS (K : kT) (i : Nat) (f : Nat → Int32) : kAT (kPutCS K i f) = kAT K := rfl
theorem kN_ofCV (K : kT) (i v : Nat) : kN (kPutCV K i v) = kN K := rfl
theorem kG_ofCV (K : kT) (i v : Nat) : kG (kPutCV K i v) = kG K := rfl
theorem kV_ofCV (K : kT) (i v : Nat) : kV (kPutCV K i v) = kV K := rfl
theorem kVA_ofCV (K : kT) (i v : Nat) : kVA (kPutCV K i v) = kVA K := rfl
theorem kC_ofCV (K : kT) (i v : Nat) : kC (kPutCV K i v) = kC K := rfl
theorem kCL_ofCV (K : kT) (i v : Nat) : kCL (kPutCV K i v) = kCL K := rfl
theorem kCS_ofCV (K : kT) (i v : Nat) : kCS (kPutCV K i v) = kCS K := rfl
theorem kA_ofCV (K : kT) (i v : Nat) : kA (kPutCV K i v) = kA K := rfl
theorem kAF_ofCV (K : kT) (i v : Nat) : kAF (kPutCV K i v) = kAF K := rfl
theorem kAT_ofCV (K : kT) (i v : Nat) : kAT (kPutCV K i v) = kAT K := rfl
theorem vOk_of {K1 K : kT} {i : Nat} (h : kN K1 = kN K) (hi : vOk K i) : vOk K1 i := by unfold vOk nf nv at *; rw [h]; exact hi
theorem kG_put_j {K : kT} {j b : Nat} {x : Int32} (h : ¬ b = j) : kG (kPutG K j x) b = kG K b := if_neg h
theorem kV_put_j {K : kT} {i j a b : Nat} {x : Int32} (h : ¬ b = j) : kV (kPutV K i j x) a b = kV K a b := if_neg (fun q => h q.1)
theorem kC_put_j {K : kT} {i j a b : Nat} {x : Int32} (h : ¬ b = j) : kC (kPutC K i j x) a b = kC K a b := if_neg (fun q => h q.1)
theorem kV_put_e {K : kT} {i j : Nat} {x : Int32} : kV (kPutV K i j x) i j = x := if_pos ⟨rfl, rfl⟩
theorem kC_put_e {K : kT} {i j : Nat} {x : Int32} : kC (kPutC K i j x) i j = x := if_pos ⟨rfl, rfl⟩
theorem kVA_put_e {K : kT} {i : Nat} {f : Nat → Int32} : kVA (kPutVA K i f) i = f := if_pos rfl
/-- an answer, and the state then -/
def QM (Z : Nat → Nat → Nat) (K : kT) (w : xW) (x : Int32) (K1 : kT) : Value → xW → Prop := fun v w1 => ∃ J1, v = .int x ∧ Rep Z K1 J1 w1 ∧ Oth Z K w w1
def VM (Z : Nat → Nat → Nat) (K : kT) (w : xW) (K1 : kT) : xW → Prop := fun w1 => ∃ J1, Rep Z K1 J1 w1 ∧ Oth Z K w w1
def f_askok (f : Nat → Int32) (o : Int32) : Bool := (!decide (o < 0)) && ((!decide (5 ≤ o)) && decide (f o.toNatClampNeg = -1))
def f_askrow (f : Nat → Int32) (o h : Int32) : Nat → Int32 := if f_askok f o then upd f o.toNatClampNeg h else f
def f_note (K : kT) (k : Nat) (h : Int32) (b : Bool) : kT := kPutCS (kPutCL (kPutC (kPutC K k 2 (kC K k 2 + 1)) k 3 (kC K k 3 + x_b (!b))) k (upd (kCL K k) (kCV K k % 6) h)) k (upd (kCS K k) (kCV K k % 6) (kCS K k (kCV K k % 6) + x_b b))
set_option maxRecDepth 100000 in
set_option maxHeartbeats 4000000 in
theorem c_ask (hR : Rep Z K J w) {i : Nat} (hi : vOk K i) (o h : Int32) : Ci l D dA B yX3_ask wX3_ask 0 [.ref (Z 11 i), .int o, .int h] w (QM Z K w (x_b (f_askok (kVA K i) o)) (kPutVA K i (f_askrow (kVA K i) o h))) := by
  refine x_Ct.of (cc := cX3_ask) (maxL := 3) (by decide) rfl (Nat.le_of_ble_eq_true rfl) ?_
  intro p e s m below meth c F
  have hO : Oth Z K w w := Oth.rfl
  refine x_iload_n F dX3_ask_0 rfl rfl ?_
  refine x_if_lt F dX3_ask_1 rfl (fun h1 => ?_) (fun h1 => ?_)
  · have hq : f_askok (kVA K i) o = false := by unfold f_askok; rw [decide_eq_true h1]; rfl
    refine x_iconst (v := 0) F dX3_ask_23 (by decide) ?_
    refine x_iret F rfl rfl dX3_ask_24 (Nat.le_refl _) (Nat.le_refl _) ?_
    exact ⟨_, rfl, J, by rw [hq]; rfl, by rw [show f_askrow (kVA K i) o h = kVA K i from if_neg (by rw [hq]; decide), kPutVA_self]; exact hR, Oth.rfl⟩
  · refine x_iload_n F dX3_ask_4 rfl rfl ?_
    refine x_aload_n F dX3_ask_5 rfl rfl ?_
    refine x_get (ci := 3) (C := RX3) (T := TX3) (N := 4) (k := 0) F dX3_ask_6 rfl inX3 (by decide) q54 rfl (hR.ret hi) rfl ?_
    refine x_alen (v := 5) F dX3_ask_9 rfl (hR.ask hi) rfl ?_
    refine x_icmp_ge F dX3_ask_10 rfl (fun h10 => ?_) (fun h10 => ?_)
    · have hq : f_askok (kVA K i) o = false := by unfold f_askok; rw [decide_eq_true h10, Bool.not_true, Bool.false_and, Bool.and_false]
      refine x_iconst (v := 0) F dX3_ask_23 (by decide) ?_
      refine x_iret F rfl rfl dX3_ask_24 (Nat.le_refl _) (Nat.le_refl _) ?_
      exact ⟨_, rfl, J, by rw [hq]; rfl, by rw [show f_askrow (kVA K i) o h = kVA K i from if_neg (by rw [hq]; decide), kPutVA_self]; exact hR, Oth.rfl⟩
    · refine x_aload_n F dX3_ask_13 rfl rfl ?_
      refine x_get (ci := 3) (C := RX3) (T := TX3) (N := 4) (k := 0) F dX3_ask_14 rfl inX3 (by decide) q54 rfl (hR.ret hi) rfl ?_
      refine x_iload_n F dX3_ask_17 rfl rfl ?_
      refine x_iald F dX3_ask_18 rfl (hR.ask hi) (x_in (m2 := 5) (by decide) h1 h10) ?_
      refine x_iconst (v := (-1)) F dX3_ask_19 (by decide) ?_
      refine x_icmp_eq F dX3_ask_20 rfl (fun h20 => ?_) (fun h20 => ?_)
      · have hq : f_askok (kVA K i) o = true := by unfold f_askok; rw [decide_eq_false h1, decide_eq_false h10, decide_eq_true h20]; rfl
        refine x_aload_n F dX3_ask_25 rfl rfl ?_
        refine x_get (ci := 3) (C := RX3) (T := TX3) (N := 4) (k := 0) F dX3_ask_26 rfl inX3 (by decide) q54 rfl (hR.ret hi) rfl ?_
        refine x_iload_n F dX3_ask_29 rfl rfl ?_
        refine x_iload_n F dX3_ask_30 rfl rfl ?_
        refine x_iast F dX3_ask_31 rfl (hR.ask hi) (x_in (m2 := 5) (by decide) h1 h10) ?_
        refine x_wd (fun w1 hw1 => ?_)
        have hO : Oth Z K w w1 := hO.trans (by rw [hw1]; exact Oth.set (kind := 12) (idx := i) hi _) rfl
        have hR : Rep Z (kPutVA K i (upd (kVA K i) o.toNatClampNeg h)) J w1 := by rw [hw1]; exact hR.putVA hi _
        refine x_iconst (v := 1) F dX3_ask_32 (by decide) ?_
        refine x_iret F rfl rfl dX3_ask_33 (Nat.le_refl _) (Nat.le_refl _) ?_
        exact ⟨_, rfl, J, by rw [hq]; rfl, by rw [show f_askrow (kVA K i) o h = upd (kVA K i) o.toNatClampNeg h from if_pos hq]; exact hR, hO⟩
      · have hq : f_askok (kVA K i) o = false := by unfold f_askok; rw [decide_eq_false h20, Bool.and_false, Bool.and_false]
        refine x_iconst (v := 0) F dX3_ask_23 (by decide) ?_
        refine x_iret F rfl rfl dX3_ask_24 (Nat.le_refl _) (Nat.le_refl _) ?_
        exact ⟨_, rfl, J, by rw [hq]; rfl, by rw [show f_askrow (kVA K i) o h = kVA K i from if_neg (by rw [hq]; decide), kPutVA_self]; exact hR, Oth.rfl⟩
set_option maxRecDepth 100000 in
set_option maxHeartbeats 4000000 in
theorem c_noteCall_true (hR : Rep Z K J w) {k : Nat} (hk : k < nc K) (h : Int32) : Cv l D dA B yX1_noteCall wX1_noteCall 0 [.ref (Z 13 k), .int h, .int (x_b true)] w (VM Z K w (f_note K k h true)) := by
  refine x_Ct.of (cc := cX1_noteCall) (maxL := 4) (by decide) rfl (Nat.le_of_ble_eq_true rfl) ?_
  intro p e s m below meth c F
  have hO : Oth Z K w w := Oth.rfl
  refine x_aload_n F dX1_noteCall_0 rfl rfl ?_
  refine x_dup F dX1_noteCall_1 rfl ?_
  refine x_get (ci := 1) (C := RX1) (T := TX1) (N := 8) (k := 6) F dX1_noteCall_2 rfl inX1 (by decide) q256 rfl (hR.cli hk) rfl ?_
  refine x_iconst (v := 1) F dX1_noteCall_5 (by decide) ?_
  refine x_iadd F dX1_noteCall_6 ?_
  refine x_put (ci := 1) (C := RX1) (T := TX1) (N := 8) (k := 6) F dX1_noteCall_7 rfl inX1 tyX1 tyX1_ok nmX1 (by decide) q256 rfl rfl (hR.cli hk) (Nat.le_of_ble_eq_true rfl) rfl rfl ?_
  refine x_wd (fun w1 hw1 => ?_)
  have hO : Oth Z K w w1 := hO.trans (by rw [hw1]; exact Oth.set (kind := 13) (idx := k) hk _) rfl
  have hR : Rep Z (kPutC K k 2 (kC K k 2 + 1)) J w1 := by rw [hw1]; exact hR.putC hk 2 _ (by first | (simp [obj, kV_put, kC_put, kG_put, kCV_put, kC_ofCV, kV_ofCV, kCV_ofC, kCV_ofV]; done) | (simp [obj, kV_put, kC_put, kG_put, kCV_put, kC_ofCV, kV_ofCV, kCV_ofC, kCV_ofV]; exact ⟨rfl, rfl⟩) | (simp [obj, kV_put, kC_put, kG_put, kCV_put, kC_ofCV, kV_ofCV, kCV_ofC, kCV_ofV]; rfl) | (simp [obj, kV_put, kC_put, kG_put, kCV_put, kC_ofCV, kV_ofCV, kCV_ofC, kCV_ofV]; and_intros <;> rfl))
  refine x_iload_n F dX1_noteCall_10 rfl rfl ?_
  refine x_if_ne F dX1_noteCall_11 rfl (fun _ => ?_) (fun hc => absurd hc (by decide))
  have hR : Rep Z (kPutC (kPutC K k 2 (kC K k 2 + 1)) k 3 (kC K k 3 + x_b (!true))) J w1 := by rw [kPutC_self (K := kPutC K k 2 (kC K k 2 + 1)) (j := 3) (by rw [kC_put_j (by decide)]; exact Int32.add_zero _)]; exact hR
  refine x_aload_n F dX1_noteCall_24 rfl rfl ?_
  refine x_get (ci := 1) (C := RX1) (T := TX1) (N := 8) (k := 4) F dX1_noteCall_25 rfl inX1 (by decide) q252 rfl (hR.cli hk) rfl ?_
  refine x_get (ci := 5) (C := RX5) (T := TX5) (N := 9) (k := 1) F dX1_noteCall_28 rfl inX5 (by decide) q140 rfl (hR.ver (hR.cv hk)) rfl ?_
  refine x_istore_n F dX1_noteCall_31 rfl (by decide) ?_
  refine x_iload_n F dX1_noteCall_32 rfl rfl ?_
  refine x_if_lt F dX1_noteCall_33 rfl (fun hc => absurd hc (nI_pos (by omega))) (fun h33 => ?_)
  refine x_iload_n F dX1_noteCall_36 rfl rfl ?_
  refine x_aload_n F dX1_noteCall_37 rfl rfl ?_
  refine x_get (ci := 1) (C := RX1) (T := TX1) (N := 8) (k := 2) F dX1_noteCall_38 rfl inX1 (by decide) q249 rfl (hR.cli hk) rfl ?_
  refine x_alen (v := 6) F dX1_noteCall_41 rfl (hR.cla hk) rfl ?_
  refine x_icmp_ge F dX1_noteCall_42 rfl (fun hc => absurd hc (nI_ge (b := 6) (by omega) (by decide))) (fun h42 => ?_)
  refine x_iload_n F dX1_noteCall_45 rfl rfl ?_
  refine x_aload_n F dX1_noteCall_46 rfl rfl ?_
  refine x_get (ci := 1) (C := RX1) (T := TX1) (N := 8) (k := 3) F dX1_noteCall_47 rfl inX1 (by decide) q250 rfl (hR.cli hk) rfl ?_
  refine x_alen (v := 6) F dX1_noteCall_50 rfl (hR.csv hk) rfl ?_
  refine x_icmp_ge F dX1_noteCall_51 rfl (fun hc => absurd hc (nI_ge (b := 6) (by omega) (by decide))) (fun h51 => ?_)
  refine x_aload_n F dX1_noteCall_54 rfl rfl ?_
  refine x_get (ci := 1) (C := RX1) (T := TX1) (N := 8) (k := 2) F dX1_noteCall_55 rfl inX1 (by decide) q249 rfl (hR.cli hk) rfl ?_
  refine x_iload_n F dX1_noteCall_58 rfl rfl ?_
  refine x_iload_n F dX1_noteCall_59 rfl rfl ?_
  refine x_iastN F dX1_noteCall_60 rfl (hR.cla hk) (by omega) (by decide) ?_
  refine x_wd (fun w3 hw3 => ?_)
  have hO : Oth Z K w w3 := hO.trans (by rw [hw3]; exact Oth.set (kind := 14) (idx := k) hk _) rfl
  have hR : Rep Z (kPutCL (kPutC (kPutC K k 2 (kC K k 2 + 1)) k 3 (kC K k 3 + x_b (!true))) k (upd (kCL K k) (kCV K k % 6) h)) J w3 := by rw [hw3]; exact hR.putCL hk _
  refine x_aload_n F dX1_noteCall_61 rfl rfl ?_
  refine x_get (ci := 1) (C := RX1) (T := TX1) (N := 8) (k := 3) F dX1_noteCall_62 rfl inX1 (by decide) q250 rfl (hR.cli hk) rfl ?_
  refine x_iload_n F dX1_noteCall_65 rfl rfl ?_
  refine x_dup2 F dX1_noteCall_66 rfl rfl ?_
  refine x_ialdN F dX1_noteCall_67 rfl (hR.csv hk) (by omega) (by decide) ?_
  refine x_iload_n F dX1_noteCall_68 rfl rfl ?_
  refine x_if_eq F dX1_noteCall_69 rfl (fun hc => absurd hc (by decide)) (fun _ => ?_)
  refine x_iconst (v := 1) F dX1_noteCall_72 (by decide) ?_
  refine x_goto F dX1_noteCall_73 rfl ?_
  refine x_iadd F dX1_noteCall_77 ?_
  refine x_iastN F dX1_noteCall_78 rfl (hR.csv hk) (by omega) (by decide) ?_
  refine x_wd (fun w4 hw4 => ?_)
  have hO : Oth Z K w w4 := hO.trans (by rw [hw4]; exact Oth.set (kind := 15) (idx := k) hk _) rfl
  have hR : Rep Z (f_note K k h true) J w4 := by rw [hw4]; exact hR.putCS hk _
  refine x_vret F rfl dX1_noteCall_79 (Nat.le_refl _) (Nat.le_refl _) ?_
  exact ⟨rfl, J, hR, hO⟩
set_option maxRecDepth 100000 in
set_option maxHeartbeats 4000000 in
theorem c_noteCall_false (hR : Rep Z K J w) {k : Nat} (hk : k < nc K) (h : Int32) : Cv l D dA B yX1_noteCall wX1_noteCall 0 [.ref (Z 13 k), .int h, .int (x_b false)] w (VM Z K w (f_note K k h false)) := by
  refine x_Ct.of (cc := cX1_noteCall) (maxL := 4) (by decide) rfl (Nat.le_of_ble_eq_true rfl) ?_
  intro p e s m below meth c F
  have hO : Oth Z K w w := Oth.rfl
  refine x_aload_n F dX1_noteCall_0 rfl rfl ?_
  refine x_dup F dX1_noteCall_1 rfl ?_
  refine x_get (ci := 1) (C := RX1) (T := TX1) (N := 8) (k := 6) F dX1_noteCall_2 rfl inX1 (by decide) q256 rfl (hR.cli hk) rfl ?_
  refine x_iconst (v := 1) F dX1_noteCall_5 (by decide) ?_
  refine x_iadd F dX1_noteCall_6 ?_
  refine x_put (ci := 1) (C := RX1) (T := TX1) (N := 8) (k := 6) F dX1_noteCall_7 rfl inX1 tyX1 tyX1_ok nmX1 (by decide) q256 rfl rfl (hR.cli hk) (Nat.le_of_ble_eq_true rfl) rfl rfl ?_
  refine x_wd (fun w1 hw1 => ?_)
  have hO : Oth Z K w w1 := hO.trans (by rw [hw1]; exact Oth.set (kind := 13) (idx := k) hk _) rfl
  have hR : Rep Z (kPutC K k 2 (kC K k 2 + 1)) J w1 := by rw [hw1]; exact hR.putC hk 2 _ (by first | (simp [obj, kV_put, kC_put, kG_put, kCV_put, kC_ofCV, kV_ofCV, kCV_ofC, kCV_ofV]; done) | (simp [obj, kV_put, kC_put, kG_put, kCV_put, kC_ofCV, kV_ofCV, kCV_ofC, kCV_ofV]; exact ⟨rfl, rfl⟩) | (simp [obj, kV_put, kC_put, kG_put, kCV_put, kC_ofCV, kV_ofCV, kCV_ofC, kCV_ofV]; rfl) | (simp [obj, kV_put, kC_put, kG_put, kCV_put, kC_ofCV, kV_ofCV, kCV_ofC, kCV_ofV]; and_intros <;> rfl))
  refine x_iload_n F dX1_noteCall_10 rfl rfl ?_
  refine x_if_ne F dX1_noteCall_11 rfl (fun hc => absurd hc (by decide)) (fun _ => ?_)
  refine x_aload_n F dX1_noteCall_14 rfl rfl ?_
  refine x_dup F dX1_noteCall_15 rfl ?_
  refine x_get (ci := 1) (C := RX1) (T := TX1) (N := 8) (k := 7) F dX1_noteCall_16 rfl inX1 (by decide) q258 rfl (hR.cli hk) rfl ?_
  rw [kC_put_j (by decide)]
  refine x_iconst (v := 1) F dX1_noteCall_19 (by decide) ?_
  refine x_iadd F dX1_noteCall_20 ?_
  refine x_put (ci := 1) (C := RX1) (T := TX1) (N := 8) (k := 7) F dX1_noteCall_21 rfl inX1 tyX1 tyX1_ok nmX1 (by decide) q258 rfl rfl (hR.cli hk) (Nat.le_of_ble_eq_true rfl) rfl rfl ?_
  refine x_wd (fun w2 hw2 => ?_)
  have hO : Oth Z K w w2 := hO.trans (by rw [hw2]; exact Oth.set (kind := 13) (idx := k) hk _) rfl
  have hR : Rep Z (kPutC (kPutC K k 2 (kC K k 2 + 1)) k 3 (kC K k 3 + x_b (!false))) J w2 := by rw [hw2]; exact hR.putC hk 3 _ (by first | (simp [obj, kV_put, kC_put, kG_put, kCV_put, kC_ofCV, kV_ofCV, kCV_ofC, kCV_ofV]; done) | (simp [obj, kV_put, kC_put, kG_put, kCV_put, kC_ofCV, kV_ofCV, kCV_ofC, kCV_ofV]; exact ⟨rfl, rfl⟩) | (simp [obj, kV_put, kC_put, kG_put, kCV_put, kC_ofCV, kV_ofCV, kCV_ofC, kCV_ofV]; rfl) | (simp [obj, kV_put, kC_put, kG_put, kCV_put, kC_ofCV, kV_ofCV, kCV_ofC, kCV_ofV]; and_intros <;> rfl))
  have hR := hR
  refine x_aload_n F dX1_noteCall_24 rfl rfl ?_
  refine x_get (ci := 1) (C := RX1) (T := TX1) (N := 8) (k := 4) F dX1_noteCall_25 rfl inX1 (by decide) q252 rfl (hR.cli hk) rfl ?_
  refine x_get (ci := 5) (C := RX5) (T := TX5) (N := 9) (k := 1) F dX1_noteCall_28 rfl inX5 (by decide) q140 rfl (hR.ver (hR.cv hk)) rfl ?_
  refine x_istore_n F dX1_noteCall_31 rfl (by decide) ?_
  refine x_iload_n F dX1_noteCall_32 rfl rfl ?_
  refine x_if_lt F dX1_noteCall_33 rfl (fun hc => absurd hc (nI_pos (by omega))) (fun h33 => ?_)
  refine x_iload_n F dX1_noteCall_36 rfl rfl ?_
  refine x_aload_n F dX1_noteCall_37 rfl rfl ?_
  refine x_get (ci := 1) (C := RX1) (T := TX1) (N := 8) (k := 2) F dX1_noteCall_38 rfl inX1 (by decide) q249 rfl (hR.cli hk) rfl ?_
  refine x_alen (v := 6) F dX1_noteCall_41 rfl (hR.cla hk) rfl ?_
  refine x_icmp_ge F dX1_noteCall_42 rfl (fun hc => absurd hc (nI_ge (b := 6) (by omega) (by decide))) (fun h42 => ?_)
  refine x_iload_n F dX1_noteCall_45 rfl rfl ?_
  refine x_aload_n F dX1_noteCall_46 rfl rfl ?_
  refine x_get (ci := 1) (C := RX1) (T := TX1) (N := 8) (k := 3) F dX1_noteCall_47 rfl inX1 (by decide) q250 rfl (hR.cli hk) rfl ?_
  refine x_alen (v := 6) F dX1_noteCall_50 rfl (hR.csv hk) rfl ?_
  refine x_icmp_ge F dX1_noteCall_51 rfl (fun hc => absurd hc (nI_ge (b := 6) (by omega) (by decide))) (fun h51 => ?_)
  refine x_aload_n F dX1_noteCall_54 rfl rfl ?_
  refine x_get (ci := 1) (C := RX1) (T := TX1) (N := 8) (k := 2) F dX1_noteCall_55 rfl inX1 (by decide) q249 rfl (hR.cli hk) rfl ?_
  refine x_iload_n F dX1_noteCall_58 rfl rfl ?_
  refine x_iload_n F dX1_noteCall_59 rfl rfl ?_
  refine x_iastN F dX1_noteCall_60 rfl (hR.cla hk) (by omega) (by decide) ?_
  refine x_wd (fun w3 hw3 => ?_)
  have hO : Oth Z K w w3 := hO.trans (by rw [hw3]; exact Oth.set (kind := 14) (idx := k) hk _) rfl
  have hR : Rep Z (kPutCL (kPutC (kPutC K k 2 (kC K k 2 + 1)) k 3 (kC K k 3 + x_b (!false))) k (upd (kCL K k) (kCV K k % 6) h)) J w3 := by rw [hw3]; exact hR.putCL hk _
  refine x_aload_n F dX1_noteCall_61 rfl rfl ?_
  refine x_get (ci := 1) (C := RX1) (T := TX1) (N := 8) (k := 3) F dX1_noteCall_62 rfl inX1 (by decide) q250 rfl (hR.cli hk) rfl ?_
  refine x_iload_n F dX1_noteCall_65 rfl rfl ?_
  refine x_dup2 F dX1_noteCall_66 rfl rfl ?_
  refine x_ialdN F dX1_noteCall_67 rfl (hR.csv hk) (by omega) (by decide) ?_
  refine x_iload_n F dX1_noteCall_68 rfl rfl ?_
  refine x_if_eq F dX1_noteCall_69 rfl (fun _ => ?_) (fun hc => absurd hc (by decide))
  refine x_iconst (v := 0) F dX1_noteCall_76 (by decide) ?_
  refine x_iadd F dX1_noteCall_77 ?_
  refine x_iastN F dX1_noteCall_78 rfl (hR.csv hk) (by omega) (by decide) ?_
  refine x_wd (fun w4 hw4 => ?_)
  have hO : Oth Z K w w4 := hO.trans (by rw [hw4]; exact Oth.set (kind := 15) (idx := k) hk _) rfl
  have hR : Rep Z (f_note K k h false) J w4 := by rw [hw4]; exact hR.putCS hk _
  refine x_vret F rfl dX1_noteCall_79 (Nat.le_refl _) (Nat.le_refl _) ?_
  exact ⟨rfl, J, hR, hO⟩
theorem c_noteCall (hR : Rep Z K J w) {k : Nat} (hk : k < nc K) (h : Int32) (b : Bool) : Cv l D dA B yX1_noteCall wX1_noteCall 0 [.ref (Z 13 k), .int h, .int (x_b b)] w (VM Z K w (f_note K k h b)) := by
  cases b
  · exact c_noteCall_false hR hk h
  · exact c_noteCall_true hR hk h
def f_row0 (K : kT) (k : Nat) : Nat → Int32 := if kV K (kCV K k) 2 = 1 then f_askrow (kVA K (kCV K k)) (kC K k 0) (kG K 0) else kVA K (kCV K k)
def f_sv1 (K : kT) (k : Nat) : kT := kPutVA K (kCV K k) (f_row0 K k)
def f_svo (K : kT) (k : Nat) : Int32 := f_outc (f_sv1 K k) k (kV K (kCV K k) 2) (kG K 0) (f_served K k (kCV K k))
def f_svb (K : kT) (k : Nat) : Bool := decide (f_svo K k = 0) || decide (f_svo K k = 1)
def f_sv2 (K : kT) (k : Nat) : kT := f_note (f_sv1 K k) k (kG K 0) (f_svb K k)
def f_sv3 (K : kT) (k : Nat) : kT := kPutG (kPutV (f_sv2 K k) (kCV K k) 4 (kV K (kCV K k) 4 + 1)) 1 (kG K 1 + 1)
def f_sv4 (K : kT) (k : Nat) : kT := kPutG (kPutV (f_sv3 K k) (kCV K k) 5 (kV K (kCV K k) 5 + x_b (!f_svb K k))) 2 (kG K 2 + x_b (!f_svb K k))
def f_serve (K : kT) (k : Nat) : kT := kPutG (f_sv4 K k) 3 (kG K 3 + x_b (decide (f_svo K k = 1)))
theorem f_sv1_of {K : kT} {k : Nat} {f : Nat → Int32} (h : f_row0 K k = f) : f_sv1 K k = kPutVA K (kCV K k) f := by unfold f_sv1; rw [h]
set_option maxRecDepth 100000 in
set_option maxHeartbeats 4000000 in
theorem c_isServedCall (hR : Rep Z K J w) {k : Nat} (hk : k < nc K) : Ci l D dA B yX6_isServedCall wX6_isServedCall 7 [.ref (Z 0 0), .ref (Z 13 k)] w (QM Z K w (x_b (f_svb K k)) (f_serve K k)) := by
  refine x_Ct.of (cc := cX6_isServedCall) (maxL := 5) (by decide) rfl (Nat.le_of_ble_eq_true rfl) ?_
  intro p e s m below meth c F
  have tail : ∀ J wz, Rep Z (f_sv1 K k) J wz → Oth Z K w wz → X p l e (rmd 7 0 0) s m #[.ref (Z 0 0), .ref (Z 13 k)] below meth c (MQ below (x_Q D dA vwCl tyL0 B (fun r w1 => ∃ v, r = some v ∧ (QM Z K w (x_b (f_svb K k)) (f_serve K k) v w1))) #[.ref (Z 0 0), .ref (Z 13 k)] s 0 0 (fun q => B ≤ q)) D dA vwCl B 5 0 0 29 [(0, .ref (Z 0 0)), (1, .ref (Z 13 k)), (2, .ref (Z 10 (kCV K k)))] [] wz := by
    intro J wz hR hO
    refine x_aload_n F dX6_isServedCall_29 rfl rfl ?_
    refine x_aload_n F dX6_isServedCall_30 rfl rfl ?_
    refine x_aload_n F dX6_isServedCall_31 rfl rfl ?_
    refine x_get (ci := 5) (C := RX5) (T := TX5) (N := 9) (k := 5) F dX6_isServedCall_32 rfl inX5 (by decide) q149 rfl (hR.ver (hR.cv hk)) rfl ?_
    refine x_aload_n F dX6_isServedCall_35 rfl rfl ?_
    refine x_get (ci := 6) (C := RX6) (T := TX6) (N := 12) (k := 6) F dX6_isServedCall_36 rfl inX6 (by decide) q71 rfl hR.main rfl ?_
    refine x_aload_n F dX6_isServedCall_39 rfl rfl ?_
    refine x_aload_n F dX6_isServedCall_40 rfl rfl ?_
    refine x_cVi1 (ci := 1) (C := RX1) (T := TX1) (N := 8) F dX6_isServedCall_41 (x_gV q319 q320 q321 q13 q322) rfl (c_servedThisHourBy hR hk (hR.cv hk)) ⟨rfl, rfl, rfl, xd_X1_servedThisHourBy, ⟨Nat.le_of_ble_eq_true rfl, Nat.le_of_ble_eq_true rfl⟩, Nat.le_of_ble_eq_true rfl, Nat.le_of_ble_eq_true rfl⟩ rfl (hR.cli hk) (Nat.le_of_ble_eq_true rfl) (fun v1 w1 hp => ?_)
    obtain ⟨rfl, hw9⟩ := hp
    replace hw9 := hw9.symm
    subst hw9
    refine x_cVi4 (ci := 6) (C := RX6) (T := TX6) (N := 12) F dX6_isServedCall_44 (x_gV q323 q324 q460 q1 q325) rfl (c_outcomeOf hR hk (kV K (kCV K k) 2) (kG K 0) (f_served K k (kCV K k))) ⟨rfl, rfl, rfl, xd_X6_outcomeOf, ⟨Nat.le_of_ble_eq_true rfl, Nat.le_of_ble_eq_true rfl⟩, Nat.le_of_ble_eq_true rfl, Nat.le_of_ble_eq_true rfl⟩ rfl hR.main (Nat.le_of_ble_eq_true rfl) (fun v1 w1 hp => ?_)
    obtain ⟨J1, rfl, hR, hO2⟩ := hp
    have hO := hO.trans hO2 rfl
    refine x_istore_n F dX6_isServedCall_47 rfl (by decide) ?_
    refine x_iload_n F dX6_isServedCall_48 rfl rfl ?_
    refine x_if_eq F dX6_isServedCall_49 rfl (fun h49 => ?_) (fun h49 => ?_)
    · have hb : f_svb K k = true := by unfold f_svb; rw [show f_svo K k = 0 from h49]; rfl
      have ho1 : ¬ f_svo K k = 1 := by rw [show f_svo K k = 0 from h49]; decide
      refine x_iconst (v := 1) F dX6_isServedCall_57 (by decide) ?_
      refine x_goto F dX6_isServedCall_58 rfl ?_
      refine x_istore F dX6_isServedCall_62 (by decide) ?_
      refine x_aload_n F dX6_isServedCall_64 rfl rfl ?_
      refine x_aload_n F dX6_isServedCall_65 rfl rfl ?_
      refine x_get (ci := 6) (C := RX6) (T := TX6) (N := 12) (k := 6) F dX6_isServedCall_66 rfl inX6 (by decide) q71 rfl hR.main rfl ?_
      refine x_iload F dX6_isServedCall_69 rfl ?_
      refine x_cVv2 (ci := 1) (C := RX1) (T := TX1) (N := 8) F dX6_isServedCall_71 (x_gV q337 q338 q339 q13 q340) rfl (c_noteCall hR hk (kG K 0) true) ⟨rfl, rfl, rfl, xd_X1_noteCall, ⟨Nat.le_of_ble_eq_true rfl, Nat.le_of_ble_eq_true rfl⟩, Nat.le_of_ble_eq_true rfl, Nat.le_of_ble_eq_true rfl⟩ rfl (hR.cli hk) (Nat.le_of_ble_eq_true rfl) (fun w1 hp => ?_)
      obtain ⟨J1, hR, hO2⟩ := hp
      have hO := hO.trans hO2 rfl
      have hR : Rep Z (f_sv2 K k) J1 w1 := by unfold f_sv2; rw [hb]; exact hR
      refine x_aload_n F dX6_isServedCall_74 rfl rfl ?_
      refine x_dup F dX6_isServedCall_75 rfl ?_
      refine x_get (ci := 5) (C := RX5) (T := TX5) (N := 9) (k := 7) F dX6_isServedCall_76 rfl inX5 (by decide) q151 rfl (hR.ver (hR.cv hk)) rfl ?_
      refine x_iconst (v := 1) F dX6_isServedCall_79 (by decide) ?_
      refine x_iadd F dX6_isServedCall_80 ?_
      refine x_put (ci := 5) (C := RX5) (T := TX5) (N := 9) (k := 7) F dX6_isServedCall_81 rfl inX5 tyX5 tyX5_ok nmX5 (by decide) q151 rfl rfl (hR.ver (hR.cv hk)) (Nat.le_of_ble_eq_true rfl) rfl rfl ?_
      refine x_wd (fun w1 hw1 => ?_)
      have hO : Oth Z K w w1 := hO.trans (by rw [hw1]; exact Oth.set (kind := 10) (idx := (kCV K k)) (hR.cv hk) _) rfl
      have hR : Rep Z (kPutV (f_sv2 K k) (kCV K k) 4 (kV K (kCV K k) 4 + 1)) J1 w1 := by rw [hw1]; exact hR.putV (hR.cv hk) 4 (by decide) _ (by first | (simp [obj, kV_put, kC_put, kG_put, kCV_put, kC_ofCV, kV_ofCV, kCV_ofC, kCV_ofV]; done) | (simp [obj, kV_put, kC_put, kG_put, kCV_put, kC_ofCV, kV_ofCV, kCV_ofC, kCV_ofV]; exact ⟨rfl, rfl⟩) | (simp [obj, kV_put, kC_put, kG_put, kCV_put, kC_ofCV, kV_ofCV, kCV_ofC, kCV_ofV]; rfl) | (simp [obj, kV_put, kC_put, kG_put, kCV_put, kC_ofCV, kV_ofCV, kCV_ofC, kCV_ofV]; and_intros <;> rfl))
      refine x_aload_n F dX6_isServedCall_84 rfl rfl ?_
      refine x_dup F dX6_isServedCall_85 rfl ?_
      refine x_get (ci := 6) (C := RX6) (T := TX6) (N := 12) (k := 7) F dX6_isServedCall_86 rfl inX6 (by decide) q72 rfl hR.main rfl ?_
      refine x_iconst (v := 1) F dX6_isServedCall_89 (by decide) ?_
      refine x_iadd F dX6_isServedCall_90 ?_
      refine x_put (ci := 6) (C := RX6) (T := TX6) (N := 12) (k := 7) F dX6_isServedCall_91 rfl inX6 tyX6 tyX6_ok nmX6 (by decide) q72 rfl rfl hR.main (Nat.le_of_ble_eq_true rfl) rfl rfl ?_
      refine x_wd (fun w2 hw2 => ?_)
      have hO : Oth Z K w w2 := hO.trans (by rw [hw2]; exact Oth.set (kind := 0) (idx := 0) rfl _) rfl
      have hR : Rep Z (f_sv3 K k) J1 w2 := by rw [hw2]; exact hR.putG 1 _ (by first | (simp [obj, kV_put, kC_put, kG_put, kCV_put, kC_ofCV, kV_ofCV, kCV_ofC, kCV_ofV]; done) | (simp [obj, kV_put, kC_put, kG_put, kCV_put, kC_ofCV, kV_ofCV, kCV_ofC, kCV_ofV]; exact ⟨rfl, rfl⟩) | (simp [obj, kV_put, kC_put, kG_put, kCV_put, kC_ofCV, kV_ofCV, kCV_ofC, kCV_ofV]; rfl) | (simp [obj, kV_put, kC_put, kG_put, kCV_put, kC_ofCV, kV_ofCV, kCV_ofC, kCV_ofV]; and_intros <;> rfl))
      have hR : Rep Z (f_sv4 K k) J1 w2 := by unfold f_sv4; rw [hb, kPutV_self (K := f_sv3 K k) (by exact Int32.add_zero _), kPutG_self (K := f_sv3 K k) (by exact Int32.add_zero _)]; exact hR
      refine x_iload F dX6_isServedCall_94 rfl ?_
      refine x_if_ne F dX6_isServedCall_96 rfl (fun _ => ?_) (fun hc => absurd hc (by decide))
      refine x_iload_n F dX6_isServedCall_119 rfl rfl ?_
      refine x_iconst (v := 1) F dX6_isServedCall_120 (by decide) ?_
      refine x_icmp_ne F dX6_isServedCall_121 rfl (fun h121 => ?_) (fun h121 => ?_)
      · have hR : Rep Z (f_serve K k) J1 w2 := by unfold f_serve; rw [decide_eq_false (show ¬ f_svo K k = 1 from h121), kPutG_self (K := f_sv4 K k) (by exact Int32.add_zero _)]; exact hR
        refine x_iload F dX6_isServedCall_134 rfl ?_
        refine x_iret F rfl rfl dX6_isServedCall_136 (Nat.le_refl _) (Nat.le_refl _) ?_
        exact ⟨_, rfl, J1, by rw [hb]; rfl, hR, hO⟩
      · refine x_aload_n F dX6_isServedCall_124 rfl rfl ?_
        refine x_dup F dX6_isServedCall_125 rfl ?_
        refine x_get (ci := 6) (C := RX6) (T := TX6) (N := 12) (k := 9) F dX6_isServedCall_126 rfl inX6 (by decide) q74 rfl hR.main rfl ?_
        refine x_iconst (v := 1) F dX6_isServedCall_129 (by decide) ?_
        refine x_iadd F dX6_isServedCall_130 ?_
        refine x_put (ci := 6) (C := RX6) (T := TX6) (N := 12) (k := 9) F dX6_isServedCall_131 rfl inX6 tyX6 tyX6_ok nmX6 (by decide) q74 rfl rfl hR.main (Nat.le_of_ble_eq_true rfl) rfl rfl ?_
        refine x_wd (fun w5 hw5 => ?_)
        have hO : Oth Z K w w5 := hO.trans (by rw [hw5]; exact Oth.set (kind := 0) (idx := 0) rfl _) rfl
        have hR : Rep Z (f_serve K k) J1 w5 := by rw [hw5]; exact hR.putG 3 _ (by rw [show decide (f_svo K k = 1) = true from decide_eq_true h121]; first | (simp [obj, kV_put, kC_put, kG_put, kCV_put, kC_ofCV, kV_ofCV, kCV_ofC, kCV_ofV]; done) | (simp [obj, kV_put, kC_put, kG_put, kCV_put, kC_ofCV, kV_ofCV, kCV_ofC, kCV_ofV]; exact ⟨rfl, rfl⟩) | (simp [obj, kV_put, kC_put, kG_put, kCV_put, kC_ofCV, kV_ofCV, kCV_ofC, kCV_ofV]; rfl) | (simp [obj, kV_put, kC_put, kG_put, kCV_put, kC_ofCV, kV_ofCV, kCV_ofC, kCV_ofV]; and_intros <;> rfl))
        refine x_iload F dX6_isServedCall_134 rfl ?_
        refine x_iret F rfl rfl dX6_isServedCall_136 (Nat.le_refl _) (Nat.le_refl _) ?_
        exact ⟨_, rfl, J1, by rw [hb]; rfl, hR, hO⟩
    · refine x_iload_n F dX6_isServedCall_52 rfl rfl ?_
      refine x_iconst (v := 1) F dX6_isServedCall_53 (by decide) ?_
      refine x_icmp_ne F dX6_isServedCall_54 rfl (fun h54 => ?_) (fun h54 => ?_)
      · have hb : f_svb K k = false := by unfold f_svb; rw [decide_eq_false (show ¬ f_svo K k = 0 from h49), decide_eq_false (show ¬ f_svo K k = 1 from h54)]; rfl
        have ho1 : ¬ f_svo K k = 1 := h54
        refine x_iconst (v := 0) F dX6_isServedCall_61 (by decide) ?_
        refine x_istore F dX6_isServedCall_62 (by decide) ?_
        refine x_aload_n F dX6_isServedCall_64 rfl rfl ?_
        refine x_aload_n F dX6_isServedCall_65 rfl rfl ?_
        refine x_get (ci := 6) (C := RX6) (T := TX6) (N := 12) (k := 6) F dX6_isServedCall_66 rfl inX6 (by decide) q71 rfl hR.main rfl ?_
        refine x_iload F dX6_isServedCall_69 rfl ?_
        refine x_cVv2 (ci := 1) (C := RX1) (T := TX1) (N := 8) F dX6_isServedCall_71 (x_gV q337 q338 q339 q13 q340) rfl (c_noteCall hR hk (kG K 0) false) ⟨rfl, rfl, rfl, xd_X1_noteCall, ⟨Nat.le_of_ble_eq_true rfl, Nat.le_of_ble_eq_true rfl⟩, Nat.le_of_ble_eq_true rfl, Nat.le_of_ble_eq_true rfl⟩ rfl (hR.cli hk) (Nat.le_of_ble_eq_true rfl) (fun w1 hp => ?_)
        obtain ⟨J1, hR, hO2⟩ := hp
        have hO := hO.trans hO2 rfl
        have hR : Rep Z (f_sv2 K k) J1 w1 := by unfold f_sv2; rw [hb]; exact hR
        refine x_aload_n F dX6_isServedCall_74 rfl rfl ?_
        refine x_dup F dX6_isServedCall_75 rfl ?_
        refine x_get (ci := 5) (C := RX5) (T := TX5) (N := 9) (k := 7) F dX6_isServedCall_76 rfl inX5 (by decide) q151 rfl (hR.ver (hR.cv hk)) rfl ?_
        refine x_iconst (v := 1) F dX6_isServedCall_79 (by decide) ?_
        refine x_iadd F dX6_isServedCall_80 ?_
        refine x_put (ci := 5) (C := RX5) (T := TX5) (N := 9) (k := 7) F dX6_isServedCall_81 rfl inX5 tyX5 tyX5_ok nmX5 (by decide) q151 rfl rfl (hR.ver (hR.cv hk)) (Nat.le_of_ble_eq_true rfl) rfl rfl ?_
        refine x_wd (fun w1 hw1 => ?_)
        have hO : Oth Z K w w1 := hO.trans (by rw [hw1]; exact Oth.set (kind := 10) (idx := (kCV K k)) (hR.cv hk) _) rfl
        have hR : Rep Z (kPutV (f_sv2 K k) (kCV K k) 4 (kV K (kCV K k) 4 + 1)) J1 w1 := by rw [hw1]; exact hR.putV (hR.cv hk) 4 (by decide) _ (by first | (simp [obj, kV_put, kC_put, kG_put, kCV_put, kC_ofCV, kV_ofCV, kCV_ofC, kCV_ofV]; done) | (simp [obj, kV_put, kC_put, kG_put, kCV_put, kC_ofCV, kV_ofCV, kCV_ofC, kCV_ofV]; exact ⟨rfl, rfl⟩) | (simp [obj, kV_put, kC_put, kG_put, kCV_put, kC_ofCV, kV_ofCV, kCV_ofC, kCV_ofV]; rfl) | (simp [obj, kV_put, kC_put, kG_put, kCV_put, kC_ofCV, kV_ofCV, kCV_ofC, kCV_ofV]; and_intros <;> rfl))
        refine x_aload_n F dX6_isServedCall_84 rfl rfl ?_
        refine x_dup F dX6_isServedCall_85 rfl ?_
        refine x_get (ci := 6) (C := RX6) (T := TX6) (N := 12) (k := 7) F dX6_isServedCall_86 rfl inX6 (by decide) q72 rfl hR.main rfl ?_
        refine x_iconst (v := 1) F dX6_isServedCall_89 (by decide) ?_
        refine x_iadd F dX6_isServedCall_90 ?_
        refine x_put (ci := 6) (C := RX6) (T := TX6) (N := 12) (k := 7) F dX6_isServedCall_91 rfl inX6 tyX6 tyX6_ok nmX6 (by decide) q72 rfl rfl hR.main (Nat.le_of_ble_eq_true rfl) rfl rfl ?_
        refine x_wd (fun w2 hw2 => ?_)
        have hO : Oth Z K w w2 := hO.trans (by rw [hw2]; exact Oth.set (kind := 0) (idx := 0) rfl _) rfl
        have hR : Rep Z (f_sv3 K k) J1 w2 := by rw [hw2]; exact hR.putG 1 _ (by first | (simp [obj, kV_put, kC_put, kG_put, kCV_put, kC_ofCV, kV_ofCV, kCV_ofC, kCV_ofV]; done) | (simp [obj, kV_put, kC_put, kG_put, kCV_put, kC_ofCV, kV_ofCV, kCV_ofC, kCV_ofV]; exact ⟨rfl, rfl⟩) | (simp [obj, kV_put, kC_put, kG_put, kCV_put, kC_ofCV, kV_ofCV, kCV_ofC, kCV_ofV]; rfl) | (simp [obj, kV_put, kC_put, kG_put, kCV_put, kC_ofCV, kV_ofCV, kCV_ofC, kCV_ofV]; and_intros <;> rfl))
        have hR := hR
        refine x_iload F dX6_isServedCall_94 rfl ?_
        refine x_if_ne F dX6_isServedCall_96 rfl (fun hc => absurd hc (by decide)) (fun _ => ?_)
        refine x_aload_n F dX6_isServedCall_99 rfl rfl ?_
        refine x_dup F dX6_isServedCall_100 rfl ?_
        refine x_get (ci := 5) (C := RX5) (T := TX5) (N := 9) (k := 8) F dX6_isServedCall_101 rfl inX5 (by decide) q152 rfl (hR.ver (hR.cv hk)) rfl ?_
        refine x_iconst (v := 1) F dX6_isServedCall_104 (by decide) ?_
        refine x_iadd F dX6_isServedCall_105 ?_
        refine x_put (ci := 5) (C := RX5) (T := TX5) (N := 9) (k := 8) F dX6_isServedCall_106 rfl inX5 tyX5 tyX5_ok nmX5 (by decide) q152 rfl rfl (hR.ver (hR.cv hk)) (Nat.le_of_ble_eq_true rfl) rfl rfl ?_
        refine x_wd (fun w3 hw3 => ?_)
        have hO : Oth Z K w w3 := hO.trans (by rw [hw3]; exact Oth.set (kind := 10) (idx := (kCV K k)) (hR.cv hk) _) rfl
        have hR : Rep Z (kPutV (f_sv3 K k) (kCV K k) 5 (kV K (kCV K k) 5 + x_b (!f_svb K k))) J1 w3 := by rw [hw3]; exact hR.putV (hR.cv hk) 5 (by decide) _ (by rw [hb]; first | (simp [obj, kV_put, kC_put, kG_put, kCV_put, kC_ofCV, kV_ofCV, kCV_ofC, kCV_ofV]; done) | (simp [obj, kV_put, kC_put, kG_put, kCV_put, kC_ofCV, kV_ofCV, kCV_ofC, kCV_ofV]; exact ⟨rfl, rfl⟩) | (simp [obj, kV_put, kC_put, kG_put, kCV_put, kC_ofCV, kV_ofCV, kCV_ofC, kCV_ofV]; rfl) | (simp [obj, kV_put, kC_put, kG_put, kCV_put, kC_ofCV, kV_ofCV, kCV_ofC, kCV_ofV]; and_intros <;> rfl))
        refine x_aload_n F dX6_isServedCall_109 rfl rfl ?_
        refine x_dup F dX6_isServedCall_110 rfl ?_
        refine x_get (ci := 6) (C := RX6) (T := TX6) (N := 12) (k := 8) F dX6_isServedCall_111 rfl inX6 (by decide) q73 rfl hR.main rfl ?_
        refine x_iconst (v := 1) F dX6_isServedCall_114 (by decide) ?_
        refine x_iadd F dX6_isServedCall_115 ?_
        refine x_put (ci := 6) (C := RX6) (T := TX6) (N := 12) (k := 8) F dX6_isServedCall_116 rfl inX6 tyX6 tyX6_ok nmX6 (by decide) q73 rfl rfl hR.main (Nat.le_of_ble_eq_true rfl) rfl rfl ?_
        refine x_wd (fun w4 hw4 => ?_)
        have hO : Oth Z K w w4 := hO.trans (by rw [hw4]; exact Oth.set (kind := 0) (idx := 0) rfl _) rfl
        have hR : Rep Z (f_sv4 K k) J1 w4 := by rw [hw4]; exact hR.putG 2 _ (by rw [hb]; first | (simp [obj, kV_put, kC_put, kG_put, kCV_put, kC_ofCV, kV_ofCV, kCV_ofC, kCV_ofV]; done) | (simp [obj, kV_put, kC_put, kG_put, kCV_put, kC_ofCV, kV_ofCV, kCV_ofC, kCV_ofV]; exact ⟨rfl, rfl⟩) | (simp [obj, kV_put, kC_put, kG_put, kCV_put, kC_ofCV, kV_ofCV, kCV_ofC, kCV_ofV]; rfl) | (simp [obj, kV_put, kC_put, kG_put, kCV_put, kC_ofCV, kV_ofCV, kCV_ofC, kCV_ofV]; and_intros <;> rfl))
        refine x_iload_n F dX6_isServedCall_119 rfl rfl ?_
        refine x_iconst (v := 1) F dX6_isServedCall_120 (by decide) ?_
        refine x_icmp_ne F dX6_isServedCall_121 rfl (fun h121 => ?_) (fun h121 => ?_)
        · have hR : Rep Z (f_serve K k) J1 w4 := by unfold f_serve; rw [decide_eq_false (show ¬ f_svo K k = 1 from h121), kPutG_self (K := f_sv4 K k) (by exact Int32.add_zero _)]; exact hR
          refine x_iload F dX6_isServedCall_134 rfl ?_
          refine x_iret F rfl rfl dX6_isServedCall_136 (Nat.le_refl _) (Nat.le_refl _) ?_
          exact ⟨_, rfl, J1, by rw [hb]; rfl, hR, hO⟩
        · refine x_aload_n F dX6_isServedCall_124 rfl rfl ?_
          refine x_dup F dX6_isServedCall_125 rfl ?_
          refine x_get (ci := 6) (C := RX6) (T := TX6) (N := 12) (k := 9) F dX6_isServedCall_126 rfl inX6 (by decide) q74 rfl hR.main rfl ?_
          refine x_iconst (v := 1) F dX6_isServedCall_129 (by decide) ?_
          refine x_iadd F dX6_isServedCall_130 ?_
          refine x_put (ci := 6) (C := RX6) (T := TX6) (N := 12) (k := 9) F dX6_isServedCall_131 rfl inX6 tyX6 tyX6_ok nmX6 (by decide) q74 rfl rfl hR.main (Nat.le_of_ble_eq_true rfl) rfl rfl ?_
          refine x_wd (fun w5 hw5 => ?_)
          have hO : Oth Z K w w5 := hO.trans (by rw [hw5]; exact Oth.set (kind := 0) (idx := 0) rfl _) rfl
          have hR : Rep Z (f_serve K k) J1 w5 := by rw [hw5]; exact hR.putG 3 _ (by rw [show decide (f_svo K k = 1) = true from decide_eq_true h121]; first | (simp [obj, kV_put, kC_put, kG_put, kCV_put, kC_ofCV, kV_ofCV, kCV_ofC, kCV_ofV]; done) | (simp [obj, kV_put, kC_put, kG_put, kCV_put, kC_ofCV, kV_ofCV, kCV_ofC, kCV_ofV]; exact ⟨rfl, rfl⟩) | (simp [obj, kV_put, kC_put, kG_put, kCV_put, kC_ofCV, kV_ofCV, kCV_ofC, kCV_ofV]; rfl) | (simp [obj, kV_put, kC_put, kG_put, kCV_put, kC_ofCV, kV_ofCV, kCV_ofC, kCV_ofV]; and_intros <;> rfl))
          refine x_iload F dX6_isServedCall_134 rfl ?_
          refine x_iret F rfl rfl dX6_isServedCall_136 (Nat.le_refl _) (Nat.le_refl _) ?_
          exact ⟨_, rfl, J1, by rw [hb]; rfl, hR, hO⟩
      · have hb : f_svb K k = true := by unfold f_svb; rw [decide_eq_true (show f_svo K k = 1 from h54), Bool.or_true]
        have ho1 : f_svo K k = 1 := h54
        refine x_iconst (v := 1) F dX6_isServedCall_57 (by decide) ?_
        refine x_goto F dX6_isServedCall_58 rfl ?_
        refine x_istore F dX6_isServedCall_62 (by decide) ?_
        refine x_aload_n F dX6_isServedCall_64 rfl rfl ?_
        refine x_aload_n F dX6_isServedCall_65 rfl rfl ?_
        refine x_get (ci := 6) (C := RX6) (T := TX6) (N := 12) (k := 6) F dX6_isServedCall_66 rfl inX6 (by decide) q71 rfl hR.main rfl ?_
        refine x_iload F dX6_isServedCall_69 rfl ?_
        refine x_cVv2 (ci := 1) (C := RX1) (T := TX1) (N := 8) F dX6_isServedCall_71 (x_gV q337 q338 q339 q13 q340) rfl (c_noteCall hR hk (kG K 0) true) ⟨rfl, rfl, rfl, xd_X1_noteCall, ⟨Nat.le_of_ble_eq_true rfl, Nat.le_of_ble_eq_true rfl⟩, Nat.le_of_ble_eq_true rfl, Nat.le_of_ble_eq_true rfl⟩ rfl (hR.cli hk) (Nat.le_of_ble_eq_true rfl) (fun w1 hp => ?_)
        obtain ⟨J1, hR, hO2⟩ := hp
        have hO := hO.trans hO2 rfl
        have hR : Rep Z (f_sv2 K k) J1 w1 := by unfold f_sv2; rw [hb]; exact hR
        refine x_aload_n F dX6_isServedCall_74 rfl rfl ?_
        refine x_dup F dX6_isServedCall_75 rfl ?_
        refine x_get (ci := 5) (C := RX5) (T := TX5) (N := 9) (k := 7) F dX6_isServedCall_76 rfl inX5 (by decide) q151 rfl (hR.ver (hR.cv hk)) rfl ?_
        refine x_iconst (v := 1) F dX6_isServedCall_79 (by decide) ?_
        refine x_iadd F dX6_isServedCall_80 ?_
        refine x_put (ci := 5) (C := RX5) (T := TX5) (N := 9) (k := 7) F dX6_isServedCall_81 rfl inX5 tyX5 tyX5_ok nmX5 (by decide) q151 rfl rfl (hR.ver (hR.cv hk)) (Nat.le_of_ble_eq_true rfl) rfl rfl ?_
        refine x_wd (fun w1 hw1 => ?_)
        have hO : Oth Z K w w1 := hO.trans (by rw [hw1]; exact Oth.set (kind := 10) (idx := (kCV K k)) (hR.cv hk) _) rfl
        have hR : Rep Z (kPutV (f_sv2 K k) (kCV K k) 4 (kV K (kCV K k) 4 + 1)) J1 w1 := by rw [hw1]; exact hR.putV (hR.cv hk) 4 (by decide) _ (by first | (simp [obj, kV_put, kC_put, kG_put, kCV_put, kC_ofCV, kV_ofCV, kCV_ofC, kCV_ofV]; done) | (simp [obj, kV_put, kC_put, kG_put, kCV_put, kC_ofCV, kV_ofCV, kCV_ofC, kCV_ofV]; exact ⟨rfl, rfl⟩) | (simp [obj, kV_put, kC_put, kG_put, kCV_put, kC_ofCV, kV_ofCV, kCV_ofC, kCV_ofV]; rfl) | (simp [obj, kV_put, kC_put, kG_put, kCV_put, kC_ofCV, kV_ofCV, kCV_ofC, kCV_ofV]; and_intros <;> rfl))
        refine x_aload_n F dX6_isServedCall_84 rfl rfl ?_
        refine x_dup F dX6_isServedCall_85 rfl ?_
        refine x_get (ci := 6) (C := RX6) (T := TX6) (N := 12) (k := 7) F dX6_isServedCall_86 rfl inX6 (by decide) q72 rfl hR.main rfl ?_
        refine x_iconst (v := 1) F dX6_isServedCall_89 (by decide) ?_
        refine x_iadd F dX6_isServedCall_90 ?_
        refine x_put (ci := 6) (C := RX6) (T := TX6) (N := 12) (k := 7) F dX6_isServedCall_91 rfl inX6 tyX6 tyX6_ok nmX6 (by decide) q72 rfl rfl hR.main (Nat.le_of_ble_eq_true rfl) rfl rfl ?_
        refine x_wd (fun w2 hw2 => ?_)
        have hO : Oth Z K w w2 := hO.trans (by rw [hw2]; exact Oth.set (kind := 0) (idx := 0) rfl _) rfl
        have hR : Rep Z (f_sv3 K k) J1 w2 := by rw [hw2]; exact hR.putG 1 _ (by first | (simp [obj, kV_put, kC_put, kG_put, kCV_put, kC_ofCV, kV_ofCV, kCV_ofC, kCV_ofV]; done) | (simp [obj, kV_put, kC_put, kG_put, kCV_put, kC_ofCV, kV_ofCV, kCV_ofC, kCV_ofV]; exact ⟨rfl, rfl⟩) | (simp [obj, kV_put, kC_put, kG_put, kCV_put, kC_ofCV, kV_ofCV, kCV_ofC, kCV_ofV]; rfl) | (simp [obj, kV_put, kC_put, kG_put, kCV_put, kC_ofCV, kV_ofCV, kCV_ofC, kCV_ofV]; and_intros <;> rfl))
        have hR : Rep Z (f_sv4 K k) J1 w2 := by unfold f_sv4; rw [hb, kPutV_self (K := f_sv3 K k) (by exact Int32.add_zero _), kPutG_self (K := f_sv3 K k) (by exact Int32.add_zero _)]; exact hR
        refine x_iload F dX6_isServedCall_94 rfl ?_
        refine x_if_ne F dX6_isServedCall_96 rfl (fun _ => ?_) (fun hc => absurd hc (by decide))
        refine x_iload_n F dX6_isServedCall_119 rfl rfl ?_
        refine x_iconst (v := 1) F dX6_isServedCall_120 (by decide) ?_
        refine x_icmp_ne F dX6_isServedCall_121 rfl (fun h121 => ?_) (fun h121 => ?_)
        · have hR : Rep Z (f_serve K k) J1 w2 := by unfold f_serve; rw [decide_eq_false (show ¬ f_svo K k = 1 from h121), kPutG_self (K := f_sv4 K k) (by exact Int32.add_zero _)]; exact hR
          refine x_iload F dX6_isServedCall_134 rfl ?_
          refine x_iret F rfl rfl dX6_isServedCall_136 (Nat.le_refl _) (Nat.le_refl _) ?_
          exact ⟨_, rfl, J1, by rw [hb]; rfl, hR, hO⟩
        · refine x_aload_n F dX6_isServedCall_124 rfl rfl ?_
          refine x_dup F dX6_isServedCall_125 rfl ?_
          refine x_get (ci := 6) (C := RX6) (T := TX6) (N := 12) (k := 9) F dX6_isServedCall_126 rfl inX6 (by decide) q74 rfl hR.main rfl ?_
          refine x_iconst (v := 1) F dX6_isServedCall_129 (by decide) ?_
          refine x_iadd F dX6_isServedCall_130 ?_
          refine x_put (ci := 6) (C := RX6) (T := TX6) (N := 12) (k := 9) F dX6_isServedCall_131 rfl inX6 tyX6 tyX6_ok nmX6 (by decide) q74 rfl rfl hR.main (Nat.le_of_ble_eq_true rfl) rfl rfl ?_
          refine x_wd (fun w5 hw5 => ?_)
          have hO : Oth Z K w w5 := hO.trans (by rw [hw5]; exact Oth.set (kind := 0) (idx := 0) rfl _) rfl
          have hR : Rep Z (f_serve K k) J1 w5 := by rw [hw5]; exact hR.putG 3 _ (by rw [show decide (f_svo K k = 1) = true from decide_eq_true h121]; first | (simp [obj, kV_put, kC_put, kG_put, kCV_put, kC_ofCV, kV_ofCV, kCV_ofC, kCV_ofV]; done) | (simp [obj, kV_put, kC_put, kG_put, kCV_put, kC_ofCV, kV_ofCV, kCV_ofC, kCV_ofV]; exact ⟨rfl, rfl⟩) | (simp [obj, kV_put, kC_put, kG_put, kCV_put, kC_ofCV, kV_ofCV, kCV_ofC, kCV_ofV]; rfl) | (simp [obj, kV_put, kC_put, kG_put, kCV_put, kC_ofCV, kV_ofCV, kCV_ofC, kCV_ofV]; and_intros <;> rfl))
          refine x_iload F dX6_isServedCall_134 rfl ?_
          refine x_iret F rfl rfl dX6_isServedCall_136 (Nat.le_refl _) (Nat.le_refl _) ?_
          exact ⟨_, rfl, J1, by rw [hb]; rfl, hR, hO⟩
  have hO : Oth Z K w w := Oth.rfl
  refine x_aload_n F dX6_isServedCall_0 rfl rfl ?_
  refine x_get (ci := 1) (C := RX1) (T := TX1) (N := 8) (k := 4) F dX6_isServedCall_1 rfl inX1 (by decide) q253 rfl (hR.cli hk) rfl ?_
  refine x_astore_n F dX6_isServedCall_4 rfl (by decide) ?_
  refine x_aload_n F dX6_isServedCall_5 rfl rfl ?_
  refine x_get (ci := 5) (C := RX5) (T := TX5) (N := 9) (k := 5) F dX6_isServedCall_6 rfl inX5 (by decide) q149 rfl (hR.ver (hR.cv hk)) rfl ?_
  refine x_iconst (v := 1) F dX6_isServedCall_9 (by decide) ?_
  refine x_icmp_ne F dX6_isServedCall_10 rfl (fun h10 => ?_) (fun h10 => ?_)
  · have hR : Rep Z (f_sv1 K k) J w := by rw [f_sv1_of (f := kVA K (kCV K k)) (if_neg h10), kPutVA_self]; exact hR
    exact x_lk (tail _ _ hR hO) ⟨rfl, rfl, rfl, trivial⟩
  · refine x_aload_n F dX6_isServedCall_13 rfl rfl ?_
    refine x_get (ci := 5) (C := RX5) (T := TX5) (N := 9) (k := 4) F dX6_isServedCall_14 rfl inX5 (by decide) q147 rfl (hR.ver (hR.cv hk)) rfl ?_
    refine x_aload_n F dX6_isServedCall_17 rfl rfl ?_
    refine x_get (ci := 1) (C := RX1) (T := TX1) (N := 8) (k := 0) F dX6_isServedCall_18 rfl inX1 (by decide) q246 rfl (hR.cli hk) rfl ?_
    refine x_aload_n F dX6_isServedCall_21 rfl rfl ?_
    refine x_get (ci := 6) (C := RX6) (T := TX6) (N := 12) (k := 6) F dX6_isServedCall_22 rfl inX6 (by decide) q71 rfl hR.main rfl ?_
    refine x_cVi2 (ci := 3) (C := RX3) (T := TX3) (N := 4) F dX6_isServedCall_25 (x_gV q315 q316 q317 q3 q318) rfl (c_ask hR (hR.cv hk) (kC K k 0) (kG K 0)) ⟨rfl, rfl, rfl, xd_X3_ask, ⟨Nat.le_of_ble_eq_true rfl, Nat.le_of_ble_eq_true rfl⟩, Nat.le_of_ble_eq_true rfl, Nat.le_of_ble_eq_true rfl⟩ rfl (hR.ret (hR.cv hk)) (Nat.le_of_ble_eq_true rfl) (fun v1 w1 hp => ?_)
    obtain ⟨J1, rfl, hR, hO2⟩ := hp
    have hO := hO.trans hO2 rfl
    have hR : Rep Z (f_sv1 K k) J1 w1 := by rw [f_sv1_of (if_pos h10)]; exact hR
    refine x_pop F dX6_isServedCall_28 rfl ?_
    exact x_lk (tail _ _ hR hO) ⟨rfl, rfl, rfl, trivial⟩
end MUT
