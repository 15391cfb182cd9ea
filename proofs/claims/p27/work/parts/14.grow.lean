/-! ===== new interfaces, versions, clients, adapters ===== -/
section GRW
variable {l : Launch} {D : va_G} {dA : Nat → ClassId} {B : Nat} {Z : Nat → Nat → Nat} {K : kT} {J : jT} {w : xW}
/-- cells that are none of the registry's stay, and are none of it afterwards -/
def Keep (Z : Nat → Nat → Nat) (K : kT) (w : xW) (Z1 : Nat → Nat → Nat) (K1 : kT) (w1 : xW) : Prop := ∀ a x, w a = some x → (∀ kd ix, live K kd ix → ¬ a = Z kd ix) → w1 a = some x ∧ ∀ kd ix, live K1 kd ix → ¬ a = Z1 kd ix
theorem Oth.keep {K1 : kT} {w1 : xW} (h : Oth Z K w w1) (hN : kN K1 = kN K) : Keep Z K w Z K1 w1 := by
  intro a x hx ha
  refine ⟨by rw [h a ha]; exact hx, fun kd ix hl => ha kd ix ?_⟩
  revert hl
  unfold live vOk
  split <;> first | exact id | (simp only [nf, nc, na, nv, hN]; exact id)
theorem Keep.trans {Z1 Z2 : Nat → Nat → Nat} {K1 K2 : kT} {w1 w2 : xW} (h : Keep Z K w Z1 K1 w1) (h1 : Keep Z1 K1 w1 Z2 K2 w2) : Keep Z K w Z2 K2 w2 := fun a x hx ha => h1 a x (h a x hx ha).1 (h a x hx ha).2
theorem obj_Z {Z1 : Nat → Nat → Nat} (hwf : kWf K) (hZ : ∀ kd ix, live K kd ix → Z1 kd ix = Z kd ix) {kd ix : Nat} (hl : live K kd ix) : obj Z1 K J kd ix = obj Z K J kd ix := by
  have hv : ∀ f j, f < nf K → j < nv K f → vOk K (6 * f + j) := fun f j hf hj => by
    have := hwf.2.1 f hf
    unfold vOk
    rw [show (6 * f + j) / 6 = f by omega, show (6 * f + j) % 6 = j by omega]
    exact ⟨hf, hj⟩
  rcases kd with _ | _ | _ | _ | _ | _ | _ | _ | _ | _ | _ | _ | _ | _ | _ | _ | _ | kd
  · show (Sum.inr _ : xE) = Sum.inr _
    rw [hZ 1 0 rfl, hZ 2 0 rfl, hZ 3 0 rfl, hZ 4 0 rfl, hZ 6 0 rfl]
  · show aF 4 _ = aF 4 _
    congr 5; funext j
    by_cases h : j < nf K
    · rw [if_pos h, if_pos h, hZ 8 j h]
    · rw [if_neg h, if_neg h]
  · show aC 10 _ = aC 10 _
    congr 5; funext j
    by_cases h : j < nc K
    · rw [if_pos h, if_pos h, hZ 13 j h]
    · rw [if_neg h, if_neg h]
  · show aA 10 _ = aA 10 _
    congr 5; funext j
    by_cases h : j < na K
    · rw [if_pos h, if_pos h, hZ 16 j h]
    · rw [if_neg h, if_neg h]
  · show oRou _ _ _ _ _ = oRou _ _ _ _ _
    rw [hZ 5 0 rfl]
  · rfl
  · show oRet _ _ _ _ = oRet _ _ _ _
    rw [hZ 7 0 rfl]
  · rfl
  · show (Sum.inr _ : xE) = Sum.inr _
    rw [hZ 9 ix hl]
  · show aV 6 _ = aV 6 _
    congr 5; funext j
    by_cases h : j < nv K ix
    · rw [if_pos h, if_pos h, hZ 10 _ (hv ix j hl h)]
    · rw [if_neg h, if_neg h]
  · show (Sum.inr _ : xE) = Sum.inr _
    rw [hZ 8 (ix / 6) hl.1, hZ 11 ix hl]
  · show oRet _ _ _ _ = oRet _ _ _ _
    rw [hZ 12 ix hl]
  · rfl
  · show (Sum.inr _ : xE) = Sum.inr _
    rw [hZ 8 (kCV K ix / 6) (hwf.2.2.2.2.1 ix hl).1, hZ 14 ix hl, hZ 15 ix hl, hZ 10 (kCV K ix) (hwf.2.2.2.2.1 ix hl)]
  · rfl
  · rfl
  · show (Sum.inr _ : xE) = Sum.inr _
    rw [hZ 10 _ (hwf.2.2.2.2.2 ix hl).1, hZ 10 _ (hwf.2.2.2.2.2 ix hl).2]
  · exact absurd hl (by unfold live; simp)
theorem Rep.grow (h : Rep Z K J w) {Z1 : Nat → Nat → Nat} {K1 : kT} {w1 : xW} (new sp : Nat → Nat → Prop) (hl : ∀ kd ix, live K1 kd ix → live K kd ix ∨ new kd ix) (hZ : ∀ kd ix, live K kd ix → Z1 kd ix = Z kd ix) (hfr : ∀ kd ix, new kd ix → w (Z1 kd ix) = none)
    (hinj : ∀ k1 i1 k2 i2, new k1 i1 → new k2 i2 → Z1 k1 i1 = Z1 k2 i2 → k1 = k2 ∧ i1 = i2) (hf : ∀ b, (∀ kd ix, live K kd ix → sp kd ix → ¬ b = Z kd ix) → (∀ kd ix, new kd ix → ¬ b = Z1 kd ix) → w1 b = w b)
    (hobj : ∀ kd ix, live K kd ix → ¬ sp kd ix → obj Z1 K1 J kd ix = obj Z1 K J kd ix) (hsp : ∀ kd ix, live K kd ix → sp kd ix → w1 (Z kd ix) = some (obj Z1 K1 J kd ix)) (hnew : ∀ kd ix, new kd ix → w1 (Z1 kd ix) = some (obj Z1 K1 J kd ix)) (hwf : kWf K1) : Rep Z1 K1 J w1 ∧ Keep Z K w Z1 K1 w1 := by
  have hon : ∀ kd ix k2 i2, live K kd ix → new k2 i2 → ¬ Z kd ix = Z1 k2 i2 := fun kd ix k2 i2 g1 g2 e => by
    have a := h.1 kd ix g1
    rw [e, hfr k2 i2 g2] at a
    cases a
  refine ⟨⟨fun kd ix g => ?_, fun k1 i1 k2 i2 g1 g2 e => ?_, hwf⟩, fun a x hx ha => ⟨?_, fun kd ix g e => ?_⟩⟩
  · rcases hl kd ix g with g | g
    · rw [hZ kd ix g]
      by_cases s : sp kd ix
      · exact hsp kd ix g s
      · rw [hf (Z kd ix) (fun k2 i2 g2 s2 e => s (by obtain ⟨rfl, rfl⟩ := h.inj g g2 e; exact s2)) (fun k2 i2 g2 => hon kd ix k2 i2 g g2), hobj kd ix g s, obj_Z h.2.2 hZ g]
        exact h.1 kd ix g
    · exact hnew kd ix g
  · rcases hl k1 i1 g1 with g1 | g1 <;> rcases hl k2 i2 g2 with g2 | g2
    · rw [hZ _ _ g1, hZ _ _ g2] at e
      exact h.inj g1 g2 e
    · rw [hZ _ _ g1] at e
      exact absurd e (hon k1 i1 k2 i2 g1 g2)
    · rw [hZ _ _ g2] at e
      exact absurd e.symm (hon k2 i2 k1 i1 g2 g1)
    · exact hinj k1 i1 k2 i2 g1 g2 e
  · rw [hf a (fun kd ix g _ => ha kd ix g) (fun kd ix g e => by rw [e, hfr kd ix g] at hx; cases hx)]
    exact hx
  · rcases hl kd ix g with g | g
    · rw [hZ kd ix g] at e
      exact ha kd ix g e
    · rw [e, hfr kd ix g] at hx
      cases hx
def kPutN (K : kT) (j n : Nat) : kT := ((fun b => if b = j then n else kN K b), K.2)
theorem kN_put (K : kT) (j n b : Nat) : kN (kPutN K j n) b = if b = j then n else kN K b := rfl
def kOpen (K : kT) : kT := kPutN (kPutN K 0 (nf K + 1)) (3 + nf K) 0
theorem kOpen_nf (K : kT) : nf (kOpen K) = nf K + 1 := by
  show (if (0:Nat) = 3 + nf K then 0 else if (0:Nat) = 0 then nf K + 1 else kN K 0) = _
  rw [if_neg (by omega), if_pos rfl]
theorem kOpen_nc (K : kT) : nc (kOpen K) = nc K := by simp [nc, kOpen, kN_put]; omega
theorem kOpen_na (K : kT) : na (kOpen K) = na K := by simp [na, kOpen, kN_put]; omega
theorem kOpen_nv (K : kT) (f : Nat) : nv (kOpen K) f = if f = nf K then 0 else nv K f := by
  by_cases h : f = nf K
  · simp [nv, kOpen, kN_put, h]
  · simp [nv, kOpen, kN_put, h, show ¬ 3 + f = 0 by omega]
def kNewV (K : kT) (i : Nat) (h q : Int32) : kT := (K.1, K.2.1, (fun a b => if a = i then (match b with | 0 => h | 1 => q | 6 => -1 | 7 => -1 | _ => 0) else kV K a b), (fun a => if a = i then f_fill 5 (-1) (fun _ => 0) else kVA K a), K.2.2.2.2)
def kPub (K : kT) (f : Nat) (h q : Int32) : kT := kPutN (kNewV K (6 * f + nv K f) h q) (3 + f) (nv K f + 1)
theorem kPub_nf (K : kT) (f : Nat) (h q : Int32) : nf (kPub K f h q) = nf K := by
  show (if (0:Nat) = 3 + f then nv K f + 1 else kN K 0) = _
  rw [if_neg (by omega)]
theorem kPub_nc (K : kT) (f : Nat) (h q : Int32) : nc (kPub K f h q) = nc K := by
  show (if (1:Nat) = 3 + f then nv K f + 1 else kN K 1) = _
  rw [if_neg (by omega)]
theorem kPub_na (K : kT) (f : Nat) (h q : Int32) : na (kPub K f h q) = na K := by
  show (if (2:Nat) = 3 + f then nv K f + 1 else kN K 2) = _
  rw [if_neg (by omega)]
theorem kPub_nv (K : kT) (f : Nat) (h q : Int32) (g : Nat) : nv (kPub K f h q) g = if g = f then nv K f + 1 else nv K g := by
  by_cases e : g = f
  · simp [nv, kPub, kN_put, e]
  · simp [nv, kPub, kN_put, e, show ¬ 3 + g = 3 + f by omega]; rfl
def kNewC (K : kT) (k : Nat) (o u : Int32) (v : Nat) : kT := (K.1, K.2.1, K.2.2.1, K.2.2.2.1, (fun a b => if a = k then (match b with | 0 => o | 1 => u | _ => 0) else kC K a b), (fun a => if a = k then f_fill 6 (-1) (fun _ => 0) else kCL K a), (fun a => if a = k then (fun _ => 0) else kCS K a), (fun a => if a = k then v else kCV K a), K.2.2.2.2.2.2.2.2)
def kCli (K : kT) (o u : Int32) (v : Nat) : kT := kPutN (kNewC K (nc K) o u v) 1 (nc K + 1)
theorem kCli_nf (K : kT) (o u : Int32) (v : Nat) : nf (kCli K o u v) = nf K := by simp [nf, kCli, kN_put]; rfl
theorem kCli_nc (K : kT) (o u : Int32) (v : Nat) : nc (kCli K o u v) = nc K + 1 := by simp [nc, kCli, kN_put]
theorem kCli_na (K : kT) (o u : Int32) (v : Nat) : na (kCli K o u v) = na K := by simp [na, kCli, kN_put]; rfl
theorem kCli_nv (K : kT) (o u : Int32) (v : Nat) (f : Nat) : nv (kCli K o u v) f = nv K f := by simp [nv, kCli, kN_put, show ¬ 3 + f = 1 by omega]; rfl
def kNewA (K : kT) (k x y : Nat) (u v : Int32) : kT := (K.1, K.2.1, K.2.2.1, K.2.2.2.1, K.2.2.2.2.1, K.2.2.2.2.2.1, K.2.2.2.2.2.2.1, K.2.2.2.2.2.2.2.1, (fun a b => if a = k then (match b with | 0 => u | _ => v) else kA K a b), (fun a => if a = k then x else kAF K a), (fun a => if a = k then y else kAT K a))
def kAda (K : kT) (x y : Nat) (u v : Int32) : kT := kPutN (kNewA K (na K) x y u v) 2 (na K + 1)
theorem kAda_nf (K : kT) (x y : Nat) (u v : Int32) : nf (kAda K x y u v) = nf K := by simp [nf, kAda, kN_put]; rfl
theorem kAda_nc (K : kT) (x y : Nat) (u v : Int32) : nc (kAda K x y u v) = nc K := by simp [nc, kAda, kN_put]; rfl
theorem kAda_na (K : kT) (x y : Nat) (u v : Int32) : na (kAda K x y u v) = na K + 1 := by simp [na, kAda, kN_put]
theorem kAda_nv (K : kT) (x y : Nat) (u v : Int32) (f : Nat) : nv (kAda K x y u v) f = nv K f := by simp [nv, kAda, kN_put, show ¬ 3 + f = 2 by omega]; rfl
end GRW
