/-! ===== arrays of arrays ===== -/
/-- the outer array at q, its N rows of K numbers behind it -/
def x_rows (w : xW) (q N K t t0 : Nat) : xW := fun b => if b = q then some (.inl (t, N, .inr (.inr (.inr (.inr (fun i => if i < N then some (q + 1 + i) else none)))))) else if q < b ∧ b ≤ q + N then some (.inl (t0, K, .inl (fun _ => 0))) else w b
theorem x_outer (c : ClassId) (N h0 : Nat) (i : Nat) : Jvm.Free.Multi.outerC c N h0 i = arrV c N (fun j => va_rf (if j < i then some (h0 + 1 + j) else none)) := by
  induction i with
  | zero => exact (arrV_new c N .null).trans (congrArg (arrV c N) (funext fun j => by rw [if_neg (Nat.not_lt_zero j)]; rfl))
  | succ i ih =>
    show (Jvm.Free.Multi.outerC c N h0 i).setSlot i (.ref (h0 + 1 + i)) = _
    rw [ih, arrV_store]
    refine congrArg (arrV c N) (funext fun j => ?_)
    by_cases e : j = i
    · subst e
      rw [if_pos (Nat.lt_succ_self j)]
      exact if_pos rfl
    · refine (if_neg e).trans ?_
      show va_rf (if j < i then some (h0 + 1 + j) else none) = va_rf (if j < i + 1 then some (h0 + 1 + j) else none)
      by_cases h : j < i
      · rw [if_pos h, if_pos (Nat.lt_succ_of_lt h)]
      · rw [if_neg h, if_neg (by omega)]
section GRD
variable {p : Program} {l : Launch} {e : Env} {R : Room} {s : State} {m : MethodId} {args : Array Value} {below : List Frame} {meth : Method} {c : Code} {Q : State → Prop}
variable {D : va_G} {dA : Nat → ClassId} {cl : List vw_C} {tyL : List FieldType} {B nL : Nat} {cells slots pc : Nat} {lv : List (Nat × Value)} {st : List Value} {w : xW}
variable {cc : ByteArray} {own : String} {Ts : List Cond} {ret : Option FieldType} {nm : String}
theorem x_mna (F : x_Fix p s m args meth c cc nL own Ts ret nm D dA cl tyL B) {index : Nat} {n k : Int32} {N K t t0 : Nat} (hd : decode cc pc = .ok (.multianewarray index 2, 4)) (ht : tyL[t]? = some (.array .int)) (ht0 : tyL[t0]? = some .int) (hcl : Cond.classLink own index "[[I" ∈ Ts) (hover : va_Nw (Cond.arrayOver (FieldType.array FieldType.int)) s) (harr : Cond.arrayClass .int ∈ Ts) (hn : ¬ n < 0) (hk : ¬ k < 0) (hN : n.toNatClampNeg = N) (hM : k.toNatClampNeg = K)
    (hb1 : N * 4 ≤ 536870912) (hb2 : K * componentBytes .int ≤ 536870912) (hb3 : K ≤ 536870912) (hcells : cells + (1 + N) ≤ R.cells) (hslots : slots + (N + N * K) ≤ R.slots)
    (kk : ∀ q, (∀ b, q ≤ b → w b = none) → X p l e R s m args below meth c Q D dA cl B nL (cells + 1 + N) (slots + N + N * K) (pc + 4) lv (.ref q :: st) (x_rows w q N K t t0)) : X p l e R s m args below meth c Q D dA cl B nL cells slots pc lv (.int k :: .int n :: st) w := by
  subst hN
  subst hM
  intro H locs ls h1 h2 h3
  intro T hT Xs
  obtain ⟨vm₁, cA, comp, -, fA, fC, hO, -, X', step⟩ := Xs.multianewarray2F (ty := .int) F.1 F.2.2.2.1 (F.2.2.2.2.1 _ hcl) (show (Cond.arrayOver (FieldType.array FieldType.int)).before args s = true from hover) (F.2.2.2.2.1 _ harr) (g := F0 m pc ls (.int k :: .int n :: st)) rfl (by rw [F.2.1]; exact hd) rfl hn hk hb1 hb2 hb3 rfl rfl hcells hslots
  have e1 : cA = dA t := Option.some.inj (fA.symm.trans (F.2.2.2.2.2.1.2 t (dA t, .array .int) (x_tys_at ht)).2)
  have e0 : comp = dA t0 := Option.some.inj (fC.symm.trans (F.2.2.2.2.2.1.2 t0 (dA t0, .int) (x_tys_at ht0)).2)
  subst e1
  subst e0
  generalize hF : Jvm.Free.Multi.fill (T.setVm vm₁) (dA t) (dA t0) n.toNatClampNeg k.toNatClampNeg (defaultValue .int) n.toNatClampNeg = G at X' step
  have hTh : (T.setVm vm₁).heap = H := hT
  obtain ⟨f1, f2, -, -⟩ := Jvm.Free.Multi.fill_facts (T.setVm vm₁) (dA t) (dA t0) n.toNatClampNeg k.toNatClampNeg (defaultValue .int) n.toNatClampNeg
  rw [hF, hTh] at f1 f2
  have hold : ∀ x : Nat, x < H.size → G.heap[x]? = H[x]? := fun x hx => by
    have := Jvm.Free.Multi.fill_old (T.setVm vm₁) (dA t) (dA t0) n.toNatClampNeg k.toNatClampNeg (defaultValue .int) (a := x) (by rw [hTh]; exact hx) n.toNatClampNeg
    rw [hF, hTh] at this
    exact this
  have hrow : ∀ j : Nat, j < n.toNatClampNeg → G.heap[H.size + 1 + j]? = some (vp_cell (dA t0) (k.toNatClampNeg, .inl (fun _ => 0))) := fun j hj => by
    have := Jvm.Free.Multi.fill_inner (T.setVm vm₁) (dA t) (dA t0) n.toNatClampNeg k.toNatClampNeg (defaultValue .int) n.toNatClampNeg j hj
    rw [hF, hTh] at this
    rw [this, vp_cell_i]
    exact congrArg some (arrV_new (dA t0) k.toNatClampNeg (.int 0))
  have hout : Jvm.Free.Multi.outerC (dA t) n.toNatClampNeg H.size n.toNatClampNeg = vp_cell (dA t) (n.toNatClampNeg, .inr (.inr (.inr (.inr (fun i => if i < n.toNatClampNeg then some (H.size + 1 + i) else none))))) := by
    rw [vp_cell_q]
    exact x_outer (dA t) n.toNatClampNeg H.size n.toNatClampNeg
  rw [hout] at f2
  have hB : B ≤ H.size := Nat.le_trans F.2.2.2.2.2.2.1 h2.1
  have hnone : ∀ b, H.size ≤ b → w b = none := fun b hb => by
    cases q : w b with
    | none => rfl
    | some x => exact absurd (h1.lt q) (Nat.not_lt.mpr hb)
  have hP1 : x_P D dA cl B (x_rows w H.size n.toNatClampNeg k.toNatClampNeg t t0) G.heap := by
    intro b x hx
    unfold x_rows at hx
    by_cases g1 : b = H.size
    · rw [if_pos g1] at hx
      cases hx
      rw [g1]
      exact ⟨hB, f2⟩
    · rw [if_neg g1] at hx
      by_cases g2 : H.size < b ∧ b ≤ H.size + n.toNatClampNeg
      · rw [if_pos g2] at hx
        cases hx
        have e3 := hrow (b - H.size - 1) (by omega)
        rw [show H.size + 1 + (b - H.size - 1) = b by omega] at e3
        exact ⟨by omega, e3⟩
      · rw [if_neg g2] at hx
        exact ⟨(h1 b x hx).1, va_at.kept (h1 b x hx).2 (hold b (h1.lt hx))⟩
  obtain ⟨t2, a1, b1⟩ := kk H.size hnone G.heap locs ls hP1 ⟨by rw [f1]; have := h2.1; omega, fun x g1 g2 => (hold x (Nat.lt_of_lt_of_le g1 h2.1)).trans (h2.2.1 x g1 g2), h2.2.2⟩ h3 G rfl X'
  refine ⟨t2, step t2 ?_, b1⟩
  have e : T.heap.size = H.size := by rw [hT]
  rw [e]
  exact a1
theorem x_aaldA (F : x_Fix p s m args meth c cc nL own Ts ret nm D dA cl tyL B) {t a n j : Nat} {f : Nat → Option Nat} {r : Nat} (hd : decode cc pc = .ok (.aaload, 1)) (ht : tyL[t]? = some (.array .int)) (hw : w a = some (.inl (t, n, .inr (.inr (.inr (.inr f)))))) (hj : j < n) (hn : n < 2 ^ 31) (hf : f j = some r) (kk : X p l e R s m args below meth c Q D dA cl B nL cells slots (pc + 1) lv (.ref r :: st) w) : X p l e R s m args below meth c Q D dA cl B nL cells slots pc lv (.int (nI j) :: .ref a :: st) w := by
  intro H locs ls h1 h2 h3
  obtain ⟨i, hi⟩ := h1.at hw
  have hin : vp_in (nI j) n := vp_in_nI hj hn
  have hlt : (nI j).toNatClampNeg < n := by rw [nI_clamp (Nat.lt_trans hj hn)]; exact hj
  exact W.aald (v := .ref r) (ty := .array .int) F.1 F.2.1 (h1.toL i _ hi) ((F.2.2.2.2.2.1.2 t _ (x_tys_at ht)).1 n (fun j => va_rf (f j))) rfl (fun q => by cases q) (by show ¬ (nI j < 0 ∨ (arrV _ _ _).slots.size ≤ _); rw [arrV_size]; exact hin) (by show (arrV _ _ _).slots[_]? = _; rw [arrV_read _ _ hlt, nI_clamp (Nat.lt_trans hj hn), hf]; rfl) rfl rfl hd (kk H locs ls h1 h2 h3)
end GRD
