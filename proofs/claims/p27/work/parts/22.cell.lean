/-! ===== the law's own small methods ===== -/
section LAW
variable {l : Launch} {D : va_G} {dA : Nat → ClassId} {B : Nat} {w : xW}
theorem mask_pos (v : Int32) : ¬ (v &&& 2147483647) < 0 := by
  intro h
  have e : bt (v &&& 2147483647) 31 = false := by
    rw [b_and, show bt 2147483647 31 = false by decide +kernel, Bool.and_false]
  rw [Int32.lt_iff_toInt_lt] at h
  have e2 : (v &&& 2147483647).toBitVec.msb = false := by
    rw [BitVec.msb_eq_getLsbD_last]
    exact e
  have e3 : 0 ≤ (v &&& 2147483647).toBitVec.toInt := by
    rw [BitVec.toInt_eq_msb_cond, e2]
    simp
  have e4 : (0 : Int32).toInt = 0 := by decide
  rw [e4] at h
  exact absurd e3 (Int.not_le.mpr h)
theorem below_spec (v : Int32) {d : Nat} (h0 : 0 < d) (hd : d < 2 ^ 31) : ∃ j, j < d ∧ (Value.int ((v &&& 2147483647) - (v &&& 2147483647) / nI d * nI d)) = .int (nI j) := by
  obtain ⟨a, ha, e⟩ := nI_of (mask_pos v)
  rw [e, pk_rem ha h0 hd]
  exact ⟨a % d, Nat.mod_lt _ h0, rfl⟩
set_option maxRecDepth 100000 in
set_option maxHeartbeats 4000000 in
theorem c_below (v : Int32) {d : Nat} (h0 : 0 < d) (hd : d < 2 ^ 31) : Ci l D dA B yL_below wL_below 0 [.int v, .int (nI d)] w (fun v1 w1 => (∃ j, j < d ∧ v1 = .int (nI j)) ∧ w1 = w) := by
  refine x_Ct.of (cc := cL_below) (maxL := 2) (by decide) rfl (Nat.le_of_ble_eq_true rfl) ?_
  intro p e s m below meth c F
  refine x_iload_n F dL_below_0 rfl rfl ?_
  refine x_ldc F dL_below_1 q428 ?_
  refine x_iand F dL_below_3 ?_
  refine x_iload_n F dL_below_4 rfl rfl ?_
  refine x_irem F dL_below_5 (nI_ne0 h0 hd) ?_
  refine x_iret F rfl rfl dL_below_6 (Nat.le_refl _) (Nat.le_refl _) ?_
  obtain ⟨j, hj, e⟩ := below_spec v h0 hd
  exact ⟨_, rfl, ⟨j, hj, e⟩, rfl⟩
end LAW
/-- a contract of a method that reads the script: it lies ahead of B -/
def x_CtX (l : Launch) (D : va_G) (dA : Nat → ClassId) (cl : List vw_C) (tyL : List FieldType) (B b L : Nat) (xs : Nat → Int32) (y : MethodName) (ws : List Cond) (rm : Room) (av : List Value) (w : xW) (post : Option Value → xW → Prop) (mc ms : Nat) : Prop :=
  Met l y ws rm (va_Pc av (fun U => B ≤ U.heap.size ∧ x_P D dA cl B w U.heap ∧ va_K D cl (x_tys dA tyL) U ∧ x_xt U ∧ va_X b L xs U U.heap)) (x_Q D dA cl tyL B post) mc ms (fun q => B ≤ q)
section XS
variable {p : Program} {l : Launch} {e : Env} {R : Room} {s : State} {m : MethodId} {args : Array Value} {below : List Frame} {meth : Method} {c : Code} {Q : State → Prop}
variable {D : va_G} {dA : Nat → ClassId} {cl : List vw_C} {tyL : List FieldType} {B nL : Nat} {cells slots pc : Nat} {lv : List (Nat × Value)} {st : List Value} {w : xW}
variable {cc : ByteArray} {own : String} {Ts : List Cond} {ret : Option FieldType} {nm : String} {b L : Nat} {xs : Nat → Int32}
theorem x_CtX.of {y : MethodName} {ws ws2 : List Cond} {rm : Room} {av : List Value} {post : Option Value → xW → Prop} {mc ms : Nat} {cc : ByteArray} {maxL : Nat} {rt : Option FieldType} (hy : plainName y.cls = true) (hw : ws = Cond.code y cc maxL rt :: ws2) (hlen : (lg_sl av).length ≤ maxL)
    (body : ∀ (p : Program) (e : Env) (s : State) (m : MethodId) (below : List Frame) (meth : Method) (c : Code), x_Fix p s m av.toArray meth c cc maxL y.cls ws2 rt y.name D dA cl tyL B → va_X b L xs s s.heap → X p l e rm s m av.toArray below meth c (MQ below (x_Q D dA cl tyL B post) av.toArray s mc ms (fun q => B ≤ q)) D dA cl B maxL 0 0 0 (lv_args 0 av) [] w) : x_CtX l D dA cl tyL B b L xs y ws rm av w post mc ms := by
  refine Met.ofW (cc := cc) (maxL := maxL) (ret := rt) hy hw ?_
  intro p e s m args below meth c s₁ B0 hml hv
  obtain ⟨rfl, hB, hP, hK, hX, hS⟩ := hv
  have hl := lv_entry av hlen
  rw [lg_entry_eq]
  exact body p e s m below meth c ⟨B0.exec, B0.bytes, hml, findClass_of_methodNamed B0.named, (fun q hq => atoms_spec (ws := ws) B0.pre q (by rw [hw]; exact List.mem_cons_of_mem _ hq)), hK, hB, B0.returns, B0.notSynchronized, (name_of_methodNamed B0.named B0.method).1, hX⟩ hS s.heap [] _ hP va_S.rf hl
theorem x_sld (F : x_Fix p s m args meth c cc nL own Ts ret nm D dA cl tyL B) (hX : va_X b L xs s s.heap) (hb : b < B) {i : Int32} (hin : vp_in i L) (hd : decode cc pc = .ok (.iaload, 1)) (k : X p l e R s m args below meth c Q D dA cl B nL cells slots (pc + 1) lv (.int (xs i.toNatClampNeg) :: st) w) : X p l e R s m args below meth c Q D dA cl B nL cells slots pc lv (.int i :: .ref b :: st) w :=
  fun H locs ls h1 h2 h3 => va_sld F.1 F.2.1 hX (Nat.lt_of_lt_of_le hb F.2.2.2.2.2.2.1) (Nat.not_le.mpr hb) h2 hin hd (k H locs ls h1 h2 h3)
theorem x_slen (F : x_Fix p s m args meth c cc nL own Ts ret nm D dA cl tyL B) (hX : va_X b L xs s s.heap) (hb : b < B) (hd : decode cc pc = .ok (.arraylength, 1)) (k : X p l e R s m args below meth c Q D dA cl B nL cells slots (pc + 1) lv (.int (nI L) :: st) w) : X p l e R s m args below meth c Q D dA cl B nL cells slots pc lv (.ref b :: st) w :=
  fun H locs ls h1 h2 h3 => va_slen F.1 F.2.1 hX (Nat.lt_of_lt_of_le hb F.2.2.2.2.2.2.1) (Nat.not_le.mpr hb) h2 hd (k H locs ls h1 h2 h3)
theorem x_blindX {av : List Value} : FrameBlind (va_Pc av (fun U => B ≤ U.heap.size ∧ x_P D dA cl B w U.heap ∧ va_K D cl (x_tys dA tyL) U ∧ x_xt U ∧ va_X b L xs U U.heap)) :=
  fun a U g mk q => ⟨q.1, q.2.1, q.2.2.1, va_K.moved (u := U) (U := U.calling g mk a) (Vm.Alike.refl U.vm) q.2.2.2.1, x_xt.same (u := U) (U := U.calling g mk a) rfl q.2.2.2.2.1, va_X.moved (u := U) (U := U.calling g mk a) (Vm.Alike.refl U.vm) q.2.2.2.2.2⟩
theorem x_callX (F : x_Fix p s m args meth c cc nL own Ts ret nm D dA cl tyL B) {index maxL n mc ms : Nat} {y : MethodName} {bytes : ByteArray} {rt : Option FieldType} {ws ws2 : List Cond} {rm : Room} {av rest : List Value} {post : Option Value → xW → Prop} (hd : decode cc pc = .ok (.invokestatic index, 3)) (hG : GoodIn Ts (va_wsS own index y ws)) (hX : va_X b L xs s s.heap) (hb : b < B) (hM : x_CtX l D dA cl tyL B b L xs y ws rm av w post mc ms) (hC : x_call R cells slots rm mc ms ws ws2 y bytes maxL rt n) (hn : av.length = n) (hst : st = av.reverse ++ rest) (hcat : (rest.map fun v => v.category).sum ≤ 8) (k : ∀ r w1, post r w1 → X p l e R s m args below meth c Q D dA cl B nL (cells + mc) (slots + ms) (pc + 3) lv (r.toList ++ rest) w1) : X p l e R s m args below meth c Q D dA cl B nL cells slots pc lv st w := by
  intro H locs ls h1 h2 h3
  obtain ⟨c1, c2, c3, c4, c5, c6⟩ := hC
  exact x_goes h2 h3 (va_runS (As := av) (rest := rest) ⟨F.1, F.2.1, F.2.2.1, F.2.2.2.1, F.2.2.2.2.1⟩ hM (va_cwS n F.2.2.2.2.1 hG c1 c2 c3 c4 c5) ⟨x_blindX, fun U hU hW => ⟨rfl, by rw [hU]; exact Nat.le_trans F.2.2.2.2.2.2.1 h2.1, by rw [hU]; exact h1, va_K.moved hW.alike F.2.2.2.2.2.1, x_xt.warm hW F.2.2.2.2.2.2.2.2.2.2, by rw [hU]; exact (va_X.moved hW.alike hX).kept (h2.2.1 b (Nat.lt_of_lt_of_le hb F.2.2.2.2.2.2.1) (Nat.not_le.mpr hb))⟩⟩ rfl hn h3.1 hst (lv_room hcat) hd c6) k
theorem x_cCell (F : x_Fix p s m args meth c cc nL own Ts ret nm D dA cl tyL B) {index : Nat} {maxL mc ms : Nat} {y : MethodName} {bytes : ByteArray} {ws ws2 : List Cond} {rm : Room} {rt : Option FieldType} {v1 v2 : Value} {post : Value → xW → Prop} (hd : decode cc pc = .ok (.invokestatic index, 3)) (hG : GoodIn Ts (va_wsS own index y ws)) (hX : va_X b L xs s s.heap) (hb : b < B) (hM : x_CtX l D dA cl tyL B b L xs y ws rm [v1, v2] w (fun r w1 => ∃ v, r = some v ∧ post v w1) mc ms) (hC : x_call R cells slots rm mc ms ws ws2 y bytes maxL rt 2) (hcat : (st.map fun v => v.category).sum ≤ 8) (k : ∀ v w1, post v w1 → X p l e R s m args below meth c Q D dA cl B nL (cells + mc) (slots + ms) (pc + 3) lv (v :: st) w1) : X p l e R s m args below meth c Q D dA cl B nL cells slots pc lv (v2 :: v1 :: st) w :=
  x_callX (av := [v1, v2]) (rest := st) F hd hG hX hb hM hC rfl rfl hcat (fun r w1 ⟨v, hv, hp⟩ => by subst hv; exact k v w1 hp)
end XS
section CEL
variable {l : Launch} {D : va_G} {dA : Nat → ClassId} {B b L : Nat} {xs : Nat → Int32} {w : xW}
set_option maxRecDepth 100000 in
theorem c_cell (hb : b < B) (hL : L ≤ 260) {j : Nat} (hj : j < 1000) : x_CtX l D dA vwCl tyL0 B b L xs yL_cell wL_cell (rmd 0 0 0) [.ref b, .int (nI j)] w (fun r w1 => ∃ v, r = some v ∧ ((∃ x, v = .int x) ∧ w1 = w)) 0 0 := by
  refine x_CtX.of (cc := cL_cell) (maxL := 2) (by decide) rfl (Nat.le_of_ble_eq_true rfl) ?_
  intro p e s m below meth c F hX
  refine x_iload_n F dL_cell_0 rfl rfl ?_
  refine x_aload_n F dL_cell_1 rfl rfl ?_
  refine x_slen F hX hb dL_cell_2 ?_
  refine x_icmp_ge F dL_cell_3 rfl (fun h3 => ?_) (fun h3 => ?_)
  · refine x_ldc F dL_cell_12 q432 ?_
    refine x_iload_n F dL_cell_14 rfl rfl ?_
    refine x_iconst (v := 3) F dL_cell_15 (by decide) ?_
    refine x_iadd F dL_cell_16 ?_
    refine x_imul F dL_cell_17 ?_
    refine x_iret F rfl rfl dL_cell_18 (Nat.le_refl _) (Nat.le_refl _) ?_
    exact ⟨_, rfl, ⟨_, rfl⟩, rfl⟩
  · refine x_aload_n F dL_cell_6 rfl rfl ?_
    refine x_iload_n F dL_cell_7 rfl rfl ?_
    refine x_sld F hX hb (vp_in_nI (n := j) (by rw [nI_leI (by omega) (by omega)] at h3; omega) (by omega)) dL_cell_8 ?_
    refine x_goto F dL_cell_9 rfl ?_
    refine x_iret F rfl rfl dL_cell_18 (Nat.le_refl _) (Nat.le_refl _) ?_
    exact ⟨_, rfl, ⟨_, rfl⟩, rfl⟩
end CEL
