/-! ===== the X layer: the kit's rows over a world that is a function from addresses to what lies there ===== -/
abbrev xE : Type := (Nat × vp_A) ⊕ (Nat × List Value)
abbrev xW : Type := Nat → Option xE
def x_em (dA : Nat → ClassId) (x : xE) : va_E := match x with
  | .inl a => .inl (dA a.1, a.2)
  | .inr o => .inr o
def x_set (w : xW) (a : Nat) (x : xE) : xW := fun b => if b = a then some x else w b
theorem x_set_eq (w : xW) (a : Nat) (x : xE) : x_set w a x a = some x := if_pos rfl
theorem x_set_ne (w : xW) {a b : Nat} (x : xE) (h : ¬ b = a) : x_set w a x b = w b := if_neg h
/-- the heap holds the world; all its cells lie at B or above -/
def x_P (D : va_G) (dA : Nat → ClassId) (cl : List vw_C) (B : Nat) (w : xW) (H : Heap) : Prop := ∀ (a : Nat) (x : xE), w a = some x → B ≤ a ∧ va_at D cl (a, x_em dA x) H
def x_tys (dA : Nat → ClassId) (tyL : List FieldType) : List (ClassId × FieldType) := (List.range tyL.length).map (fun t => (dA t, tyL.getD t .int))
theorem x_tys_at {dA : Nat → ClassId} {tyL : List FieldType} {t : Nat} {ty : FieldType} (h : tyL[t]? = some ty) : (x_tys dA tyL)[t]? = some (dA t, ty) := by
  have hl : t < tyL.length := (List.getElem?_eq_some_iff.mp h).1
  unfold x_tys
  rw [List.getElem?_map, List.getElem?_range hl]
  simp [List.getD, h]
/-- the world as a list, up to an address -/
def x_L (dA : Nat → ClassId) (w : xW) (n : Nat) : va_W := (List.range n).filterMap (fun a => (w a).map (fun x => (a, x_em dA x)))
theorem x_L_mem {dA : Nat → ClassId} {w : xW} {n : Nat} {q : Nat × va_E} (h : q ∈ x_L dA w n) : q.1 < n ∧ ∃ x, w q.1 = some x ∧ q.2 = x_em dA x := by
  obtain ⟨a, ha, hq⟩ := List.mem_filterMap.mp h
  cases hw : w a with
  | none => rw [hw] at hq; cases hq
  | some x =>
    rw [hw] at hq
    cases hq
    exact ⟨List.mem_range.mp ha, x, hw, rfl⟩
theorem x_L_of {dA : Nat → ClassId} {w : xW} {n a : Nat} {x : xE} (hw : w a = some x) (ha : a < n) : (a, x_em dA x) ∈ x_L dA w n :=
  List.mem_filterMap.mpr ⟨a, List.mem_range.mpr ha, by rw [hw]; rfl⟩
theorem x_L_pw (dA : Nat → ClassId) (w : xW) (n : Nat) : (x_L dA w n).Pairwise (fun p q => p.1 < q.1) := by
  unfold x_L
  rw [List.pairwise_filterMap]
  refine List.Pairwise.imp ?_ List.pairwise_lt_range
  intro a b hab p hp q hq
  cases ha : w a with
  | none => rw [ha] at hp; cases hp
  | some x =>
    cases hb : w b with
    | none => rw [hb] at hq; cases hq
    | some y =>
      rw [ha] at hp
      rw [hb] at hq
      cases hp
      cases hq
      exact hab
theorem x_L_inj {dA : Nat → ClassId} {w : xW} {n i j : Nat} {p q : Nat × va_E} (hi : (x_L dA w n)[i]? = some p) (hj : (x_L dA w n)[j]? = some q) (h : p.1 = q.1) : i = j := by
  have hp := List.pairwise_iff_getElem.mp (x_L_pw dA w n)
  obtain ⟨li, ei⟩ := List.getElem?_eq_some_iff.mp hi
  obtain ⟨lj, ej⟩ := List.getElem?_eq_some_iff.mp hj
  rcases Nat.lt_trichotomy i j with hlt | heq | hgt
  · have := hp i j li lj hlt
    rw [ei, ej] at this
    omega
  · exact heq
  · have := hp j i lj li hgt
    rw [ei, ej] at this
    omega
theorem x_P.lt {D : va_G} {dA : Nat → ClassId} {cl : List vw_C} {B : Nat} {w : xW} {H : Heap} (h : x_P D dA cl B w H) {a : Nat} {x : xE} (hw : w a = some x) : a < H.size :=
  va_at.lt (h a x hw).2
theorem x_P.toL {D : va_G} {dA : Nat → ClassId} {cl : List vw_C} {B : Nat} {w : xW} {H : Heap} (h : x_P D dA cl B w H) : va_P D cl (x_L dA w H.size) H := by
  intro k q hk
  obtain ⟨-, x, hx, he⟩ := x_L_mem (List.mem_of_getElem? hk)
  have := (h q.1 x hx).2
  rw [← he] at this
  exact this
theorem x_P.toD {D : va_G} {dA : Nat → ClassId} {cl : List vw_C} {B : Nat} {w : xW} {H : Heap} (h : x_P D dA cl B w H) : va_D (fun q => B ≤ q) (x_L dA w H.size) := by
  refine ⟨fun i j p q hi hj e => x_L_inj hi hj e, fun k q hk => ?_⟩
  obtain ⟨-, x, hx, he⟩ := x_L_mem (List.mem_of_getElem? hk)
  exact (h q.1 x hx).1
theorem x_P.at {D : va_G} {dA : Nat → ClassId} {cl : List vw_C} {B : Nat} {w : xW} {H : Heap} (h : x_P D dA cl B w H) {a : Nat} {x : xE} (hw : w a = some x) : ∃ i : Nat, (x_L dA w H.size)[i]? = some (a, x_em dA x) :=
  List.getElem?_of_mem (x_L_of hw (h.lt hw))
theorem x_P.ofSet {D : va_G} {dA : Nat → ClassId} {cl : List vw_C} {B : Nat} {w : xW} {H H1 : Heap} (h : x_P D dA cl B w H) {i a : Nat} {x0 x : xE} (hw : w a = some x0) (hi : (x_L dA w H.size)[i]? = some (a, x_em dA x0)) (hP : va_P D cl ((x_L dA w H.size).set i (a, x_em dA x)) H1) : x_P D dA cl B (x_set w a x) H1 := by
  intro b y hb
  by_cases hba : b = a
  · subst hba
    rw [x_set_eq] at hb
    cases hb
    refine ⟨(h b x0 hw).1, hP i _ ?_⟩
    exact List.getElem?_set_self (List.getElem?_eq_some_iff.mp hi).1
  · rw [x_set_ne _ _ hba] at hb
    obtain ⟨j, hj⟩ := h.at hb
    refine ⟨(h b y hb).1, hP j _ ?_⟩
    rw [List.getElem?_set_ne]
    · exact hj
    · intro hij
      subst hij
      rw [hi] at hj
      exact hba (congrArg Prod.fst (Option.some.inj hj)).symm
theorem x_P.ofPush {D : va_G} {dA : Nat → ClassId} {cl : List vw_C} {B : Nat} {w : xW} {H H1 : Heap} (h : x_P D dA cl B w H) {a : Nat} {x : xE} (ha : B ≤ a) (hP : va_P D cl (x_L dA w H.size ++ [(a, x_em dA x)]) H1) (hD : va_D (fun q => B ≤ q) (x_L dA w H.size ++ [(a, x_em dA x)])) : w a = none ∧ x_P D dA cl B (x_set w a x) H1 := by
  have hlast : (x_L dA w H.size ++ [(a, x_em dA x)])[(x_L dA w H.size).length]? = some (a, x_em dA x) := by simp
  have hf : w a = none := by
    cases hw : w a with
    | none => rfl
    | some y =>
      obtain ⟨j, hj⟩ := h.at hw
      have hjl := (List.getElem?_eq_some_iff.mp hj).1
      have hj' : (x_L dA w H.size ++ [(a, x_em dA x)])[j]? = some (a, x_em dA y) := by rw [List.getElem?_append_left hjl]; exact hj
      have := hD.1 _ _ _ _ hj' hlast rfl
      omega
  refine ⟨hf, fun b y hb => ?_⟩
  by_cases hba : b = a
  · subst hba
    rw [x_set_eq] at hb
    cases hb
    exact ⟨ha, hP _ _ hlast⟩
  · rw [x_set_ne _ _ hba] at hb
    obtain ⟨j, hj⟩ := h.at hb
    refine ⟨(h b y hb).1, hP j _ ?_⟩
    rw [List.getElem?_append_left (List.getElem?_eq_some_iff.mp hj).1]
    exact hj
/-- the locals: reading, and both kinds of writing -/
def x_ld (lv : List (Nat × Value)) (i : Nat) : Option Value := match lv with
  | [] => none
  | q :: t => if q.1 = i then some q.2 else x_ld t i
theorem x_ld_has {ls : Array Slot} {n : Nat} {lv : List (Nat × Value)} (h : lv_has ls n lv) {i : Nat} {v : Value} (hl : x_ld lv i = some v) : ls[i]? = some (.val v) := by
  obtain ⟨-, -, h3⟩ := h
  induction lv with
  | nil => cases hl
  | cons q t ih =>
    unfold x_ld at hl
    by_cases hq : q.1 = i
    · rw [if_pos hq] at hl
      cases hl
      rw [← hq]
      exact h3 q List.mem_cons_self
    · rw [if_neg hq] at hl
      exact ih hl (fun q hq => h3 q (List.mem_cons_of_mem _ hq))
def x_st1 (lv : List (Nat × Value)) (i : Nat) (v : Value) : List (Nat × Value) := (i, v) :: lv.filter (fun q => !(q.1 == i) && !(q.1 + 1 == i && q.2.category == 2))
def x_st2 (lv : List (Nat × Value)) (i : Nat) (v : Value) : List (Nat × Value) := (i, v) :: lv.filter (fun q => !(q.1 == i) && (!(q.1 == i + 1) && !(q.1 + 1 == i && q.2.category == 2)))
def x_sub (lv lv' : List (Nat × Value)) : Prop := match lv' with
  | [] => True
  | q :: t => x_ld lv q.1 = some q.2 ∧ x_sub lv t
theorem x_sub_has {ls : Array Slot} {n : Nat} {lv lv' : List (Nat × Value)} (h : lv_has ls n lv) (hs : x_sub lv lv') : lv_has ls n lv' := by
  refine ⟨h.1, h.2.1, ?_⟩
  induction lv' with
  | nil => intro q hq; cases hq
  | cons q t ih =>
    intro r hr
    rcases List.mem_cons.mp hr with rfl | hr
    · exact x_ld_has h hs.1
    · exact ih hs.2 r hr
/-- what the old heap holds that is read: the lists' first array, what a throw reads -/
def x_hs (dA : Nat → ClassId) (B : Nat) (U : State) (H : Heap) : Prop :=
  va_Z "java/util/ArrayList" "DEFAULTCAPACITY_EMPTY_ELEMENTDATA" "[Ljava/lang/Object;" (.ref (dA 99)) (fun q => B ≤ q) U H ∧ va_T (.object "java/lang/Object") (dA 99) 0 (fun _ => .null) (fun q => B ≤ q) U H ∧
  vx_Zq Bundle.tN "UNASSIGNED_STACK" Bundle.steD (fun q => B ≤ q) U H ∧ vx_Zq Bundle.tN "SUPPRESSED_SENTINEL" Bundle.listD (fun q => B ≤ q) U H
theorem x_hs.moved {dA : Nat → ClassId} {B : Nat} {u U : State} {H : Heap} (hvm : u.vm.Alike U.vm) (h : x_hs dA B u H) : x_hs dA B U H := ⟨h.1.moved hvm, h.2.1.moved hvm, h.2.2.1.moved hvm, h.2.2.2.moved hvm⟩
theorem x_hs.kept {dA : Nat → ClassId} {B : Nat} {U : State} {H H1 : Heap} (h : x_hs dA B U H) (hq : ∀ a : Nat, a < H.size → ¬ B ≤ a → H1[a]? = H[a]?) : x_hs dA B U H1 := ⟨h.1.kept hq, h.2.1.kept hq, h.2.2.1.kept hq, h.2.2.2.kept hq⟩
def x_ev (dA : Nat → ClassId) (B : Nat) (U : State) : Prop := x_xt U ∧ x_hs dA B U U.heap
theorem x_ev.call {dA : Nat → ClassId} {B : Nat} {s U : State} {H : Heap} {locs : List Loc} (hW : s.WarmedH U.vm) (hU : U.heap = H) (h2 : va_S (fun q => B ≤ q) s.heap H locs) (h : x_ev dA B s) : x_ev dA B U :=
  ⟨x_xt.warm hW h.1, by rw [hU]; exact (h.2.kept h2.2.1).moved hW.alike⟩
theorem x_ev.same {dA : Nat → ClassId} {B : Nat} {u U : State} (hv : u.vm = U.vm) (hh : u.heap = U.heap) (h : x_ev dA B u) : x_ev dA B U :=
  ⟨x_xt.same hv h.1, by rw [← hh]; exact h.2.moved (by rw [hv]; exact Vm.Alike.refl _)⟩
/-- what stays the same in a method's body -/
def x_Fix (p : Program) (s : State) (m : MethodId) (args : Array Value) (meth : Method) (c : Code) (cc : ByteArray) (nL : Nat) (own : String) (Ts : List Cond) (ret : Option FieldType) (nm : String) (D : va_G) (dA : Nat → ClassId) (cl : List vw_C) (tyL : List FieldType) (B : Nat) : Prop :=
  p.tables.exec = Jvm.exec ∧ c.code = cc ∧ c.maxLocals = nL ∧ s.vm.findClass own = some m.cls ∧ (∀ w ∈ Ts, w.before args s = true) ∧ va_K D cl (x_tys dA tyL) s ∧ B ≤ s.heap.size ∧ meth.sig.returnType = ret ∧ meth.locks = false ∧ meth.name = nm ∧ x_ev dA B s
/-- the machine goes on well from here, whatever heap holds the world -/
def X (p : Program) (l : Launch) (e : Env) (R : Room) (s : State) (m : MethodId) (args : Array Value) (below : List Frame) (meth : Method) (c : Code) (Q : State → Prop) (D : va_G) (dA : Nat → ClassId) (cl : List vw_C) (B nL : Nat) (cells slots pc : Nat) (lv : List (Nat × Value)) (st : List Value) (w : xW) : Prop :=
  ∀ (H : Heap) (locs : List Loc) (ls : Array Slot), x_P D dA cl B w H → va_S (fun q => B ≤ q) s.heap H locs → lv_has ls nL lv → W p l e R s m args below meth c H locs cells slots Q (F0 m pc ls st)
/-- what a method gives back, and the world behind it -/
def x_Q (D : va_G) (dA : Nat → ClassId) (cl : List vw_C) (tyL : List FieldType) (B : Nat) (post : Option Value → xW → Prop) : Array Value → State → Outcome → State → Prop := fun _ st oc t =>
  (∃ (r : Option Value) (w1 : xW), oc = .returned r ∧ post r w1 ∧ x_P D dA cl B w1 t.heap ∧ va_K D cl (x_tys dA tyL) t) ∧ va_F (fun q => B ≤ q) st t
/-- a contract: called with av over the world w, the method returns, and 'post' holds of what it gives back and of the world then -/
def x_Ct (l : Launch) (D : va_G) (dA : Nat → ClassId) (cl : List vw_C) (tyL : List FieldType) (B : Nat) (y : MethodName) (ws : List Cond) (rm : Room) (av : List Value) (w : xW) (post : Option Value → xW → Prop) (mc ms : Nat) : Prop :=
  Met l y ws rm (va_Pc av (fun U => B ≤ U.heap.size ∧ x_P D dA cl B w U.heap ∧ va_K D cl (x_tys dA tyL) U ∧ x_ev dA B U)) (x_Q D dA cl tyL B post) mc ms (fun q => B ≤ q)
section XL
variable {p : Program} {l : Launch} {e : Env} {R : Room} {s : State} {m : MethodId} {args : Array Value} {below : List Frame} {meth : Method} {c : Code} {Q : State → Prop}
variable {D : va_G} {dA : Nat → ClassId} {cl : List vw_C} {tyL : List FieldType} {B nL : Nat} {cells slots pc : Nat} {lv : List (Nat × Value)} {st : List Value} {w : xW}
variable {cc : ByteArray} {own : String} {Ts : List Cond} {ret : Option FieldType} {nm : String}

theorem x_iconst (F : x_Fix p s m args meth c cc nL own Ts ret nm D dA cl tyL B) {n : Int} {v : Int32} (hd : decode cc pc = .ok (.iconst n, 1)) (hv : Int32.ofInt n = v) (k : X p l e R s m args below meth c Q D dA cl B nL cells slots (pc + 1) lv (.int v :: st) w) : X p l e R s m args below meth c Q D dA cl B nL cells slots pc lv st w :=
  fun H locs ls h1 h2 h3 => lv_iconst F.1 F.2.1 hd hv (k H locs ls h1 h2 h3)
theorem x_bipush (F : x_Fix p s m args meth c cc nL own Ts ret nm D dA cl tyL B) {n : Int} {v : Int32} (hd : decode cc pc = .ok (.bipush n, 2)) (hv : (Int8.ofInt n).toInt32 = v) (k : X p l e R s m args below meth c Q D dA cl B nL cells slots (pc + 2) lv (.int v :: st) w) : X p l e R s m args below meth c Q D dA cl B nL cells slots pc lv st w :=
  fun H locs ls h1 h2 h3 => lv_bipush F.1 F.2.1 hd hv (k H locs ls h1 h2 h3)
theorem x_sipush (F : x_Fix p s m args meth c cc nL own Ts ret nm D dA cl tyL B) {n : Int} {v : Int32} (hd : decode cc pc = .ok (.sipush n, 3)) (hv : (Int16.ofInt n).toInt32 = v) (k : X p l e R s m args below meth c Q D dA cl B nL cells slots (pc + 3) lv (.int v :: st) w) : X p l e R s m args below meth c Q D dA cl B nL cells slots pc lv st w :=
  fun H locs ls h1 h2 h3 => lv_sipush F.1 F.2.1 hd hv (k H locs ls h1 h2 h3)
theorem x_null (F : x_Fix p s m args meth c cc nL own Ts ret nm D dA cl tyL B)  (hd : decode cc pc = .ok (.aconst_null, 1)) (k : X p l e R s m args below meth c Q D dA cl B nL cells slots (pc + 1) lv (.null :: st) w) : X p l e R s m args below meth c Q D dA cl B nL cells slots pc lv st w :=
  fun H locs ls h1 h2 h3 => lv_null F.1 F.2.1 hd (k H locs ls h1 h2 h3)
theorem x_iload_n (F : x_Fix p s m args meth c cc nL own Ts ret nm D dA cl tyL B) {k : Fin 4} {i : Nat} {x : Int32} (hd : decode cc pc = .ok (.iload_n k, 1)) (hi : (k : Nat) = i) (hl : x_ld lv i = some (.int x)) (k : X p l e R s m args below meth c Q D dA cl B nL cells slots (pc + 1) lv (.int x :: st) w) : X p l e R s m args below meth c Q D dA cl B nL cells slots pc lv st w :=
  fun H locs ls h1 h2 h3 => lv_iload_n F.1 F.2.1 hd hi (x_ld_has h3 hl) (k H locs ls h1 h2 h3)
theorem x_iload (F : x_Fix p s m args meth c cc nL own Ts ret nm D dA cl tyL B) {i : Nat} {x : Int32} (hd : decode cc pc = .ok (.iload i, 2)) (hl : x_ld lv i = some (.int x)) (k : X p l e R s m args below meth c Q D dA cl B nL cells slots (pc + 2) lv (.int x :: st) w) : X p l e R s m args below meth c Q D dA cl B nL cells slots pc lv st w :=
  fun H locs ls h1 h2 h3 => lv_iload F.1 F.2.1 hd (x_ld_has h3 hl) (k H locs ls h1 h2 h3)
theorem x_lload_n (F : x_Fix p s m args meth c cc nL own Ts ret nm D dA cl tyL B) {k : Fin 4} {i : Nat} {x : Int64} (hd : decode cc pc = .ok (.lload_n k, 1)) (hi : (k : Nat) = i) (hl : x_ld lv i = some (.long x)) (k : X p l e R s m args below meth c Q D dA cl B nL cells slots (pc + 1) lv (.long x :: st) w) : X p l e R s m args below meth c Q D dA cl B nL cells slots pc lv st w :=
  fun H locs ls h1 h2 h3 => lv_lload_n F.1 F.2.1 hd hi (x_ld_has h3 hl) (k H locs ls h1 h2 h3)
theorem x_lload (F : x_Fix p s m args meth c cc nL own Ts ret nm D dA cl tyL B) {i : Nat} {x : Int64} (hd : decode cc pc = .ok (.lload i, 2)) (hl : x_ld lv i = some (.long x)) (k : X p l e R s m args below meth c Q D dA cl B nL cells slots (pc + 2) lv (.long x :: st) w) : X p l e R s m args below meth c Q D dA cl B nL cells slots pc lv st w :=
  fun H locs ls h1 h2 h3 => lv_lload F.1 F.2.1 hd (x_ld_has h3 hl) (k H locs ls h1 h2 h3)
theorem x_aload_n (F : x_Fix p s m args meth c cc nL own Ts ret nm D dA cl tyL B) {k : Fin 4} {i : Nat} {x : Nat} (hd : decode cc pc = .ok (.aload_n k, 1)) (hi : (k : Nat) = i) (hl : x_ld lv i = some (.ref x)) (k : X p l e R s m args below meth c Q D dA cl B nL cells slots (pc + 1) lv (.ref x :: st) w) : X p l e R s m args below meth c Q D dA cl B nL cells slots pc lv st w :=
  fun H locs ls h1 h2 h3 => lv_aload_n F.1 F.2.1 hd hi (x_ld_has h3 hl) (k H locs ls h1 h2 h3)
theorem x_aload (F : x_Fix p s m args meth c cc nL own Ts ret nm D dA cl tyL B) {i : Nat} {x : Nat} (hd : decode cc pc = .ok (.aload i, 2)) (hl : x_ld lv i = some (.ref x)) (k : X p l e R s m args below meth c Q D dA cl B nL cells slots (pc + 2) lv (.ref x :: st) w) : X p l e R s m args below meth c Q D dA cl B nL cells slots pc lv st w :=
  fun H locs ls h1 h2 h3 => lv_aload F.1 F.2.1 hd (x_ld_has h3 hl) (k H locs ls h1 h2 h3)
theorem x_aload_nN (F : x_Fix p s m args meth c cc nL own Ts ret nm D dA cl tyL B) {k : Fin 4} {i : Nat} (hd : decode cc pc = .ok (.aload_n k, 1)) (hi : (k : Nat) = i) (hl : x_ld lv i = some .null) (k : X p l e R s m args below meth c Q D dA cl B nL cells slots (pc + 1) lv (.null :: st) w) : X p l e R s m args below meth c Q D dA cl B nL cells slots pc lv st w :=
  fun H locs ls h1 h2 h3 => lv_aload_nN F.1 F.2.1 hd hi (x_ld_has h3 hl) (k H locs ls h1 h2 h3)
theorem x_aloadN (F : x_Fix p s m args meth c cc nL own Ts ret nm D dA cl tyL B) {i : Nat} (hd : decode cc pc = .ok (.aload i, 2)) (hl : x_ld lv i = some .null) (k : X p l e R s m args below meth c Q D dA cl B nL cells slots (pc + 2) lv (.null :: st) w) : X p l e R s m args below meth c Q D dA cl B nL cells slots pc lv st w :=
  fun H locs ls h1 h2 h3 => lv_aloadN F.1 F.2.1 hd (x_ld_has h3 hl) (k H locs ls h1 h2 h3)
theorem x_aload_nQ (F : x_Fix p s m args meth c cc nL own Ts ret nm D dA cl tyL B) {k : Fin 4} {i : Nat} {o : Option Nat} (hd : decode cc pc = .ok (.aload_n k, 1)) (hi : (k : Nat) = i) (hl : x_ld lv i = some (va_rf o)) (k : X p l e R s m args below meth c Q D dA cl B nL cells slots (pc + 1) lv (va_rf o :: st) w) : X p l e R s m args below meth c Q D dA cl B nL cells slots pc lv st w := by
  cases o with
  | none => exact x_aload_nN F hd hi hl k
  | some a => exact x_aload_n F hd hi hl k
theorem x_aloadQ (F : x_Fix p s m args meth c cc nL own Ts ret nm D dA cl tyL B) {i : Nat} {o : Option Nat} (hd : decode cc pc = .ok (.aload i, 2)) (hl : x_ld lv i = some (va_rf o)) (k : X p l e R s m args below meth c Q D dA cl B nL cells slots (pc + 2) lv (va_rf o :: st) w) : X p l e R s m args below meth c Q D dA cl B nL cells slots pc lv st w := by
  cases o with
  | none => exact x_aloadN F hd hl k
  | some a => exact x_aload F hd hl k
theorem x_istore_n (F : x_Fix p s m args meth c cc nL own Ts ret nm D dA cl tyL B) {k : Fin 4} {i : Nat} {x : Int32} (hd : decode cc pc = .ok (.istore_n k, 1)) (hi : (k : Nat) = i) (hn : i < nL) (kk : X p l e R s m args below meth c Q D dA cl B nL cells slots (pc + 1) (x_st1 lv i (.int x)) st w) : X p l e R s m args below meth c Q D dA cl B nL cells slots pc lv (.int x :: st) w :=
  fun H locs ls h1 h2 h3 => lv_istore_n F.1 F.2.1 hd hi h3 hn rfl (fun ls' h4 => kk H locs ls' h1 h2 h4)
theorem x_istore (F : x_Fix p s m args meth c cc nL own Ts ret nm D dA cl tyL B) {i : Nat} {x : Int32} (hd : decode cc pc = .ok (.istore i, 2)) (hn : i < nL) (kk : X p l e R s m args below meth c Q D dA cl B nL cells slots (pc + 2) (x_st1 lv i (.int x)) st w) : X p l e R s m args below meth c Q D dA cl B nL cells slots pc lv (.int x :: st) w :=
  fun H locs ls h1 h2 h3 => lv_istore F.1 F.2.1 hd h3 hn rfl (fun ls' h4 => kk H locs ls' h1 h2 h4)
theorem x_lstore_n (F : x_Fix p s m args meth c cc nL own Ts ret nm D dA cl tyL B) {k : Fin 4} {i : Nat} {x : Int64} (hd : decode cc pc = .ok (.lstore_n k, 1)) (hi : (k : Nat) = i) (hn : i + 1 < nL) (kk : X p l e R s m args below meth c Q D dA cl B nL cells slots (pc + 1) (x_st2 lv i (.long x)) st w) : X p l e R s m args below meth c Q D dA cl B nL cells slots pc lv (.long x :: st) w :=
  fun H locs ls h1 h2 h3 => lv_lstore_n F.1 F.2.1 hd hi h3 hn rfl (fun ls' h4 => kk H locs ls' h1 h2 h4)
theorem x_lstore (F : x_Fix p s m args meth c cc nL own Ts ret nm D dA cl tyL B) {i : Nat} {x : Int64} (hd : decode cc pc = .ok (.lstore i, 2)) (hn : i + 1 < nL) (kk : X p l e R s m args below meth c Q D dA cl B nL cells slots (pc + 2) (x_st2 lv i (.long x)) st w) : X p l e R s m args below meth c Q D dA cl B nL cells slots pc lv (.long x :: st) w :=
  fun H locs ls h1 h2 h3 => lv_lstore F.1 F.2.1 hd h3 hn rfl (fun ls' h4 => kk H locs ls' h1 h2 h4)
theorem x_astore_n (F : x_Fix p s m args meth c cc nL own Ts ret nm D dA cl tyL B) {k : Fin 4} {i : Nat} {x : Nat} (hd : decode cc pc = .ok (.astore_n k, 1)) (hi : (k : Nat) = i) (hn : i < nL) (kk : X p l e R s m args below meth c Q D dA cl B nL cells slots (pc + 1) (x_st1 lv i (.ref x)) st w) : X p l e R s m args below meth c Q D dA cl B nL cells slots pc lv (.ref x :: st) w :=
  fun H locs ls h1 h2 h3 => lv_astore_n F.1 F.2.1 hd hi h3 hn rfl (fun ls' h4 => kk H locs ls' h1 h2 h4)
theorem x_astore (F : x_Fix p s m args meth c cc nL own Ts ret nm D dA cl tyL B) {i : Nat} {x : Nat} (hd : decode cc pc = .ok (.astore i, 2)) (hn : i < nL) (kk : X p l e R s m args below meth c Q D dA cl B nL cells slots (pc + 2) (x_st1 lv i (.ref x)) st w) : X p l e R s m args below meth c Q D dA cl B nL cells slots pc lv (.ref x :: st) w :=
  fun H locs ls h1 h2 h3 => lv_astore F.1 F.2.1 hd h3 hn rfl (fun ls' h4 => kk H locs ls' h1 h2 h4)
theorem x_astore_nN (F : x_Fix p s m args meth c cc nL own Ts ret nm D dA cl tyL B) {k : Fin 4} {i : Nat} (hd : decode cc pc = .ok (.astore_n k, 1)) (hi : (k : Nat) = i) (hn : i < nL) (kk : X p l e R s m args below meth c Q D dA cl B nL cells slots (pc + 1) (x_st1 lv i (.null)) st w) : X p l e R s m args below meth c Q D dA cl B nL cells slots pc lv (.null :: st) w :=
  fun H locs ls h1 h2 h3 => lv_astore_nN F.1 F.2.1 hd hi h3 hn rfl (fun ls' h4 => kk H locs ls' h1 h2 h4)
theorem x_astoreN (F : x_Fix p s m args meth c cc nL own Ts ret nm D dA cl tyL B) {i : Nat} (hd : decode cc pc = .ok (.astore i, 2)) (hn : i < nL) (kk : X p l e R s m args below meth c Q D dA cl B nL cells slots (pc + 2) (x_st1 lv i (.null)) st w) : X p l e R s m args below meth c Q D dA cl B nL cells slots pc lv (.null :: st) w :=
  fun H locs ls h1 h2 h3 => lv_astoreN F.1 F.2.1 hd h3 hn rfl (fun ls' h4 => kk H locs ls' h1 h2 h4)
theorem x_astore_nQ (F : x_Fix p s m args meth c cc nL own Ts ret nm D dA cl tyL B) {k : Fin 4} {i : Nat} {o : Option Nat} (hd : decode cc pc = .ok (.astore_n k, 1)) (hi : (k : Nat) = i) (hn : i < nL) (kk : X p l e R s m args below meth c Q D dA cl B nL cells slots (pc + 1) (x_st1 lv i (va_rf o)) st w) : X p l e R s m args below meth c Q D dA cl B nL cells slots pc lv (va_rf o :: st) w := by
  cases o with
  | none => exact x_astore_nN F hd hi hn kk
  | some a => exact x_astore_n F hd hi hn kk
theorem x_astoreQ (F : x_Fix p s m args meth c cc nL own Ts ret nm D dA cl tyL B) {i : Nat} {o : Option Nat} (hd : decode cc pc = .ok (.astore i, 2)) (hn : i < nL) (kk : X p l e R s m args below meth c Q D dA cl B nL cells slots (pc + 2) (x_st1 lv i (va_rf o)) st w) : X p l e R s m args below meth c Q D dA cl B nL cells slots pc lv (va_rf o :: st) w := by
  cases o with
  | none => exact x_astoreN F hd hn kk
  | some a => exact x_astore F hd hn kk
theorem x_iinc (F : x_Fix p s m args meth c cc nL own Ts ret nm D dA cl tyL B) {i : Nat} {n : Int} {x v : Int32} (hd : decode cc pc = .ok (.iinc i n, 3)) (hv : Int32.ofInt n = v) (hl : x_ld lv i = some (.int x)) (hn : i < nL) (kk : X p l e R s m args below meth c Q D dA cl B nL cells slots (pc + 3) (x_st1 ((i, .int x) :: lv) i (.int (x + v))) st w) : X p l e R s m args below meth c Q D dA cl B nL cells slots pc lv st w :=
  fun H locs ls h1 h2 h3 => lv_iinc (k := 0) (lv := (i, .int x) :: lv) F.1 F.2.1 hd ⟨h3.1, h3.2.1, fun q hq => (List.mem_cons.mp hq).elim (fun h => h ▸ x_ld_has h3 hl) (fun h => h3.2.2 q h)⟩ rfl (by rw [hv]) hn rfl (fun ls' h4 => kk H locs ls' h1 h2 h4)
theorem x_iadd (F : x_Fix p s m args meth c cc nL own Ts ret nm D dA cl tyL B) {x y : Int32} (hd : decode cc pc = .ok (.iadd, 1)) (k : X p l e R s m args below meth c Q D dA cl B nL cells slots (pc + 1) lv (.int (x + y) :: st) w) : X p l e R s m args below meth c Q D dA cl B nL cells slots pc lv (.int y :: .int x :: st) w :=
  fun H locs ls h1 h2 h3 => lv_iadd F.1 F.2.1 hd (k H locs ls h1 h2 h3)
theorem x_isub (F : x_Fix p s m args meth c cc nL own Ts ret nm D dA cl tyL B) {x y : Int32} (hd : decode cc pc = .ok (.isub, 1)) (k : X p l e R s m args below meth c Q D dA cl B nL cells slots (pc + 1) lv (.int (x - y) :: st) w) : X p l e R s m args below meth c Q D dA cl B nL cells slots pc lv (.int y :: .int x :: st) w :=
  fun H locs ls h1 h2 h3 => lv_isub F.1 F.2.1 hd (k H locs ls h1 h2 h3)
theorem x_imul (F : x_Fix p s m args meth c cc nL own Ts ret nm D dA cl tyL B) {x y : Int32} (hd : decode cc pc = .ok (.imul, 1)) (k : X p l e R s m args below meth c Q D dA cl B nL cells slots (pc + 1) lv (.int (x * y) :: st) w) : X p l e R s m args below meth c Q D dA cl B nL cells slots pc lv (.int y :: .int x :: st) w :=
  fun H locs ls h1 h2 h3 => lv_imul F.1 F.2.1 hd (k H locs ls h1 h2 h3)
theorem x_iand (F : x_Fix p s m args meth c cc nL own Ts ret nm D dA cl tyL B) {x y : Int32} (hd : decode cc pc = .ok (.iand, 1)) (k : X p l e R s m args below meth c Q D dA cl B nL cells slots (pc + 1) lv (.int (x &&& y) :: st) w) : X p l e R s m args below meth c Q D dA cl B nL cells slots pc lv (.int y :: .int x :: st) w :=
  fun H locs ls h1 h2 h3 => lv_iand F.1 F.2.1 hd (k H locs ls h1 h2 h3)
theorem x_ior (F : x_Fix p s m args meth c cc nL own Ts ret nm D dA cl tyL B) {x y : Int32} (hd : decode cc pc = .ok (.ior, 1)) (k : X p l e R s m args below meth c Q D dA cl B nL cells slots (pc + 1) lv (.int (x ||| y) :: st) w) : X p l e R s m args below meth c Q D dA cl B nL cells slots pc lv (.int y :: .int x :: st) w :=
  fun H locs ls h1 h2 h3 => lv_ior F.1 F.2.1 hd (k H locs ls h1 h2 h3)
theorem x_ixor (F : x_Fix p s m args meth c cc nL own Ts ret nm D dA cl tyL B) {x y : Int32} (hd : decode cc pc = .ok (.ixor, 1)) (k : X p l e R s m args below meth c Q D dA cl B nL cells slots (pc + 1) lv (.int (x ^^^ y) :: st) w) : X p l e R s m args below meth c Q D dA cl B nL cells slots pc lv (.int y :: .int x :: st) w :=
  fun H locs ls h1 h2 h3 => lv_ixor F.1 F.2.1 hd (k H locs ls h1 h2 h3)
theorem x_ishl (F : x_Fix p s m args meth c cc nL own Ts ret nm D dA cl tyL B) {x y : Int32} (hd : decode cc pc = .ok (.ishl, 1)) (k : X p l e R s m args below meth c Q D dA cl B nL cells slots (pc + 1) lv (.int (x <<< (y &&& 31)) :: st) w) : X p l e R s m args below meth c Q D dA cl B nL cells slots pc lv (.int y :: .int x :: st) w :=
  fun H locs ls h1 h2 h3 => lv_ishl F.1 F.2.1 hd (k H locs ls h1 h2 h3)
theorem x_ishr (F : x_Fix p s m args meth c cc nL own Ts ret nm D dA cl tyL B) {x y : Int32} (hd : decode cc pc = .ok (.ishr, 1)) (k : X p l e R s m args below meth c Q D dA cl B nL cells slots (pc + 1) lv (.int (x >>> (y &&& 31)) :: st) w) : X p l e R s m args below meth c Q D dA cl B nL cells slots pc lv (.int y :: .int x :: st) w :=
  fun H locs ls h1 h2 h3 => lv_ishr F.1 F.2.1 hd (k H locs ls h1 h2 h3)
theorem x_idiv (F : x_Fix p s m args meth c cc nL own Ts ret nm D dA cl tyL B) {x y : Int32} (hd : decode cc pc = .ok (.idiv, 1)) (hne : ¬ y = 0) (k : X p l e R s m args below meth c Q D dA cl B nL cells slots (pc + 1) lv (.int (x / y) :: st) w) : X p l e R s m args below meth c Q D dA cl B nL cells slots pc lv (.int y :: .int x :: st) w :=
  fun H locs ls h1 h2 h3 => lv_idiv F.1 F.2.1 hd hne (k H locs ls h1 h2 h3)
theorem x_irem (F : x_Fix p s m args meth c cc nL own Ts ret nm D dA cl tyL B) {x y : Int32} (hd : decode cc pc = .ok (.irem, 1)) (hne : ¬ y = 0) (k : X p l e R s m args below meth c Q D dA cl B nL cells slots (pc + 1) lv (.int (x - x / y * y) :: st) w) : X p l e R s m args below meth c Q D dA cl B nL cells slots pc lv (.int y :: .int x :: st) w :=
  fun H locs ls h1 h2 h3 => lv_irem F.1 F.2.1 hd hne (k H locs ls h1 h2 h3)
theorem x_ineg (F : x_Fix p s m args meth c cc nL own Ts ret nm D dA cl tyL B) {x : Int32} (hd : decode cc pc = .ok (.ineg, 1)) (k : X p l e R s m args below meth c Q D dA cl B nL cells slots (pc + 1) lv (.int (-x) :: st) w) : X p l e R s m args below meth c Q D dA cl B nL cells slots pc lv (.int x :: st) w :=
  fun H locs ls h1 h2 h3 => lv_ineg F.1 F.2.1 hd (k H locs ls h1 h2 h3)
theorem x_iushr (F : x_Fix p s m args meth c cc nL own Ts ret nm D dA cl tyL B) {x y : Int32} (hd : decode cc pc = .ok (.iushr, 1)) (k : X p l e R s m args below meth c Q D dA cl B nL cells slots (pc + 1) lv (.int ((x.toUInt32 >>> (y.toUInt32 &&& Int32.toUInt32 31)).toInt32) :: st) w) : X p l e R s m args below meth c Q D dA cl B nL cells slots pc lv (.int y :: .int x :: st) w :=
  fun H locs ls h1 h2 h3 => lv_iushr F.1 F.2.1 hd rfl (k H locs ls h1 h2 h3)
theorem x_ladd (F : x_Fix p s m args meth c cc nL own Ts ret nm D dA cl tyL B) {x y : Int64} (hd : decode cc pc = .ok (.ladd, 1)) (k : X p l e R s m args below meth c Q D dA cl B nL cells slots (pc + 1) lv (.long (x + y) :: st) w) : X p l e R s m args below meth c Q D dA cl B nL cells slots pc lv (.long y :: .long x :: st) w :=
  fun H locs ls h1 h2 h3 => lv_ladd F.1 F.2.1 hd (k H locs ls h1 h2 h3)
theorem x_lmul (F : x_Fix p s m args meth c cc nL own Ts ret nm D dA cl tyL B) {x y : Int64} (hd : decode cc pc = .ok (.lmul, 1)) (k : X p l e R s m args below meth c Q D dA cl B nL cells slots (pc + 1) lv (.long (x * y) :: st) w) : X p l e R s m args below meth c Q D dA cl B nL cells slots pc lv (.long y :: .long x :: st) w :=
  fun H locs ls h1 h2 h3 => lv_lmul F.1 F.2.1 hd (k H locs ls h1 h2 h3)
theorem x_lsub (F : x_Fix p s m args meth c cc nL own Ts ret nm D dA cl tyL B) {x y : Int64} (hd : decode cc pc = .ok (.lsub, 1)) (k : X p l e R s m args below meth c Q D dA cl B nL cells slots (pc + 1) lv (.long (x - y) :: st) w) : X p l e R s m args below meth c Q D dA cl B nL cells slots pc lv (.long y :: .long x :: st) w :=
  fun H locs ls h1 h2 h3 => lv_lsub F.1 F.2.1 hd (k H locs ls h1 h2 h3)
theorem x_i2l (F : x_Fix p s m args meth c cc nL own Ts ret nm D dA cl tyL B) {x : Int32} (hd : decode cc pc = .ok (.i2l, 1)) (k : X p l e R s m args below meth c Q D dA cl B nL cells slots (pc + 1) lv (.long x.toInt64 :: st) w) : X p l e R s m args below meth c Q D dA cl B nL cells slots pc lv (.int x :: st) w :=
  fun H locs ls h1 h2 h3 => lv_i2l F.1 F.2.1 hd rfl (k H locs ls h1 h2 h3)
theorem x_dup (F : x_Fix p s m args meth c cc nL own Ts ret nm D dA cl tyL B) {va : Value} (hd : decode cc pc = .ok (.dup, 1)) (hva : va.category = 1) (k : X p l e R s m args below meth c Q D dA cl B nL cells slots (pc + 1) lv (va :: va :: st) w) : X p l e R s m args below meth c Q D dA cl B nL cells slots pc lv (va :: st) w :=
  fun H locs ls h1 h2 h3 => lv_dup F.1 F.2.1 hd hva (k H locs ls h1 h2 h3)
theorem x_dup2 (F : x_Fix p s m args meth c cc nL own Ts ret nm D dA cl tyL B) {va vb : Value} (hd : decode cc pc = .ok (.dup2, 1)) (hva : va.category = 1) (hvb : vb.category = 1) (k : X p l e R s m args below meth c Q D dA cl B nL cells slots (pc + 1) lv (va :: vb :: va :: vb :: st) w) : X p l e R s m args below meth c Q D dA cl B nL cells slots pc lv (va :: vb :: st) w :=
  fun H locs ls h1 h2 h3 => lv_dup2_11 F.1 F.2.1 hd hva hvb (k H locs ls h1 h2 h3)
theorem x_dup_x1 (F : x_Fix p s m args meth c cc nL own Ts ret nm D dA cl tyL B) {va vb : Value} (hd : decode cc pc = .ok (.dup_x1, 1)) (hva : va.category = 1) (hvb : vb.category = 1) (k : X p l e R s m args below meth c Q D dA cl B nL cells slots (pc + 1) lv (va :: vb :: va :: st) w) : X p l e R s m args below meth c Q D dA cl B nL cells slots pc lv (va :: vb :: st) w :=
  fun H locs ls h1 h2 h3 => lv_dup_x1 F.1 F.2.1 hd hva hvb (k H locs ls h1 h2 h3)
theorem x_pop (F : x_Fix p s m args meth c cc nL own Ts ret nm D dA cl tyL B) {va : Value} (hd : decode cc pc = .ok (.pop, 1)) (hva : va.category = 1) (k : X p l e R s m args below meth c Q D dA cl B nL cells slots (pc + 1) lv st w) : X p l e R s m args below meth c Q D dA cl B nL cells slots pc lv (va :: st) w :=
  fun H locs ls h1 h2 h3 => lv_pop F.1 F.2.1 hd hva (k H locs ls h1 h2 h3)
theorem x_lcmp (F : x_Fix p s m args meth c cc nL own Ts ret nm D dA cl tyL B) {x y : Int64} (hd : decode cc pc = .ok (.lcmp, 1)) (k : X p l e R s m args below meth c Q D dA cl B nL cells slots (pc + 1) lv (.int (lg_cmp x y) :: st) w) : X p l e R s m args below meth c Q D dA cl B nL cells slots pc lv (.long y :: .long x :: st) w :=
  fun H locs ls h1 h2 h3 => W.lcmp F.1 F.2.1 hd (k H locs ls h1 h2 h3)
theorem x_ldc (F : x_Fix p s m args meth c cc nL own Ts ret nm D dA cl tyL B) {index : Nat} {v : Int32} (hd : decode cc pc = .ok (.ldc index, 2)) (hw : Cond.constant own index v ∈ Ts) (k : X p l e R s m args below meth c Q D dA cl B nL cells slots (pc + 2) lv (.int v :: st) w) : X p l e R s m args below meth c Q D dA cl B nL cells slots pc lv st w :=
  fun H locs ls h1 h2 h3 => lv_ldc F.1 F.2.1 F.2.2.2.1 (F.2.2.2.2.1 _ hw) hd (k H locs ls h1 h2 h3)
theorem x_ldcw (F : x_Fix p s m args meth c cc nL own Ts ret nm D dA cl tyL B) {index : Nat} {v : Int32} (hd : decode cc pc = .ok (.ldc_w index, 3)) (hw : Cond.constant own index v ∈ Ts) (k : X p l e R s m args below meth c Q D dA cl B nL cells slots (pc + 3) lv (.int v :: st) w) : X p l e R s m args below meth c Q D dA cl B nL cells slots pc lv st w :=
  fun H locs ls h1 h2 h3 => lv_ldcw F.1 F.2.1 F.2.2.2.1 (F.2.2.2.2.1 _ hw) hd (k H locs ls h1 h2 h3)
theorem x_ldc2 (F : x_Fix p s m args meth c cc nL own Ts ret nm D dA cl tyL B) {index : Nat} {v : Int64} (hd : decode cc pc = .ok (.ldc2_w index, 3)) (hw : Cond.constantLong own index v ∈ Ts) (k : X p l e R s m args below meth c Q D dA cl B nL cells slots (pc + 3) lv (.long v :: st) w) : X p l e R s m args below meth c Q D dA cl B nL cells slots pc lv st w :=
  fun H locs ls h1 h2 h3 => lv_ldc2 F.1 F.2.1 F.2.2.2.1 (F.2.2.2.2.1 _ hw) hd (k H locs ls h1 h2 h3)
theorem x_if_eq (F : x_Fix p s m args meth c cc nL own Ts ret nm D dA cl tyL B) {x : Int32} {off : Int} {tgt : Nat} (hd : decode cc pc = .ok (.ifCond .eq off, 3)) (ht : (pc : Int) + off = (tgt : Int)) (kt : (x = 0) → X p l e R s m args below meth c Q D dA cl B nL cells slots tgt lv st w) (kf : (¬ x = 0) → X p l e R s m args below meth c Q D dA cl B nL cells slots (pc + 3) lv st w) : X p l e R s m args below meth c Q D dA cl B nL cells slots pc lv (.int x :: st) w :=
  fun H locs ls h1 h2 h3 => lv_if_eq F.1 F.2.1 hd ht (fun hc => kt hc H locs ls h1 h2 h3) (fun hc => kf hc H locs ls h1 h2 h3)
theorem x_if_ne (F : x_Fix p s m args meth c cc nL own Ts ret nm D dA cl tyL B) {x : Int32} {off : Int} {tgt : Nat} (hd : decode cc pc = .ok (.ifCond .ne off, 3)) (ht : (pc : Int) + off = (tgt : Int)) (kt : (¬ x = 0) → X p l e R s m args below meth c Q D dA cl B nL cells slots tgt lv st w) (kf : (x = 0) → X p l e R s m args below meth c Q D dA cl B nL cells slots (pc + 3) lv st w) : X p l e R s m args below meth c Q D dA cl B nL cells slots pc lv (.int x :: st) w :=
  fun H locs ls h1 h2 h3 => lv_if_ne F.1 F.2.1 hd ht (fun hc => kt hc H locs ls h1 h2 h3) (fun hc => kf hc H locs ls h1 h2 h3)
theorem x_if_lt (F : x_Fix p s m args meth c cc nL own Ts ret nm D dA cl tyL B) {x : Int32} {off : Int} {tgt : Nat} (hd : decode cc pc = .ok (.ifCond .lt off, 3)) (ht : (pc : Int) + off = (tgt : Int)) (kt : (x < 0) → X p l e R s m args below meth c Q D dA cl B nL cells slots tgt lv st w) (kf : (¬ x < 0) → X p l e R s m args below meth c Q D dA cl B nL cells slots (pc + 3) lv st w) : X p l e R s m args below meth c Q D dA cl B nL cells slots pc lv (.int x :: st) w :=
  fun H locs ls h1 h2 h3 => lv_if_lt F.1 F.2.1 hd ht (fun hc => kt hc H locs ls h1 h2 h3) (fun hc => kf hc H locs ls h1 h2 h3)
theorem x_if_ge (F : x_Fix p s m args meth c cc nL own Ts ret nm D dA cl tyL B) {x : Int32} {off : Int} {tgt : Nat} (hd : decode cc pc = .ok (.ifCond .ge off, 3)) (ht : (pc : Int) + off = (tgt : Int)) (kt : (0 ≤ x) → X p l e R s m args below meth c Q D dA cl B nL cells slots tgt lv st w) (kf : (¬ 0 ≤ x) → X p l e R s m args below meth c Q D dA cl B nL cells slots (pc + 3) lv st w) : X p l e R s m args below meth c Q D dA cl B nL cells slots pc lv (.int x :: st) w :=
  fun H locs ls h1 h2 h3 => lv_if_ge F.1 F.2.1 hd ht (fun hc => kt hc H locs ls h1 h2 h3) (fun hc => kf hc H locs ls h1 h2 h3)
theorem x_if_gt (F : x_Fix p s m args meth c cc nL own Ts ret nm D dA cl tyL B) {x : Int32} {off : Int} {tgt : Nat} (hd : decode cc pc = .ok (.ifCond .gt off, 3)) (ht : (pc : Int) + off = (tgt : Int)) (kt : (0 < x) → X p l e R s m args below meth c Q D dA cl B nL cells slots tgt lv st w) (kf : (¬ 0 < x) → X p l e R s m args below meth c Q D dA cl B nL cells slots (pc + 3) lv st w) : X p l e R s m args below meth c Q D dA cl B nL cells slots pc lv (.int x :: st) w :=
  fun H locs ls h1 h2 h3 => lv_if_gt F.1 F.2.1 hd ht (fun hc => kt hc H locs ls h1 h2 h3) (fun hc => kf hc H locs ls h1 h2 h3)
theorem x_if_le (F : x_Fix p s m args meth c cc nL own Ts ret nm D dA cl tyL B) {x : Int32} {off : Int} {tgt : Nat} (hd : decode cc pc = .ok (.ifCond .le off, 3)) (ht : (pc : Int) + off = (tgt : Int)) (kt : (x ≤ 0) → X p l e R s m args below meth c Q D dA cl B nL cells slots tgt lv st w) (kf : (¬ x ≤ 0) → X p l e R s m args below meth c Q D dA cl B nL cells slots (pc + 3) lv st w) : X p l e R s m args below meth c Q D dA cl B nL cells slots pc lv (.int x :: st) w :=
  fun H locs ls h1 h2 h3 => lv_if_le F.1 F.2.1 hd ht (fun hc => kt hc H locs ls h1 h2 h3) (fun hc => kf hc H locs ls h1 h2 h3)
theorem x_icmp_eq (F : x_Fix p s m args meth c cc nL own Ts ret nm D dA cl tyL B) {x y : Int32} {off : Int} {tgt : Nat} (hd : decode cc pc = .ok (.if_icmp .eq off, 3)) (ht : (pc : Int) + off = (tgt : Int)) (kt : (x = y) → X p l e R s m args below meth c Q D dA cl B nL cells slots tgt lv st w) (kf : (¬ x = y) → X p l e R s m args below meth c Q D dA cl B nL cells slots (pc + 3) lv st w) : X p l e R s m args below meth c Q D dA cl B nL cells slots pc lv (.int y :: .int x :: st) w :=
  fun H locs ls h1 h2 h3 => lv_icmp_eq F.1 F.2.1 hd ht (fun hc => kt hc H locs ls h1 h2 h3) (fun hc => kf hc H locs ls h1 h2 h3)
theorem x_icmp_ne (F : x_Fix p s m args meth c cc nL own Ts ret nm D dA cl tyL B) {x y : Int32} {off : Int} {tgt : Nat} (hd : decode cc pc = .ok (.if_icmp .ne off, 3)) (ht : (pc : Int) + off = (tgt : Int)) (kt : (¬ x = y) → X p l e R s m args below meth c Q D dA cl B nL cells slots tgt lv st w) (kf : (x = y) → X p l e R s m args below meth c Q D dA cl B nL cells slots (pc + 3) lv st w) : X p l e R s m args below meth c Q D dA cl B nL cells slots pc lv (.int y :: .int x :: st) w :=
  fun H locs ls h1 h2 h3 => lv_icmp_ne F.1 F.2.1 hd ht (fun hc => kt hc H locs ls h1 h2 h3) (fun hc => kf hc H locs ls h1 h2 h3)
theorem x_icmp_lt (F : x_Fix p s m args meth c cc nL own Ts ret nm D dA cl tyL B) {x y : Int32} {off : Int} {tgt : Nat} (hd : decode cc pc = .ok (.if_icmp .lt off, 3)) (ht : (pc : Int) + off = (tgt : Int)) (kt : (x < y) → X p l e R s m args below meth c Q D dA cl B nL cells slots tgt lv st w) (kf : (¬ x < y) → X p l e R s m args below meth c Q D dA cl B nL cells slots (pc + 3) lv st w) : X p l e R s m args below meth c Q D dA cl B nL cells slots pc lv (.int y :: .int x :: st) w :=
  fun H locs ls h1 h2 h3 => lv_icmp_lt F.1 F.2.1 hd ht (fun hc => kt hc H locs ls h1 h2 h3) (fun hc => kf hc H locs ls h1 h2 h3)
theorem x_icmp_ge (F : x_Fix p s m args meth c cc nL own Ts ret nm D dA cl tyL B) {x y : Int32} {off : Int} {tgt : Nat} (hd : decode cc pc = .ok (.if_icmp .ge off, 3)) (ht : (pc : Int) + off = (tgt : Int)) (kt : (y ≤ x) → X p l e R s m args below meth c Q D dA cl B nL cells slots tgt lv st w) (kf : (¬ y ≤ x) → X p l e R s m args below meth c Q D dA cl B nL cells slots (pc + 3) lv st w) : X p l e R s m args below meth c Q D dA cl B nL cells slots pc lv (.int y :: .int x :: st) w :=
  fun H locs ls h1 h2 h3 => lv_icmp_ge F.1 F.2.1 hd ht (fun hc => kt hc H locs ls h1 h2 h3) (fun hc => kf hc H locs ls h1 h2 h3)
theorem x_icmp_gt (F : x_Fix p s m args meth c cc nL own Ts ret nm D dA cl tyL B) {x y : Int32} {off : Int} {tgt : Nat} (hd : decode cc pc = .ok (.if_icmp .gt off, 3)) (ht : (pc : Int) + off = (tgt : Int)) (kt : (y < x) → X p l e R s m args below meth c Q D dA cl B nL cells slots tgt lv st w) (kf : (¬ y < x) → X p l e R s m args below meth c Q D dA cl B nL cells slots (pc + 3) lv st w) : X p l e R s m args below meth c Q D dA cl B nL cells slots pc lv (.int y :: .int x :: st) w :=
  fun H locs ls h1 h2 h3 => lv_icmp_gt F.1 F.2.1 hd ht (fun hc => kt hc H locs ls h1 h2 h3) (fun hc => kf hc H locs ls h1 h2 h3)
theorem x_icmp_le (F : x_Fix p s m args meth c cc nL own Ts ret nm D dA cl tyL B) {x y : Int32} {off : Int} {tgt : Nat} (hd : decode cc pc = .ok (.if_icmp .le off, 3)) (ht : (pc : Int) + off = (tgt : Int)) (kt : (x ≤ y) → X p l e R s m args below meth c Q D dA cl B nL cells slots tgt lv st w) (kf : (¬ x ≤ y) → X p l e R s m args below meth c Q D dA cl B nL cells slots (pc + 3) lv st w) : X p l e R s m args below meth c Q D dA cl B nL cells slots pc lv (.int y :: .int x :: st) w :=
  fun H locs ls h1 h2 h3 => lv_icmp_le F.1 F.2.1 hd ht (fun hc => kt hc H locs ls h1 h2 h3) (fun hc => kf hc H locs ls h1 h2 h3)
theorem x_acmp_eq (F : x_Fix p s m args meth c cc nL own Ts ret nm D dA cl tyL B) {rx ry : Option Nat} {off : Int} {tgt : Nat} (hd : decode cc pc = .ok (.if_acmp .eq off, 3)) (ht : (pc : Int) + off = (tgt : Int)) (kt : (rx = ry) → X p l e R s m args below meth c Q D dA cl B nL cells slots tgt lv st w) (kf : (¬ rx = ry) → X p l e R s m args below meth c Q D dA cl B nL cells slots (pc + 3) lv st w) : X p l e R s m args below meth c Q D dA cl B nL cells slots pc lv (va_rf ry :: va_rf rx :: st) w :=
  fun H locs ls h1 h2 h3 => lv_acmp_eq F.1 F.2.1 hd ht (fun hc => kt hc H locs ls h1 h2 h3) (fun hc => kf hc H locs ls h1 h2 h3)
theorem x_acmp_ne (F : x_Fix p s m args meth c cc nL own Ts ret nm D dA cl tyL B) {rx ry : Option Nat} {off : Int} {tgt : Nat} (hd : decode cc pc = .ok (.if_acmp .ne off, 3)) (ht : (pc : Int) + off = (tgt : Int)) (kt : (¬ rx = ry) → X p l e R s m args below meth c Q D dA cl B nL cells slots tgt lv st w) (kf : (rx = ry) → X p l e R s m args below meth c Q D dA cl B nL cells slots (pc + 3) lv st w) : X p l e R s m args below meth c Q D dA cl B nL cells slots pc lv (va_rf ry :: va_rf rx :: st) w :=
  fun H locs ls h1 h2 h3 => lv_acmp_ne F.1 F.2.1 hd ht (fun hc => kt hc H locs ls h1 h2 h3) (fun hc => kf hc H locs ls h1 h2 h3)
theorem x_goto (F : x_Fix p s m args meth c cc nL own Ts ret nm D dA cl tyL B) {off : Int} {tgt : Nat} (hd : decode cc pc = .ok (.goto off, 3)) (ht : (pc : Int) + off = (tgt : Int)) (k : X p l e R s m args below meth c Q D dA cl B nL cells slots tgt lv st w) : X p l e R s m args below meth c Q D dA cl B nL cells slots pc lv st w :=
  fun H locs ls h1 h2 h3 => lv_goto F.1 F.2.1 hd ht (k H locs ls h1 h2 h3)
theorem x_ifnull (F : x_Fix p s m args meth c cc nL own Ts ret nm D dA cl tyL B) {x : Nat} {off : Int} (hd : decode cc pc = .ok (.ifnull off, 3)) (k : X p l e R s m args below meth c Q D dA cl B nL cells slots (pc + 3) lv st w) : X p l e R s m args below meth c Q D dA cl B nL cells slots pc lv (.ref x :: st) w :=
  fun H locs ls h1 h2 h3 => lv_ifnull F.1 F.2.1 hd (k H locs ls h1 h2 h3)
theorem x_ifnonnull (F : x_Fix p s m args meth c cc nL own Ts ret nm D dA cl tyL B) {x : Nat} {off : Int} {tgt : Nat} (hd : decode cc pc = .ok (.ifnonnull off, 3)) (ht : (pc : Int) + off = (tgt : Int)) (k : X p l e R s m args below meth c Q D dA cl B nL cells slots tgt lv st w) : X p l e R s m args below meth c Q D dA cl B nL cells slots pc lv (.ref x :: st) w :=
  fun H locs ls h1 h2 h3 => lv_ifnonnull F.1 F.2.1 hd ht (k H locs ls h1 h2 h3)
theorem x_ifnullN (F : x_Fix p s m args meth c cc nL own Ts ret nm D dA cl tyL B) {off : Int} {tgt : Nat} (hd : decode cc pc = .ok (.ifnull off, 3)) (ht : (pc : Int) + off = (tgt : Int)) (k : X p l e R s m args below meth c Q D dA cl B nL cells slots tgt lv st w) : X p l e R s m args below meth c Q D dA cl B nL cells slots pc lv (.null :: st) w :=
  fun H locs ls h1 h2 h3 => lv_ifnullN F.1 F.2.1 hd ht (k H locs ls h1 h2 h3)
theorem x_ifnonnullN (F : x_Fix p s m args meth c cc nL own Ts ret nm D dA cl tyL B) {off : Int} (hd : decode cc pc = .ok (.ifnonnull off, 3)) (k : X p l e R s m args below meth c Q D dA cl B nL cells slots (pc + 3) lv st w) : X p l e R s m args below meth c Q D dA cl B nL cells slots pc lv (.null :: st) w :=
  fun H locs ls h1 h2 h3 => lv_ifnonnullN F.1 F.2.1 hd (k H locs ls h1 h2 h3)
theorem x_ifnullQ (F : x_Fix p s m args meth c cc nL own Ts ret nm D dA cl tyL B) {o : Option Nat} {off : Int} {tgt : Nat} (hd : decode cc pc = .ok (.ifnull off, 3)) (ht : (pc : Int) + off = (tgt : Int)) (kt : o = none → X p l e R s m args below meth c Q D dA cl B nL cells slots tgt lv st w) (kf : ∀ a, o = some a → X p l e R s m args below meth c Q D dA cl B nL cells slots (pc + 3) lv st w) : X p l e R s m args below meth c Q D dA cl B nL cells slots pc lv (va_rf o :: st) w := by
  cases o with
  | none => exact x_ifnullN F hd ht (kt rfl)
  | some a => exact x_ifnull F hd (kf a rfl)
theorem x_ifnonnullQ (F : x_Fix p s m args meth c cc nL own Ts ret nm D dA cl tyL B) {o : Option Nat} {off : Int} {tgt : Nat} (hd : decode cc pc = .ok (.ifnonnull off, 3)) (ht : (pc : Int) + off = (tgt : Int)) (kt : ∀ a, o = some a → X p l e R s m args below meth c Q D dA cl B nL cells slots tgt lv st w) (kf : o = none → X p l e R s m args below meth c Q D dA cl B nL cells slots (pc + 3) lv st w) : X p l e R s m args below meth c Q D dA cl B nL cells slots pc lv (va_rf o :: st) w := by
  cases o with
  | none => exact x_ifnonnullN F hd (kf rfl)
  | some a => exact x_ifnonnull F hd ht (kt a rfl)
theorem x_tableIn (F : x_Fix p s m args meth c cc nL own Ts ret nm D dA cl tyL B) {dflt lo hi : Int} {offs : Array Int} {len : Nat} {x : Int32} {off : Int} {tgt : Nat} (hd : decode cc pc = .ok (.tableswitch dflt lo hi offs, len)) (g1 : ¬ x.toInt < lo) (g2 : ¬ hi < x.toInt) (ho : offs[(x.toInt - lo).toNat]? = some off) (ht : (pc : Int) + off = (tgt : Int)) (k : X p l e R s m args below meth c Q D dA cl B nL cells slots tgt lv st w) : X p l e R s m args below meth c Q D dA cl B nL cells slots pc lv (.int x :: st) w :=
  fun H locs ls h1 h2 h3 => lv_tableIn F.1 F.2.1 hd g1 g2 ho ht (k H locs ls h1 h2 h3)
theorem x_tableOut (F : x_Fix p s m args meth c cc nL own Ts ret nm D dA cl tyL B) {dflt lo hi : Int} {offs : Array Int} {len : Nat} {x : Int32} {tgt : Nat} (hd : decode cc pc = .ok (.tableswitch dflt lo hi offs, len)) (g : x.toInt < lo ∨ hi < x.toInt) (ht : (pc : Int) + dflt = (tgt : Int)) (k : X p l e R s m args below meth c Q D dA cl B nL cells slots tgt lv st w) : X p l e R s m args below meth c Q D dA cl B nL cells slots pc lv (.int x :: st) w :=
  fun H locs ls h1 h2 h3 => lv_tableOut F.1 F.2.1 hd g ht (k H locs ls h1 h2 h3)
/-- fewer locals, in another order -/
theorem x_lv {lv' : List (Nat × Value)} (h : x_sub lv lv') (k : X p l e R s m args below meth c Q D dA cl B nL cells slots pc lv' st w) : X p l e R s m args below meth c Q D dA cl B nL cells slots pc lv st w := fun H locs ls h1 h2 h3 => k H locs ls h1 h2 (x_sub_has h3 h)
theorem x_lk {lv' : List (Nat × Value)} (k : X p l e R s m args below meth c Q D dA cl B nL cells slots pc lv' st w) (h : x_sub lv lv') : X p l e R s m args below meth c Q D dA cl B nL cells slots pc lv st w := x_lv h k
theorem x_widen {n1 n2 : Nat} (h1 : cells ≤ n1) (h2 : slots ≤ n2) (k : X p l e R s m args below meth c Q D dA cl B nL n1 n2 pc lv st w) : X p l e R s m args below meth c Q D dA cl B nL cells slots pc lv st w := fun H locs ls g1 g2 g3 => W.widen h1 h2 (k H locs ls g1 g2 g3)
theorem x_top {v : Value} (k : ∀ v2, v2 = v → X p l e R s m args below meth c Q D dA cl B nL cells slots pc lv (v2 :: st) w) : X p l e R s m args below meth c Q D dA cl B nL cells slots pc lv (v :: st) w := k v rfl
theorem x_wd (k : ∀ w2, w2 = w → X p l e R s m args below meth c Q D dA cl B nL cells slots pc lv st w2) : X p l e R s m args below meth c Q D dA cl B nL cells slots pc lv st w := k w rfl
/-- less of the world -/
theorem x_forget {w2 : xW} (h : ∀ a x, w2 a = some x → w a = some x) (k : X p l e R s m args below meth c Q D dA cl B nL cells slots pc lv st w2) : X p l e R s m args below meth c Q D dA cl B nL cells slots pc lv st w := fun H locs ls g1 g2 g3 => k H locs ls (fun a x hx => g1 a x (h a x hx)) g2 g3

/-- getfield -/
theorem x_get (F : x_Fix p s m args meth c cc nL own Ts ret nm D dA cl tyL B) {ref C : String} {T : u_T} {N ci index a k : Nat} {fs : List Value} {v : Value} (hd : decode cc pc = .ok (.getfield index, 3)) (hc : cl[ci]? = some (C, T, N)) (hin : ∀ q ∈ u_ws C T N, q ∈ Ts) (hk : k < N) (hlink : Cond.fieldLink own index ref (T k).2.1 (T k).2.2.1 ∈ Ts) (href : (T k).1 = ref) (hw : w a = some (.inr (ci, fs))) (hv : fs[k]? = some v) (kk : X p l e R s m args below meth c Q D dA cl B nL cells slots (pc + 3) lv (v :: st) w) : X p l e R s m args below meth c Q D dA cl B nL cells slots pc lv (.ref a :: st) w := by
  subst href
  intro H locs ls h1 h2 h3
  obtain ⟨i, hi⟩ := h1.at hw
  exact va_get F.1 F.2.1 F.2.2.2.2.1 hin F.2.2.2.1 F.2.2.2.2.2.1 h1.toL i hi hc k hk (F.2.2.2.2.1 _ hlink) (fun _ h => h) hv hd (kk H locs ls h1 h2 h3)
/-- putfield -/
theorem x_put (F : x_Fix p s m args meth c cc nL own Ts ret nm D dA cl tyL B) {ref C : String} {T : u_T} {N ci index a k : Nat} {fs : List Value} {v : Value} (hd : decode cc pc = .ok (.putfield index, 3)) (hc : cl[ci]? = some (C, T, N)) (hin : ∀ q ∈ u_ws C T N, q ∈ Ts) (ty0 : Nat → FieldType) (hty : ∀ k, k < N → parseFieldDescriptor (T k).2.2.1 = some (ty0 k)) (hnm : ∀ a, a < N → ∀ b, b < N → a ≠ b → (T a).2.1 ≠ (T b).2.1) (hk : k < N) (hlink : Cond.fieldLink own index ref (T k).2.1 (T k).2.2.1 ∈ Ts) (href : (T k).1 = ref) (hfin : (T k).2.2.2 = false) (hw : w a = some (.inr (ci, fs))) (hl : k < fs.length) (hn : narrow (ty0 k) v = v) (hfit : fits (ty0 k) v = true) (kk : X p l e R s m args below meth c Q D dA cl B nL cells slots (pc + 3) lv st (x_set w a (.inr (ci, fs.set k v)))) : X p l e R s m args below meth c Q D dA cl B nL cells slots pc lv (v :: .ref a :: st) w := by
  subst href
  intro H locs ls h1 h2 h3
  obtain ⟨i, hi⟩ := h1.at hw
  exact va_put F.1 F.2.1 F.2.2.2.2.1 hin ty0 hty hnm F.2.2.2.1 F.2.2.2.2.2.1 h1.toL h1.toD h2 i hi hc k hk (F.2.2.2.2.1 _ hlink) (fun _ h => h) hfin (hty k hk) hn hfit hl hd (fun H1 locs1 g1 _ g3 => kk H1 locs1 ls (h1.ofSet hw hi g1) g3 h3)
/-- putfield of a final field, in a constructor -/
theorem x_putF (F : x_Fix p s m args meth c cc nL own Ts ret nm D dA cl tyL B) {ref C : String} {T : u_T} {N ci index a k : Nat} {fs : List Value} {v : Value} (hd : decode cc pc = .ok (.putfield index, 3)) (hc : cl[ci]? = some (C, T, N)) (hin : ∀ q ∈ u_ws C T N, q ∈ Ts) (ty0 : Nat → FieldType) (hty : ∀ k, k < N → parseFieldDescriptor (T k).2.2.1 = some (ty0 k)) (hnm : ∀ a, a < N → ∀ b, b < N → a ≠ b → (T a).2.1 ≠ (T b).2.1) (hk : k < N) (hlink : Cond.fieldLink own index ref (T k).2.1 (T k).2.2.1 ∈ Ts) (href : (T k).1 = ref) (hfin : (T k).2.2.2 = true) (hnm0 : nm = "<init>") (hdecl : (T k).1 = own) (hw : w a = some (.inr (ci, fs))) (hl : k < fs.length) (hn : narrow (ty0 k) v = v) (hfit : fits (ty0 k) v = true) (kk : X p l e R s m args below meth c Q D dA cl B nL cells slots (pc + 3) lv st (x_set w a (.inr (ci, fs.set k v)))) : X p l e R s m args below meth c Q D dA cl B nL cells slots pc lv (v :: .ref a :: st) w := by
  subst href
  intro H locs ls h1 h2 h3
  obtain ⟨i, hi⟩ := h1.at hw
  exact va_putF F.1 F.2.1 F.2.2.2.2.1 hin ty0 hty hnm F.2.2.2.1 F.2.2.2.2.2.1 h1.toL h1.toD h2 i hi hc k hk (F.2.2.2.2.1 _ hlink) (fun _ h => h) hfin (F.2.2.2.2.2.2.2.2.2.1.trans hnm0) hdecl (hty k hk) hn hfit hl hd (fun H1 locs1 g1 _ g3 => kk H1 locs1 ls (h1.ofSet hw hi g1) g3 h3)
/-- new -/
theorem x_new (F : x_Fix p s m args meth c cc nL own Ts ret nm D dA cl tyL B) {C : String} {T : u_T} {N ci index : Nat} {fs : List Value} (hd : decode cc pc = .ok (.new index, 3)) (hc : cl[ci]? = some (C, T, N)) (hin : ∀ q ∈ u_ws C T N, q ∈ Ts) (ty0 : Nat → FieldType) (hty : ∀ k, k < N → parseFieldDescriptor (T k).2.2.1 = some (ty0 k)) (hcl : Cond.classLink own index C ∈ Ts) (hinst : Cond.instantiable C N ∈ Ts) (hini : Cond.initialized C ∈ Ts) (hfs : ∀ j, j < N → defaultValue (ty0 j) = vp_V fs j) (hcells : cells + 1 ≤ R.cells) (hslots : slots + N ≤ R.slots) (kk : ∀ a, w a = none → X p l e R s m args below meth c Q D dA cl B nL (cells + 1) (slots + N) (pc + 3) lv (.ref a :: st) (x_set w a (.inr (ci, fs)))) : X p l e R s m args below meth c Q D dA cl B nL cells slots pc lv st w := by
  intro H locs ls h1 h2 h3
  refine va_new F.1 F.2.1 F.2.2.2.2.1 hin ty0 hty F.2.2.2.1 (F.2.2.2.2.1 _ hcl) (F.2.2.2.2.1 _ hinst) (F.2.2.2.2.1 _ hini) F.2.2.2.2.2.1 h1.toL h1.toD h2 (fun q hq => Nat.le_trans F.2.2.2.2.2.2.1 hq) hc (fs := fs) hfs hcells hslots hd (fun q H1 g1 g2 g3 => ?_)
  have hq : B ≤ q := g2.2 (x_L dA w H.size).length (q, .inr (ci, fs)) (by simp)
  obtain ⟨f1, f2⟩ := h1.ofPush (x := .inr (ci, fs)) hq g1 g2
  exact kk q f1 H1 locs ls f2 g3 h3
/-- the length of an array -/
theorem x_alen (F : x_Fix p s m args meth c cc nL own Ts ret nm D dA cl tyL B) {t a : Nat} {z : vp_A} {ty : FieldType} {v : Int32} (hd : decode cc pc = .ok (.arraylength, 1)) (ht : tyL[t]? = some ty) (hw : w a = some (.inl (t, z))) (hv : Int32.ofNat z.1 = v) (kk : X p l e R s m args below meth c Q D dA cl B nL cells slots (pc + 1) lv (.int v :: st) w) : X p l e R s m args below meth c Q D dA cl B nL cells slots pc lv (.ref a :: st) w := by
  intro H locs ls h1 h2 h3
  obtain ⟨i, hi⟩ := h1.at hw
  exact va_alen F.1 F.2.1 F.2.2.2.2.2.1 h1.toL i t hi (x_tys_at ht) hv hd (kk H locs ls h1 h2 h3)
theorem x_iald (F : x_Fix p s m args meth c cc nL own Ts ret nm D dA cl tyL B) {t a n : Nat} {f : Nat → Int32} {i : Int32} (hd : decode cc pc = .ok (.iaload, 1)) (ht : tyL[t]? = some .int) (hw : w a = some (.inl (t, n, .inl f))) (hin : vp_in i n) (kk : X p l e R s m args below meth c Q D dA cl B nL cells slots (pc + 1) lv (.int (f i.toNatClampNeg) :: st) w) : X p l e R s m args below meth c Q D dA cl B nL cells slots pc lv (.int i :: .ref a :: st) w := by
  intro H locs ls h1 h2 h3
  obtain ⟨j, hj⟩ := h1.at hw
  exact va_iald F.1 F.2.1 F.2.2.2.2.2.1 h1.toL j t hj (x_tys_at ht) hin hd (kk H locs ls h1 h2 h3)
theorem x_iast (F : x_Fix p s m args meth c cc nL own Ts ret nm D dA cl tyL B) {t a n : Nat} {f : Nat → Int32} {i v : Int32} (hd : decode cc pc = .ok (.iastore, 1)) (ht : tyL[t]? = some .int) (hw : w a = some (.inl (t, n, .inl f))) (hin : vp_in i n) (kk : X p l e R s m args below meth c Q D dA cl B nL cells slots (pc + 1) lv st (x_set w a (.inl (t, n, .inl (upd f i.toNatClampNeg v))))) : X p l e R s m args below meth c Q D dA cl B nL cells slots pc lv (.int v :: .int i :: .ref a :: st) w := by
  intro H locs ls h1 h2 h3
  obtain ⟨j, hj⟩ := h1.at hw
  exact va_iast F.1 F.2.1 F.2.2.2.2.2.1 h1.toL h1.toD h2 j t hj (x_tys_at ht) hin hd (fun H1 locs1 g1 _ g3 => kk H1 locs1 ls (h1.ofSet (x := .inl (t, n, .inl (upd f i.toNatClampNeg v))) hw hj g1) g3 h3)
theorem x_aald (F : x_Fix p s m args meth c cc nL own Ts ret nm D dA cl tyL B) {t a n : Nat} {C : String} {f : Nat → Option Nat} {i : Int32} (hd : decode cc pc = .ok (.aaload, 1)) (ht : tyL[t]? = some (.object C)) (hw : w a = some (.inl (t, n, .inr (.inr (.inr (.inr f)))))) (hin : vp_in i n) (kk : X p l e R s m args below meth c Q D dA cl B nL cells slots (pc + 1) lv (va_rf (f i.toNatClampNeg) :: st) w) : X p l e R s m args below meth c Q D dA cl B nL cells slots pc lv (.int i :: .ref a :: st) w := by
  intro H locs ls h1 h2 h3
  obtain ⟨j, hj⟩ := h1.at hw
  exact va_aldq F.1 F.2.1 F.2.2.2.2.2.1 h1.toL j t hj (x_tys_at ht) hin hd (kk H locs ls h1 h2 h3)
theorem x_aast (F : x_Fix p s m args meth c cc nL own Ts ret nm D dA cl tyL B) {t a n v ci N : Nat} {C : String} {T : u_T} {vs : List Value} {f : Nat → Option Nat} {i : Int32} (hd : decode cc pc = .ok (.aastore, 1)) (ht : tyL[t]? = some (.object C)) (hc : cl[ci]? = some (C, T, N)) (hw : w a = some (.inl (t, n, .inr (.inr (.inr (.inr f)))))) (hv : w v = some (.inr (ci, vs))) (hin : vp_in i n) (kk : X p l e R s m args below meth c Q D dA cl B nL cells slots (pc + 1) lv st (x_set w a (.inl (t, n, .inr (.inr (.inr (.inr (va_up f i.toNatClampNeg (some v))))))))) : X p l e R s m args below meth c Q D dA cl B nL cells slots pc lv (.ref v :: .int i :: .ref a :: st) w := by
  intro H locs ls h1 h2 h3
  obtain ⟨j, hj⟩ := h1.at hw
  obtain ⟨j2, hj2⟩ := h1.at hv
  exact va_astq (r := (C, T, N)) F.1 F.2.1 F.2.2.2.2.2.1 h1.toL h1.toD h2 j t j2 ci hj (x_tys_at ht) hj2 hc hin hd (fun H1 locs1 g1 _ g3 => kk H1 locs1 ls (h1.ofSet (x := .inl (t, n, .inr (.inr (.inr (.inr (va_up f i.toNatClampNeg (some v))))))) hw hj g1) g3 h3)
/-- a new int array -/
theorem x_newa (F : x_Fix p s m args meth c cc nL own Ts ret nm D dA cl tyL B) {t N : Nat} {n : Int32} (hd : decode cc pc = .ok (.newarray .int, 2)) (ht : tyL[t]? = some .int) (harr : Cond.arrayClass .int ∈ Ts) (hn : ¬ n < 0) (hN : n.toNatClampNeg = N) (hbytes : N * componentBytes .int ≤ 536870912) (hcells : cells + 1 ≤ R.cells) (hslots : slots + N ≤ R.slots) (kk : ∀ a, w a = none → X p l e R s m args below meth c Q D dA cl B nL (cells + 1) (slots + N) (pc + 2) lv (.ref a :: st) (x_set w a (.inl (t, N, .inl (fun _ => 0))))) : X p l e R s m args below meth c Q D dA cl B nL cells slots pc lv (.int n :: st) w := by
  intro H locs ls h1 h2 h3
  refine va_newa (atype := .int) (ty := .int) (a0 := (N, .inl (fun _ => 0))) F.1 F.2.1 (F.2.2.2.2.1 _ harr) rfl F.2.2.2.2.2.1 h1.toL h1.toD h2 (fun q hq => Nat.le_trans F.2.2.2.2.2.2.1 hq) (fun cA => by rw [vp_cell_i]; rfl) hn hN hbytes hcells hslots hd (fun q cA H1 gK g1 g2 g3 => ?_)
  have hq : B ≤ q := g2.2 (x_L dA w H.size).length (q, .inl (cA, N, .inl (fun _ => 0))) (by simp)
  have e1 : s.vm.findClass ("[" ++ FieldType.int.toString) = some cA := (gK.2 (x_tys dA tyL).length (cA, .int) (by simp)).2
  have e2 : s.vm.findClass ("[" ++ FieldType.int.toString) = some (dA t) := (F.2.2.2.2.2.1.2 t (dA t, .int) (x_tys_at ht)).2
  have hcA : cA = dA t := Option.some.inj (e1.symm.trans e2)
  subst hcA
  obtain ⟨f1, f2⟩ := h1.ofPush (x := .inl (t, N, .inl (fun _ => 0))) hq g1 g2
  exact kk q f1 H1 locs ls f2 g3 h3
/-- a new array of references -/
theorem x_newq (F : x_Fix p s m args meth c cc nL own Ts ret nm D dA cl tyL B) {t N index : Nat} {C : String} {n : Int32} (hd : decode cc pc = .ok (.anewarray index, 3)) (ht : tyL[t]? = some (.object C)) (hcl : Cond.classLink own index C ∈ Ts) (hover : va_AO C s) (hn : ¬ n < 0) (hN : n.toNatClampNeg = N) (hbytes : N * 4 ≤ 536870912) (hcells : cells + 1 ≤ R.cells) (hslots : slots + N ≤ R.slots) (kk : ∀ a, w a = none → X p l e R s m args below meth c Q D dA cl B nL (cells + 1) (slots + N) (pc + 3) lv (.ref a :: st) (x_set w a (.inl (t, N, .inr (.inr (.inr (.inr (fun _ => none)))))))) : X p l e R s m args below meth c Q D dA cl B nL cells slots pc lv (.int n :: st) w := by
  intro H locs ls h1 h2 h3
  refine va_newq F.1 F.2.1 F.2.2.2.1 (F.2.2.2.2.1 _ hcl) hover F.2.2.2.2.2.1 h1.toL h1.toD h2 (fun q hq => Nat.le_trans F.2.2.2.2.2.2.1 hq) hn hN hbytes hcells hslots hd (fun q cA H1 gK g1 g2 g3 => ?_)
  have hq : B ≤ q := g2.2 (x_L dA w H.size).length (q, .inl (cA, N, .inr (.inr (.inr (.inr (fun _ => none)))))) (by simp)
  obtain ⟨_, _, _, _, _, e1⟩ := (gK.2 (x_tys dA tyL).length (cA, .object C) (by simp)).2
  obtain ⟨_, _, _, _, _, e2⟩ := (F.2.2.2.2.2.1.2 t (dA t, .object C) (x_tys_at ht)).2
  have hcA : cA = dA t := Option.some.inj (e1.symm.trans e2)
  subst hcA
  obtain ⟨f1, f2⟩ := h1.ofPush (x := .inl (t, N, .inr (.inr (.inr (.inr (fun _ => none)))))) hq g1 g2
  exact kk q f1 H1 locs ls f2 g3 h3
/-- Object's constructor -/
theorem x_objInit (F : x_Fix p s m args meth c cc nL own Ts ret nm D dA cl tyL B) {idx a : Nat} (hd : decode cc pc = .ok (.invokespecial idx, 3)) (hl : Cond.methodLink own idx objectInit ∈ Ts) (hi : Cond.instanceMethod objectInit ∈ Ts) (hc : Cond.code objectInit ⟨#[0xb1]⟩ 1 none ∈ Ts) (hf : 1 ≤ R.frames) (hlo : (st.map fun v => v.category).sum + 12 ≤ R.locals) (kk : X p l e R s m args below meth c Q D dA cl B nL cells slots (pc + 3) lv st w) : X p l e R s m args below meth c Q D dA cl B nL cells slots pc lv (.ref a :: st) w := by
  intro H locs ls h1 h2 h3
  exact W.objInit F.1 F.2.1 F.2.2.2.1 (F.2.2.2.2.1 _ hl) (F.2.2.2.2.1 _ hi) (F.2.2.2.2.1 _ hc) rfl (h3.1.trans F.2.2.1.symm) rfl hd hf (by simpa [JFrame.monitorRoom] using hlo) (kk H locs ls h1 h2 h3)
/-- Math.max of two ints -/
theorem x_max (F : x_Fix p s m args meth c cc nL own Ts ret nm D dA cl tyL B) {index : Nat} {x y : Int32} (hd : decode cc pc = .ok (.invokestatic index, 3)) (hl : Cond.methodLink own index Lib.Math.max.name ∈ Ts) (hs : Cond.static Lib.Math.max.name ∈ Ts) (hi : Cond.initialized "java/lang/Math" ∈ Ts) (hco : Cond.code Lib.Math.max.name Lib.Math.max.code 2 (some .int) ∈ Ts) (hf : 1 ≤ R.frames) (hlo : (st.map fun v => v.category).sum + 13 ≤ R.locals) (g1 : cells ≤ R.cells) (g2 : slots ≤ R.slots) (kk : X p l e R s m args below meth c Q D dA cl B nL cells slots (pc + 3) lv (.int (if x < y then y else x) :: st) w) : X p l e R s m args below meth c Q D dA cl B nL cells slots pc lv (.int y :: .int x :: st) w := by
  intro H locs ls h1 h2 h3
  exact va_mmax F.1 F.2.1 (F.2.2.1.trans h3.1.symm) F.2.2.2.1 (F.2.2.2.2.1 _ hl) (F.2.2.2.2.1 _ hs) (F.2.2.2.2.1 _ hi) (F.2.2.2.2.1 _ hco) hf hlo g1 g2 hd (kk H locs ls h1 h2 h3)

theorem x_blind {D : va_G} {dA : Nat → ClassId} {cl : List vw_C} {tyL : List FieldType} {B : Nat} {w : xW} {av : List Value} : FrameBlind (va_Pc av (fun U => B ≤ U.heap.size ∧ x_P D dA cl B w U.heap ∧ va_K D cl (x_tys dA tyL) U ∧ x_ev dA B U)) :=
  fun a U g mk q => ⟨q.1, q.2.1, q.2.2.1, va_K.moved (u := U) (U := U.calling g mk a) (Vm.Alike.refl U.vm) q.2.2.2.1, x_ev.same (u := U) (U := U.calling g mk a) rfl rfl q.2.2.2.2⟩
theorem x_goes {R : Room} {post : Option Value → xW → Prop} {a : Array Value} {ls : Array Slot} {H : Heap} {locs : List Loc} {rest st0 : List Value} {mc ms : Nat} (hS : va_S (fun q => B ≤ q) s.heap H locs) (hl : lv_has ls nL lv) (hr : va_Run p l e R s m args below meth c H locs cells slots mc ms (F0 m pc ls st0) rest (x_Q D dA cl tyL B post a) (fun q => B ≤ q)) (k : ∀ r w1, post r w1 → X p l e R s m args below meth c Q D dA cl B nL (cells + mc) (slots + ms) (pc + 3) lv (r.toList ++ rest) w1) : W p l e R s m args below meth c H locs cells slots Q (F0 m pc ls st0) := by
  intro T hT X0
  obtain ⟨v, st₀, t, T', L, h0, X', hL, e1, e2, ⟨⟨r, w1, hv, hp, hw, -⟩, hz, hk⟩, sg⟩ := hr T hT X0
  cases hv
  rw [h0] at hz hk
  have hw' : x_P D dA cl B w1 T'.heap := by rw [e1]; exact hw
  obtain ⟨t2, a1, b1⟩ := k v w1 hp T'.heap (locs ++ L) ls hw' ⟨Nat.le_trans hS.1 (by rw [e1]; exact hz), fun q h1 h2 => by rw [e1, hk q (Nat.lt_of_lt_of_le h1 hS.1) h2]; exact hS.2.1 q h1 h2, fun q hq => by
      rcases List.mem_append.mp hq with h | h
      · exact hS.2.2 q h
      · exact hL q h⟩ hl T' rfl X'
  exact ⟨t2, sg t2 a1, b1⟩
/-- a call: what a program can decide of it -/
def x_call (R : Room) (cells slots : Nat) (rm : Room) (mc ms : Nat) (ws ws2 : List Cond) (y : MethodName) (bytes : ByteArray) (maxL : Nat) (rt : Option FieldType) (n : Nat) : Prop :=
  ws = Cond.code y bytes maxL rt :: ws2 ∧ rm.cells = mc ∧ rm.slots = ms ∧ (y.cls ≠ "java/lang/invoke/MethodHandle" ∧ y.cls ≠ "java/lang/invoke/VarHandle" ∧ (parseMethodDescriptor y.desc).map (fun d => d.parameters.length) = some n) ∧ (rm.frames + 1 ≤ R.frames ∧ 8 + (maxL + 11) + rm.locals ≤ R.locals) ∧ cells + mc ≤ R.cells ∧ slots + ms ≤ R.slots
theorem x_callV (F : x_Fix p s m args meth c cc nL own Ts ret nm D dA cl tyL B) {C : String} {T : u_T} {N ci index maxL n mc ms b : Nat} {y : MethodName} {bytes : ByteArray} {rt : Option FieldType} {ws ws2 : List Cond} {rm : Room} {av rest fs : List Value} {post : Option Value → xW → Prop} (hd : decode cc pc = .ok (.invokevirtual index, 3)) (hG : GoodIn Ts (wsV own index C y ws)) (hy : y.cls = C) (hM : x_Ct l D dA cl tyL B y ws rm (.ref b :: av) w post mc ms) (hC : x_call R cells slots rm mc ms ws ws2 y bytes maxL rt n) (hc : cl[ci]? = some (C, T, N)) (hb : w b = some (.inr (ci, fs))) (hn : av.length = n) (hst : st = av.reverse ++ .ref b :: rest) (hcat : (rest.map fun v => v.category).sum ≤ 8) (k : ∀ r w1, post r w1 → X p l e R s m args below meth c Q D dA cl B nL (cells + mc) (slots + ms) (pc + 3) lv (r.toList ++ rest) w1) : X p l e R s m args below meth c Q D dA cl B nL cells slots pc lv st w := by
  intro H locs ls h1 h2 h3
  obtain ⟨c1, c2, c3, c4, c5, c6⟩ := hC
  obtain ⟨i, hi⟩ := h1.at hb
  exact x_goes h2 h3 (va_runV (As := av) (rest := rest) ⟨F.1, F.2.1, F.2.2.1, F.2.2.2.1, F.2.2.2.2.1⟩ hM (cwV n F.2.2.2.2.1 hG c1 c2 c3 ⟨hy, c4⟩ c5) ⟨x_blind, va_recv F.2.2.2.2.2.1 h1.toL hc hi, fun U hU hW => ⟨rfl, by rw [hU]; exact Nat.le_trans F.2.2.2.2.2.2.1 h2.1, by rw [hU]; exact h1, va_K.moved hW.alike F.2.2.2.2.2.1, x_ev.call hW hU h2 F.2.2.2.2.2.2.2.2.2.2⟩⟩ rfl hn h3.1 hst (lv_room hcat) hd c6) k
theorem x_callS (F : x_Fix p s m args meth c cc nL own Ts ret nm D dA cl tyL B) {index maxL n mc ms : Nat} {y : MethodName} {bytes : ByteArray} {rt : Option FieldType} {ws ws2 : List Cond} {rm : Room} {av rest : List Value} {post : Option Value → xW → Prop} (hd : decode cc pc = .ok (.invokestatic index, 3)) (hG : GoodIn Ts (va_wsS own index y ws)) (hM : x_Ct l D dA cl tyL B y ws rm av w post mc ms) (hC : x_call R cells slots rm mc ms ws ws2 y bytes maxL rt n) (hn : av.length = n) (hst : st = av.reverse ++ rest) (hcat : (rest.map fun v => v.category).sum ≤ 8) (k : ∀ r w1, post r w1 → X p l e R s m args below meth c Q D dA cl B nL (cells + mc) (slots + ms) (pc + 3) lv (r.toList ++ rest) w1) : X p l e R s m args below meth c Q D dA cl B nL cells slots pc lv st w := by
  intro H locs ls h1 h2 h3
  obtain ⟨c1, c2, c3, c4, c5, c6⟩ := hC
  exact x_goes h2 h3 (va_runS (As := av) (rest := rest) ⟨F.1, F.2.1, F.2.2.1, F.2.2.2.1, F.2.2.2.2.1⟩ hM (va_cwS n F.2.2.2.2.1 hG c1 c2 c3 c4 c5) ⟨x_blind, fun U hU hW => ⟨rfl, by rw [hU]; exact Nat.le_trans F.2.2.2.2.2.2.1 h2.1, by rw [hU]; exact h1, va_K.moved hW.alike F.2.2.2.2.2.1, x_ev.call hW hU h2 F.2.2.2.2.2.2.2.2.2.2⟩⟩ rfl hn h3.1 hst (lv_room hcat) hd c6) k
theorem x_callI (F : x_Fix p s m args meth c cc nL own Ts ret nm D dA cl tyL B) {index maxL n mc ms b : Nat} {y : MethodName} {bytes : ByteArray} {ws ws2 : List Cond} {rm : Room} {av rest : List Value} {post : Option Value → xW → Prop} (hd : decode cc pc = .ok (.invokespecial index, 3)) (hG : GoodIn Ts ws) (hini : Cond.initialized y.cls ∈ Ts) (hlk : Cond.methodLink own index y ∈ Ts) (hin : Cond.instanceMethod y ∈ Ts) (hy : y.name = "<init>") (hM : x_Ct l D dA cl tyL B y ws rm (.ref b :: av) w post mc ms) (hC : x_call R cells slots rm mc ms ws ws2 y bytes maxL none n) (hn : av.length = n) (hst : st = av.reverse ++ .ref b :: rest) (hcat : (rest.map fun v => v.category).sum ≤ 8) (k : ∀ r w1, post r w1 → X p l e R s m args below meth c Q D dA cl B nL (cells + mc) (slots + ms) (pc + 3) lv (r.toList ++ rest) w1) : X p l e R s m args below meth c Q D dA cl B nL cells slots pc lv st w := by
  intro H locs ls h1 h2 h3
  obtain ⟨c1, c2, c3, c4, c5, c6⟩ := hC
  exact x_goes h2 h3 (va_runI (As := av) (rest := rest) ⟨F.1, F.2.1, F.2.2.1, F.2.2.2.1, F.2.2.2.2.1⟩ hM (cwI n F.2.2.2.2.1 hG c1 c2 c3 (F.2.2.2.2.1 _ hini) (F.2.2.2.2.1 _ hlk) (F.2.2.2.2.1 _ hin) hy c4 c5) ⟨x_blind, fun U hU hW => ⟨rfl, by rw [hU]; exact Nat.le_trans F.2.2.2.2.2.2.1 h2.1, by rw [hU]; exact h1, va_K.moved hW.alike F.2.2.2.2.2.1, x_ev.call hW hU h2 F.2.2.2.2.2.2.2.2.2.2⟩⟩ rfl hn h3.1 hst (lv_room hcat) hd c6) k
theorem x_Fix.xt (F : x_Fix p s m args meth c cc nL own Ts ret nm D dA cl tyL B) : x_xt s := F.2.2.2.2.2.2.2.2.2.2.1
theorem x_Fix.hs (F : x_Fix p s m args meth c cc nL own Ts ret nm D dA cl tyL B) : x_hs dA B s s.heap := F.2.2.2.2.2.2.2.2.2.2.2
theorem x_callIN (F : x_Fix p s m args meth c cc nL own Ts ret nm D dA cl tyL B) {host : String} {index maxL n mc ms b : Nat} {y : MethodName} {bytes : ByteArray} {ws ws2 : List Cond} {rm : Room} {av rest : List Value} {post : Option Value → xW → Prop} (hd : decode cc pc = .ok (.invokespecial index, 3)) (hG : GoodIn Ts ws) (hini : Cond.initialized y.cls ∈ Ts) (hlk : va_Nw (.methodLinkNest own index y host) s) (hin : Cond.instanceMethod y ∈ Ts) (hy : y.name = "<init>") (hM : x_Ct l D dA cl tyL B y ws rm (.ref b :: av) w post mc ms) (hC : x_call R cells slots rm mc ms ws ws2 y bytes maxL none n) (hn : av.length = n) (hst : st = av.reverse ++ .ref b :: rest) (hcat : (rest.map fun v => v.category).sum ≤ 8) (k : ∀ r w1, post r w1 → X p l e R s m args below meth c Q D dA cl B nL (cells + mc) (slots + ms) (pc + 3) lv (r.toList ++ rest) w1) : X p l e R s m args below meth c Q D dA cl B nL cells slots pc lv st w := by
  intro H locs ls h1 h2 h3
  obtain ⟨c1, c2, c3, c4, c5, c6⟩ := hC
  exact x_goes h2 h3 (va_runIN (As := av) (rest := rest) ⟨F.1, F.2.1, F.2.2.1, F.2.2.2.1, F.2.2.2.2.1⟩ hM ⟨va_cnB n F.2.2.2.2.1 hG c1 c2 c3 hlk (F.2.2.2.2.1 _ hini) c4 c5, hy, F.2.2.2.2.1 _ hin⟩ ⟨x_blind, fun U hU hW => ⟨rfl, by rw [hU]; exact Nat.le_trans F.2.2.2.2.2.2.1 h2.1, by rw [hU]; exact h1, va_K.moved hW.alike F.2.2.2.2.2.1, x_ev.call hW hU h2 F.2.2.2.2.2.2.2.2.2.2⟩⟩ rfl hn h3.1 hst (lv_room hcat) hd c6) k
/-- a body: its entry -/
theorem x_Ct.of {y : MethodName} {ws ws2 : List Cond} {rm : Room} {av : List Value} {post : Option Value → xW → Prop} {mc ms : Nat} {cc : ByteArray} {maxL : Nat} {rt : Option FieldType} (hy : plainName y.cls = true) (hw : ws = Cond.code y cc maxL rt :: ws2) (hlen : (lg_sl av).length ≤ maxL)
    (body : ∀ (p : Program) (e : Env) (s : State) (m : MethodId) (below : List Frame) (meth : Method) (c : Code), x_Fix p s m av.toArray meth c cc maxL y.cls ws2 rt y.name D dA cl tyL B → X p l e rm s m av.toArray below meth c (MQ below (x_Q D dA cl tyL B post) av.toArray s mc ms (fun q => B ≤ q)) D dA cl B maxL 0 0 0 (lv_args 0 av) [] w) : x_Ct l D dA cl tyL B y ws rm av w post mc ms := by
  refine Met.ofW (cc := cc) (maxL := maxL) (ret := rt) hy hw ?_
  intro p e s m args below meth c s₁ B0 hml hv
  obtain ⟨rfl, hB, hP, hK, hX⟩ := hv
  have hl := lv_entry av hlen
  rw [lg_entry_eq]
  exact body p e s m below meth c ⟨B0.exec, B0.bytes, hml, findClass_of_methodNamed B0.named, (fun q hq => atoms_spec (ws := ws) B0.pre q (by rw [hw]; exact List.mem_cons_of_mem _ hq)), hK, hB, B0.returns, B0.notSynchronized, (name_of_methodNamed B0.named B0.method).1, hX⟩ s.heap [] _ hP va_S.rf hl
section XR
variable {post : Option Value → xW → Prop} {mc ms : Nat}
theorem x_iret (F : x_Fix p s m args meth c cc nL own Ts ret nm D dA cl tyL B) {v : Int32} {ty : FieldType} (hr : ret = some ty) (hn : narrow ty (.int v) = .int v) (hd : decode cc pc = .ok (.ireturn, 1)) (h1 : cells ≤ mc) (h2 : slots ≤ ms) (hq : post (some (.int v)) w) : X p l e R s m args below meth c (MQ below (x_Q D dA cl tyL B post) args s mc ms (fun q => B ≤ q)) D dA cl B nL cells slots pc lv [.int v] w :=
  fun H locs ls g1 g2 g3 => W.widen h1 h2 (W.zret F.1 F.2.1 (F.2.2.2.2.2.2.2.1.trans hr) hn (fun t ht hW => ⟨⟨_, w, rfl, hq, by rw [ht]; exact g1, va_K.moved hW.alike F.2.2.2.2.2.1⟩, g2.F ht⟩) g2.2.2 hd F.2.2.2.2.2.2.2.2.1)
theorem x_lret (F : x_Fix p s m args meth c cc nL own Ts ret nm D dA cl tyL B) {v : Int64} (hr : ret = some .long) (hd : decode cc pc = .ok (.lreturn, 1)) (h1 : cells ≤ mc) (h2 : slots ≤ ms) (hq : post (some (.long v)) w) : X p l e R s m args below meth c (MQ below (x_Q D dA cl tyL B post) args s mc ms (fun q => B ≤ q)) D dA cl B nL cells slots pc lv [.long v] w :=
  fun H locs ls g1 g2 g3 => W.widen h1 h2 (W.lret F.1 F.2.1 (F.2.2.2.2.2.2.2.1.trans hr) (fun t ht hW => ⟨⟨_, w, rfl, hq, by rw [ht]; exact g1, va_K.moved hW.alike F.2.2.2.2.2.1⟩, g2.F ht⟩) g2.2.2 hd F.2.2.2.2.2.2.2.2.1)
theorem x_vret (F : x_Fix p s m args meth c cc nL own Ts ret nm D dA cl tyL B) (hr : ret = none) (hd : decode cc pc = .ok (.return_, 1)) (h1 : cells ≤ mc) (h2 : slots ≤ ms) (hq : post none w) : X p l e R s m args below meth c (MQ below (x_Q D dA cl tyL B post) args s mc ms (fun q => B ≤ q)) D dA cl B nL cells slots pc lv [] w :=
  fun H locs ls g1 g2 g3 => W.widen h1 h2 (W.vret F.1 F.2.1 (F.2.2.2.2.2.2.2.1.trans hr) (fun t ht hW => ⟨⟨_, w, rfl, hq, by rw [ht]; exact g1, va_K.moved hW.alike F.2.2.2.2.2.1⟩, g2.F ht⟩) g2.2.2 hd F.2.2.2.2.2.2.2.2.1)
theorem x_aret (F : x_Fix p s m args meth c cc nL own Ts ret nm D dA cl tyL B) {o : Option Nat} {C : String} (hr : ret = some (.object C)) (hd : decode cc pc = .ok (.areturn, 1)) (h1 : cells ≤ mc) (h2 : slots ≤ ms) (hq : post (some (va_rf o)) w) : X p l e R s m args below meth c (MQ below (x_Q D dA cl tyL B post) args s mc ms (fun q => B ≤ q)) D dA cl B nL cells slots pc lv [va_rf o] w :=
  fun H locs ls g1 g2 g3 => W.widen h1 h2 (W.aret F.1 F.2.1 (F.2.2.2.2.2.2.2.1.trans hr) (Or.inl ⟨C, rfl⟩) (by cases o with | none => exact Or.inl rfl | some a => exact Or.inr ⟨a, rfl⟩) (fun t ht hW => ⟨⟨_, w, rfl, hq, by rw [ht]; exact g1, va_K.moved hW.alike F.2.2.2.2.2.1⟩, g2.F ht⟩) g2.2.2 hd F.2.2.2.2.2.2.2.2.1)
end XR

theorem x_acmp_eqR (F : x_Fix p s m args meth c cc nL own Ts ret nm D dA cl tyL B) {x y : Nat} {off : Int} {tgt : Nat} (hd : decode cc pc = .ok (.if_acmp .eq off, 3)) (ht : (pc : Int) + off = (tgt : Int)) (kt : x = y → X p l e R s m args below meth c Q D dA cl B nL cells slots tgt lv st w) (kf : ¬ x = y → X p l e R s m args below meth c Q D dA cl B nL cells slots (pc + 3) lv st w) : X p l e R s m args below meth c Q D dA cl B nL cells slots pc lv (.ref y :: .ref x :: st) w :=
  x_acmp_eq (rx := some x) (ry := some y) F hd ht (fun h => kt (Option.some.inj h)) (fun h => kf (fun q => h (congrArg some q)))
theorem x_acmp_neR (F : x_Fix p s m args meth c cc nL own Ts ret nm D dA cl tyL B) {x y : Nat} {off : Int} {tgt : Nat} (hd : decode cc pc = .ok (.if_acmp .ne off, 3)) (ht : (pc : Int) + off = (tgt : Int)) (kt : ¬ x = y → X p l e R s m args below meth c Q D dA cl B nL cells slots tgt lv st w) (kf : x = y → X p l e R s m args below meth c Q D dA cl B nL cells slots (pc + 3) lv st w) : X p l e R s m args below meth c Q D dA cl B nL cells slots pc lv (.ref y :: .ref x :: st) w :=
  x_acmp_ne (rx := some x) (ry := some y) F hd ht (fun h => kt (fun q => h (congrArg some q))) (fun h => kf (Option.some.inj h))
theorem x_acmp_neQR (F : x_Fix p s m args meth c cc nL own Ts ret nm D dA cl tyL B) {o : Option Nat} {x : Nat} {off : Int} {tgt : Nat} (hd : decode cc pc = .ok (.if_acmp .ne off, 3)) (ht : (pc : Int) + off = (tgt : Int)) (kt : ¬ some x = o → X p l e R s m args below meth c Q D dA cl B nL cells slots tgt lv st w) (kf : some x = o → X p l e R s m args below meth c Q D dA cl B nL cells slots (pc + 3) lv st w) : X p l e R s m args below meth c Q D dA cl B nL cells slots pc lv (va_rf o :: .ref x :: st) w :=
  x_acmp_ne (rx := some x) (ry := o) F hd ht kt kf
theorem x_acmp_eqQR (F : x_Fix p s m args meth c cc nL own Ts ret nm D dA cl tyL B) {o : Option Nat} {x : Nat} {off : Int} {tgt : Nat} (hd : decode cc pc = .ok (.if_acmp .eq off, 3)) (ht : (pc : Int) + off = (tgt : Int)) (kt : some x = o → X p l e R s m args below meth c Q D dA cl B nL cells slots tgt lv st w) (kf : ¬ some x = o → X p l e R s m args below meth c Q D dA cl B nL cells slots (pc + 3) lv st w) : X p l e R s m args below meth c Q D dA cl B nL cells slots pc lv (va_rf o :: .ref x :: st) w :=
  x_acmp_eq (rx := some x) (ry := o) F hd ht kt kf
theorem x_aretR (F : x_Fix p s m args meth c cc nL own Ts ret nm D dA cl tyL B) {a : Nat} {C : String} {post : Option Value → xW → Prop} {mc ms : Nat} (hr : ret = some (.object C)) (hd : decode cc pc = .ok (.areturn, 1)) (h1 : cells ≤ mc) (h2 : slots ≤ ms) (hq : post (some (.ref a)) w) : X p l e R s m args below meth c (MQ below (x_Q D dA cl tyL B post) args s mc ms (fun q => B ≤ q)) D dA cl B nL cells slots pc lv [.ref a] w :=
  x_aret (o := some a) F hr hd h1 h2 hq
theorem x_aretN (F : x_Fix p s m args meth c cc nL own Ts ret nm D dA cl tyL B) {C : String} {post : Option Value → xW → Prop} {mc ms : Nat} (hr : ret = some (.object C)) (hd : decode cc pc = .ok (.areturn, 1)) (h1 : cells ≤ mc) (h2 : slots ≤ ms) (hq : post (some .null) w) : X p l e R s m args below meth c (MQ below (x_Q D dA cl tyL B post) args s mc ms (fun q => B ≤ q)) D dA cl B nL cells slots pc lv [.null] w :=
  x_aret (o := none) F hr hd h1 h2 hq
/-- a contract of a method that gives a value back -/
def x_Ci (l : Launch) (D : va_G) (dA : Nat → ClassId) (cl : List vw_C) (tyL : List FieldType) (B : Nat) (y : MethodName) (ws : List Cond) (rm : Room) (av : List Value) (w : xW) (post : Value → xW → Prop) (mc ms : Nat) : Prop :=
  x_Ct l D dA cl tyL B y ws rm av w (fun r w1 => ∃ v, r = some v ∧ post v w1) mc ms
/-- .. of one that gives none -/
def x_Cv (l : Launch) (D : va_G) (dA : Nat → ClassId) (cl : List vw_C) (tyL : List FieldType) (B : Nat) (y : MethodName) (ws : List Cond) (rm : Room) (av : List Value) (w : xW) (post : xW → Prop) (mc ms : Nat) : Prop :=
  x_Ct l D dA cl tyL B y ws rm av w (fun r w1 => r = none ∧ post w1) mc ms
theorem x_cVi0 (F : x_Fix p s m args meth c cc nL own Ts ret nm D dA cl tyL B) {C : String} {T : u_T} {N ci index b : Nat} {maxL mc ms : Nat} {y : MethodName} {bytes : ByteArray} {ws ws2 : List Cond} {rm : Room} {rt : Option FieldType} {fs : List Value} {post : Value → xW → Prop} (hd : decode cc pc = .ok (.invokevirtual index, 3)) (hG : GoodIn Ts (wsV own index C y ws)) (hy : y.cls = C) (hM : x_Ci l D dA cl tyL B y ws rm [.ref b] w post mc ms) (hC : x_call R cells slots rm mc ms ws ws2 y bytes maxL rt 0) (hc : cl[ci]? = some (C, T, N)) (hb : w b = some (.inr (ci, fs))) (hcat : (st.map fun v => v.category).sum ≤ 8) (k : ∀ v w1, post v w1 → X p l e R s m args below meth c Q D dA cl B nL (cells + mc) (slots + ms) (pc + 3) lv (v :: st) w1) : X p l e R s m args below meth c Q D dA cl B nL cells slots pc lv (.ref b :: st) w :=
  x_callV (av := []) (rest := st) F hd hG hy hM hC hc hb rfl rfl hcat (fun r w1 ⟨v, hv, hp⟩ => by subst hv; exact k v w1 hp)
theorem x_cSi0 (F : x_Fix p s m args meth c cc nL own Ts ret nm D dA cl tyL B) {index : Nat} {maxL mc ms : Nat} {y : MethodName} {bytes : ByteArray} {ws ws2 : List Cond} {rm : Room} {rt : Option FieldType} {post : Value → xW → Prop} (hd : decode cc pc = .ok (.invokestatic index, 3)) (hG : GoodIn Ts (va_wsS own index y ws)) (hM : x_Ci l D dA cl tyL B y ws rm [] w post mc ms) (hC : x_call R cells slots rm mc ms ws ws2 y bytes maxL rt 0) (hcat : (st.map fun v => v.category).sum ≤ 8) (k : ∀ v w1, post v w1 → X p l e R s m args below meth c Q D dA cl B nL (cells + mc) (slots + ms) (pc + 3) lv (v :: st) w1) : X p l e R s m args below meth c Q D dA cl B nL cells slots pc lv (st) w :=
  x_callS (av := []) (rest := st) F hd hG hM hC rfl rfl hcat (fun r w1 ⟨v, hv, hp⟩ => by subst hv; exact k v w1 hp)
theorem x_cVv0 (F : x_Fix p s m args meth c cc nL own Ts ret nm D dA cl tyL B) {C : String} {T : u_T} {N ci index b : Nat} {maxL mc ms : Nat} {y : MethodName} {bytes : ByteArray} {ws ws2 : List Cond} {rm : Room} {rt : Option FieldType} {fs : List Value} {post : xW → Prop} (hd : decode cc pc = .ok (.invokevirtual index, 3)) (hG : GoodIn Ts (wsV own index C y ws)) (hy : y.cls = C) (hM : x_Cv l D dA cl tyL B y ws rm [.ref b] w post mc ms) (hC : x_call R cells slots rm mc ms ws ws2 y bytes maxL rt 0) (hc : cl[ci]? = some (C, T, N)) (hb : w b = some (.inr (ci, fs))) (hcat : (st.map fun v => v.category).sum ≤ 8) (k : ∀ w1, post w1 → X p l e R s m args below meth c Q D dA cl B nL (cells + mc) (slots + ms) (pc + 3) lv st w1) : X p l e R s m args below meth c Q D dA cl B nL cells slots pc lv (.ref b :: st) w :=
  x_callV (av := []) (rest := st) F hd hG hy hM hC hc hb rfl rfl hcat (fun r w1 ⟨hv, hp⟩ => by subst hv; exact k w1 hp)
theorem x_cSv0 (F : x_Fix p s m args meth c cc nL own Ts ret nm D dA cl tyL B) {index : Nat} {maxL mc ms : Nat} {y : MethodName} {bytes : ByteArray} {ws ws2 : List Cond} {rm : Room} {rt : Option FieldType} {post : xW → Prop} (hd : decode cc pc = .ok (.invokestatic index, 3)) (hG : GoodIn Ts (va_wsS own index y ws)) (hM : x_Cv l D dA cl tyL B y ws rm [] w post mc ms) (hC : x_call R cells slots rm mc ms ws ws2 y bytes maxL rt 0) (hcat : (st.map fun v => v.category).sum ≤ 8) (k : ∀ w1, post w1 → X p l e R s m args below meth c Q D dA cl B nL (cells + mc) (slots + ms) (pc + 3) lv st w1) : X p l e R s m args below meth c Q D dA cl B nL cells slots pc lv (st) w :=
  x_callS (av := []) (rest := st) F hd hG hM hC rfl rfl hcat (fun r w1 ⟨hv, hp⟩ => by subst hv; exact k w1 hp)
theorem x_cI0 (F : x_Fix p s m args meth c cc nL own Ts ret nm D dA cl tyL B) {index b : Nat} {maxL mc ms : Nat} {y : MethodName} {bytes : ByteArray} {ws ws2 : List Cond} {rm : Room} {post : xW → Prop} (hd : decode cc pc = .ok (.invokespecial index, 3)) (hG : GoodIn Ts ws) (hini : Cond.initialized y.cls ∈ Ts) (hlk : Cond.methodLink own index y ∈ Ts) (hin : Cond.instanceMethod y ∈ Ts) (hy : y.name = "<init>") (hM : x_Cv l D dA cl tyL B y ws rm [.ref b] w post mc ms) (hC : x_call R cells slots rm mc ms ws ws2 y bytes maxL none 0) (hcat : (st.map fun v => v.category).sum ≤ 8) (k : ∀ w1, post w1 → X p l e R s m args below meth c Q D dA cl B nL (cells + mc) (slots + ms) (pc + 3) lv st w1) : X p l e R s m args below meth c Q D dA cl B nL cells slots pc lv (.ref b :: st) w :=
  x_callI (av := []) (rest := st) F hd hG hini hlk hin hy hM hC rfl rfl hcat (fun r w1 ⟨hv, hp⟩ => by subst hv; exact k w1 hp)
theorem x_cVi1 (F : x_Fix p s m args meth c cc nL own Ts ret nm D dA cl tyL B) {C : String} {T : u_T} {N ci index b : Nat} {maxL mc ms : Nat} {y : MethodName} {bytes : ByteArray} {ws ws2 : List Cond} {rm : Room} {rt : Option FieldType} {fs : List Value} {v1 : Value} {post : Value → xW → Prop} (hd : decode cc pc = .ok (.invokevirtual index, 3)) (hG : GoodIn Ts (wsV own index C y ws)) (hy : y.cls = C) (hM : x_Ci l D dA cl tyL B y ws rm [.ref b, v1] w post mc ms) (hC : x_call R cells slots rm mc ms ws ws2 y bytes maxL rt 1) (hc : cl[ci]? = some (C, T, N)) (hb : w b = some (.inr (ci, fs))) (hcat : (st.map fun v => v.category).sum ≤ 8) (k : ∀ v w1, post v w1 → X p l e R s m args below meth c Q D dA cl B nL (cells + mc) (slots + ms) (pc + 3) lv (v :: st) w1) : X p l e R s m args below meth c Q D dA cl B nL cells slots pc lv (v1 :: .ref b :: st) w :=
  x_callV (av := [v1]) (rest := st) F hd hG hy hM hC hc hb rfl rfl hcat (fun r w1 ⟨v, hv, hp⟩ => by subst hv; exact k v w1 hp)
theorem x_cSi1 (F : x_Fix p s m args meth c cc nL own Ts ret nm D dA cl tyL B) {index : Nat} {maxL mc ms : Nat} {y : MethodName} {bytes : ByteArray} {ws ws2 : List Cond} {rm : Room} {rt : Option FieldType} {v1 : Value} {post : Value → xW → Prop} (hd : decode cc pc = .ok (.invokestatic index, 3)) (hG : GoodIn Ts (va_wsS own index y ws)) (hM : x_Ci l D dA cl tyL B y ws rm [v1] w post mc ms) (hC : x_call R cells slots rm mc ms ws ws2 y bytes maxL rt 1) (hcat : (st.map fun v => v.category).sum ≤ 8) (k : ∀ v w1, post v w1 → X p l e R s m args below meth c Q D dA cl B nL (cells + mc) (slots + ms) (pc + 3) lv (v :: st) w1) : X p l e R s m args below meth c Q D dA cl B nL cells slots pc lv (v1 :: st) w :=
  x_callS (av := [v1]) (rest := st) F hd hG hM hC rfl rfl hcat (fun r w1 ⟨v, hv, hp⟩ => by subst hv; exact k v w1 hp)
theorem x_cVv1 (F : x_Fix p s m args meth c cc nL own Ts ret nm D dA cl tyL B) {C : String} {T : u_T} {N ci index b : Nat} {maxL mc ms : Nat} {y : MethodName} {bytes : ByteArray} {ws ws2 : List Cond} {rm : Room} {rt : Option FieldType} {fs : List Value} {v1 : Value} {post : xW → Prop} (hd : decode cc pc = .ok (.invokevirtual index, 3)) (hG : GoodIn Ts (wsV own index C y ws)) (hy : y.cls = C) (hM : x_Cv l D dA cl tyL B y ws rm [.ref b, v1] w post mc ms) (hC : x_call R cells slots rm mc ms ws ws2 y bytes maxL rt 1) (hc : cl[ci]? = some (C, T, N)) (hb : w b = some (.inr (ci, fs))) (hcat : (st.map fun v => v.category).sum ≤ 8) (k : ∀ w1, post w1 → X p l e R s m args below meth c Q D dA cl B nL (cells + mc) (slots + ms) (pc + 3) lv st w1) : X p l e R s m args below meth c Q D dA cl B nL cells slots pc lv (v1 :: .ref b :: st) w :=
  x_callV (av := [v1]) (rest := st) F hd hG hy hM hC hc hb rfl rfl hcat (fun r w1 ⟨hv, hp⟩ => by subst hv; exact k w1 hp)
theorem x_cSv1 (F : x_Fix p s m args meth c cc nL own Ts ret nm D dA cl tyL B) {index : Nat} {maxL mc ms : Nat} {y : MethodName} {bytes : ByteArray} {ws ws2 : List Cond} {rm : Room} {rt : Option FieldType} {v1 : Value} {post : xW → Prop} (hd : decode cc pc = .ok (.invokestatic index, 3)) (hG : GoodIn Ts (va_wsS own index y ws)) (hM : x_Cv l D dA cl tyL B y ws rm [v1] w post mc ms) (hC : x_call R cells slots rm mc ms ws ws2 y bytes maxL rt 1) (hcat : (st.map fun v => v.category).sum ≤ 8) (k : ∀ w1, post w1 → X p l e R s m args below meth c Q D dA cl B nL (cells + mc) (slots + ms) (pc + 3) lv st w1) : X p l e R s m args below meth c Q D dA cl B nL cells slots pc lv (v1 :: st) w :=
  x_callS (av := [v1]) (rest := st) F hd hG hM hC rfl rfl hcat (fun r w1 ⟨hv, hp⟩ => by subst hv; exact k w1 hp)
theorem x_cI1 (F : x_Fix p s m args meth c cc nL own Ts ret nm D dA cl tyL B) {index b : Nat} {maxL mc ms : Nat} {y : MethodName} {bytes : ByteArray} {ws ws2 : List Cond} {rm : Room} {v1 : Value} {post : xW → Prop} (hd : decode cc pc = .ok (.invokespecial index, 3)) (hG : GoodIn Ts ws) (hini : Cond.initialized y.cls ∈ Ts) (hlk : Cond.methodLink own index y ∈ Ts) (hin : Cond.instanceMethod y ∈ Ts) (hy : y.name = "<init>") (hM : x_Cv l D dA cl tyL B y ws rm [.ref b, v1] w post mc ms) (hC : x_call R cells slots rm mc ms ws ws2 y bytes maxL none 1) (hcat : (st.map fun v => v.category).sum ≤ 8) (k : ∀ w1, post w1 → X p l e R s m args below meth c Q D dA cl B nL (cells + mc) (slots + ms) (pc + 3) lv st w1) : X p l e R s m args below meth c Q D dA cl B nL cells slots pc lv (v1 :: .ref b :: st) w :=
  x_callI (av := [v1]) (rest := st) F hd hG hini hlk hin hy hM hC rfl rfl hcat (fun r w1 ⟨hv, hp⟩ => by subst hv; exact k w1 hp)
theorem x_cVi2 (F : x_Fix p s m args meth c cc nL own Ts ret nm D dA cl tyL B) {C : String} {T : u_T} {N ci index b : Nat} {maxL mc ms : Nat} {y : MethodName} {bytes : ByteArray} {ws ws2 : List Cond} {rm : Room} {rt : Option FieldType} {fs : List Value} {v1 v2 : Value} {post : Value → xW → Prop} (hd : decode cc pc = .ok (.invokevirtual index, 3)) (hG : GoodIn Ts (wsV own index C y ws)) (hy : y.cls = C) (hM : x_Ci l D dA cl tyL B y ws rm [.ref b, v1, v2] w post mc ms) (hC : x_call R cells slots rm mc ms ws ws2 y bytes maxL rt 2) (hc : cl[ci]? = some (C, T, N)) (hb : w b = some (.inr (ci, fs))) (hcat : (st.map fun v => v.category).sum ≤ 8) (k : ∀ v w1, post v w1 → X p l e R s m args below meth c Q D dA cl B nL (cells + mc) (slots + ms) (pc + 3) lv (v :: st) w1) : X p l e R s m args below meth c Q D dA cl B nL cells slots pc lv (v2 :: v1 :: .ref b :: st) w :=
  x_callV (av := [v1, v2]) (rest := st) F hd hG hy hM hC hc hb rfl rfl hcat (fun r w1 ⟨v, hv, hp⟩ => by subst hv; exact k v w1 hp)
theorem x_cSi2 (F : x_Fix p s m args meth c cc nL own Ts ret nm D dA cl tyL B) {index : Nat} {maxL mc ms : Nat} {y : MethodName} {bytes : ByteArray} {ws ws2 : List Cond} {rm : Room} {rt : Option FieldType} {v1 v2 : Value} {post : Value → xW → Prop} (hd : decode cc pc = .ok (.invokestatic index, 3)) (hG : GoodIn Ts (va_wsS own index y ws)) (hM : x_Ci l D dA cl tyL B y ws rm [v1, v2] w post mc ms) (hC : x_call R cells slots rm mc ms ws ws2 y bytes maxL rt 2) (hcat : (st.map fun v => v.category).sum ≤ 8) (k : ∀ v w1, post v w1 → X p l e R s m args below meth c Q D dA cl B nL (cells + mc) (slots + ms) (pc + 3) lv (v :: st) w1) : X p l e R s m args below meth c Q D dA cl B nL cells slots pc lv (v2 :: v1 :: st) w :=
  x_callS (av := [v1, v2]) (rest := st) F hd hG hM hC rfl rfl hcat (fun r w1 ⟨v, hv, hp⟩ => by subst hv; exact k v w1 hp)
theorem x_cVv2 (F : x_Fix p s m args meth c cc nL own Ts ret nm D dA cl tyL B) {C : String} {T : u_T} {N ci index b : Nat} {maxL mc ms : Nat} {y : MethodName} {bytes : ByteArray} {ws ws2 : List Cond} {rm : Room} {rt : Option FieldType} {fs : List Value} {v1 v2 : Value} {post : xW → Prop} (hd : decode cc pc = .ok (.invokevirtual index, 3)) (hG : GoodIn Ts (wsV own index C y ws)) (hy : y.cls = C) (hM : x_Cv l D dA cl tyL B y ws rm [.ref b, v1, v2] w post mc ms) (hC : x_call R cells slots rm mc ms ws ws2 y bytes maxL rt 2) (hc : cl[ci]? = some (C, T, N)) (hb : w b = some (.inr (ci, fs))) (hcat : (st.map fun v => v.category).sum ≤ 8) (k : ∀ w1, post w1 → X p l e R s m args below meth c Q D dA cl B nL (cells + mc) (slots + ms) (pc + 3) lv st w1) : X p l e R s m args below meth c Q D dA cl B nL cells slots pc lv (v2 :: v1 :: .ref b :: st) w :=
  x_callV (av := [v1, v2]) (rest := st) F hd hG hy hM hC hc hb rfl rfl hcat (fun r w1 ⟨hv, hp⟩ => by subst hv; exact k w1 hp)
theorem x_cSv2 (F : x_Fix p s m args meth c cc nL own Ts ret nm D dA cl tyL B) {index : Nat} {maxL mc ms : Nat} {y : MethodName} {bytes : ByteArray} {ws ws2 : List Cond} {rm : Room} {rt : Option FieldType} {v1 v2 : Value} {post : xW → Prop} (hd : decode cc pc = .ok (.invokestatic index, 3)) (hG : GoodIn Ts (va_wsS own index y ws)) (hM : x_Cv l D dA cl tyL B y ws rm [v1, v2] w post mc ms) (hC : x_call R cells slots rm mc ms ws ws2 y bytes maxL rt 2) (hcat : (st.map fun v => v.category).sum ≤ 8) (k : ∀ w1, post w1 → X p l e R s m args below meth c Q D dA cl B nL (cells + mc) (slots + ms) (pc + 3) lv st w1) : X p l e R s m args below meth c Q D dA cl B nL cells slots pc lv (v2 :: v1 :: st) w :=
  x_callS (av := [v1, v2]) (rest := st) F hd hG hM hC rfl rfl hcat (fun r w1 ⟨hv, hp⟩ => by subst hv; exact k w1 hp)
theorem x_cI2 (F : x_Fix p s m args meth c cc nL own Ts ret nm D dA cl tyL B) {index b : Nat} {maxL mc ms : Nat} {y : MethodName} {bytes : ByteArray} {ws ws2 : List Cond} {rm : Room} {v1 v2 : Value} {post : xW → Prop} (hd : decode cc pc = .ok (.invokespecial index, 3)) (hG : GoodIn Ts ws) (hini : Cond.initialized y.cls ∈ Ts) (hlk : Cond.methodLink own index y ∈ Ts) (hin : Cond.instanceMethod y ∈ Ts) (hy : y.name = "<init>") (hM : x_Cv l D dA cl tyL B y ws rm [.ref b, v1, v2] w post mc ms) (hC : x_call R cells slots rm mc ms ws ws2 y bytes maxL none 2) (hcat : (st.map fun v => v.category).sum ≤ 8) (k : ∀ w1, post w1 → X p l e R s m args below meth c Q D dA cl B nL (cells + mc) (slots + ms) (pc + 3) lv st w1) : X p l e R s m args below meth c Q D dA cl B nL cells slots pc lv (v2 :: v1 :: .ref b :: st) w :=
  x_callI (av := [v1, v2]) (rest := st) F hd hG hini hlk hin hy hM hC rfl rfl hcat (fun r w1 ⟨hv, hp⟩ => by subst hv; exact k w1 hp)
theorem x_cVi3 (F : x_Fix p s m args meth c cc nL own Ts ret nm D dA cl tyL B) {C : String} {T : u_T} {N ci index b : Nat} {maxL mc ms : Nat} {y : MethodName} {bytes : ByteArray} {ws ws2 : List Cond} {rm : Room} {rt : Option FieldType} {fs : List Value} {v1 v2 v3 : Value} {post : Value → xW → Prop} (hd : decode cc pc = .ok (.invokevirtual index, 3)) (hG : GoodIn Ts (wsV own index C y ws)) (hy : y.cls = C) (hM : x_Ci l D dA cl tyL B y ws rm [.ref b, v1, v2, v3] w post mc ms) (hC : x_call R cells slots rm mc ms ws ws2 y bytes maxL rt 3) (hc : cl[ci]? = some (C, T, N)) (hb : w b = some (.inr (ci, fs))) (hcat : (st.map fun v => v.category).sum ≤ 8) (k : ∀ v w1, post v w1 → X p l e R s m args below meth c Q D dA cl B nL (cells + mc) (slots + ms) (pc + 3) lv (v :: st) w1) : X p l e R s m args below meth c Q D dA cl B nL cells slots pc lv (v3 :: v2 :: v1 :: .ref b :: st) w :=
  x_callV (av := [v1, v2, v3]) (rest := st) F hd hG hy hM hC hc hb rfl rfl hcat (fun r w1 ⟨v, hv, hp⟩ => by subst hv; exact k v w1 hp)
theorem x_cSi3 (F : x_Fix p s m args meth c cc nL own Ts ret nm D dA cl tyL B) {index : Nat} {maxL mc ms : Nat} {y : MethodName} {bytes : ByteArray} {ws ws2 : List Cond} {rm : Room} {rt : Option FieldType} {v1 v2 v3 : Value} {post : Value → xW → Prop} (hd : decode cc pc = .ok (.invokestatic index, 3)) (hG : GoodIn Ts (va_wsS own index y ws)) (hM : x_Ci l D dA cl tyL B y ws rm [v1, v2, v3] w post mc ms) (hC : x_call R cells slots rm mc ms ws ws2 y bytes maxL rt 3) (hcat : (st.map fun v => v.category).sum ≤ 8) (k : ∀ v w1, post v w1 → X p l e R s m args below meth c Q D dA cl B nL (cells + mc) (slots + ms) (pc + 3) lv (v :: st) w1) : X p l e R s m args below meth c Q D dA cl B nL cells slots pc lv (v3 :: v2 :: v1 :: st) w :=
  x_callS (av := [v1, v2, v3]) (rest := st) F hd hG hM hC rfl rfl hcat (fun r w1 ⟨v, hv, hp⟩ => by subst hv; exact k v w1 hp)
theorem x_cVv3 (F : x_Fix p s m args meth c cc nL own Ts ret nm D dA cl tyL B) {C : String} {T : u_T} {N ci index b : Nat} {maxL mc ms : Nat} {y : MethodName} {bytes : ByteArray} {ws ws2 : List Cond} {rm : Room} {rt : Option FieldType} {fs : List Value} {v1 v2 v3 : Value} {post : xW → Prop} (hd : decode cc pc = .ok (.invokevirtual index, 3)) (hG : GoodIn Ts (wsV own index C y ws)) (hy : y.cls = C) (hM : x_Cv l D dA cl tyL B y ws rm [.ref b, v1, v2, v3] w post mc ms) (hC : x_call R cells slots rm mc ms ws ws2 y bytes maxL rt 3) (hc : cl[ci]? = some (C, T, N)) (hb : w b = some (.inr (ci, fs))) (hcat : (st.map fun v => v.category).sum ≤ 8) (k : ∀ w1, post w1 → X p l e R s m args below meth c Q D dA cl B nL (cells + mc) (slots + ms) (pc + 3) lv st w1) : X p l e R s m args below meth c Q D dA cl B nL cells slots pc lv (v3 :: v2 :: v1 :: .ref b :: st) w :=
  x_callV (av := [v1, v2, v3]) (rest := st) F hd hG hy hM hC hc hb rfl rfl hcat (fun r w1 ⟨hv, hp⟩ => by subst hv; exact k w1 hp)
theorem x_cSv3 (F : x_Fix p s m args meth c cc nL own Ts ret nm D dA cl tyL B) {index : Nat} {maxL mc ms : Nat} {y : MethodName} {bytes : ByteArray} {ws ws2 : List Cond} {rm : Room} {rt : Option FieldType} {v1 v2 v3 : Value} {post : xW → Prop} (hd : decode cc pc = .ok (.invokestatic index, 3)) (hG : GoodIn Ts (va_wsS own index y ws)) (hM : x_Cv l D dA cl tyL B y ws rm [v1, v2, v3] w post mc ms) (hC : x_call R cells slots rm mc ms ws ws2 y bytes maxL rt 3) (hcat : (st.map fun v => v.category).sum ≤ 8) (k : ∀ w1, post w1 → X p l e R s m args below meth c Q D dA cl B nL (cells + mc) (slots + ms) (pc + 3) lv st w1) : X p l e R s m args below meth c Q D dA cl B nL cells slots pc lv (v3 :: v2 :: v1 :: st) w :=
  x_callS (av := [v1, v2, v3]) (rest := st) F hd hG hM hC rfl rfl hcat (fun r w1 ⟨hv, hp⟩ => by subst hv; exact k w1 hp)
theorem x_cI3 (F : x_Fix p s m args meth c cc nL own Ts ret nm D dA cl tyL B) {index b : Nat} {maxL mc ms : Nat} {y : MethodName} {bytes : ByteArray} {ws ws2 : List Cond} {rm : Room} {v1 v2 v3 : Value} {post : xW → Prop} (hd : decode cc pc = .ok (.invokespecial index, 3)) (hG : GoodIn Ts ws) (hini : Cond.initialized y.cls ∈ Ts) (hlk : Cond.methodLink own index y ∈ Ts) (hin : Cond.instanceMethod y ∈ Ts) (hy : y.name = "<init>") (hM : x_Cv l D dA cl tyL B y ws rm [.ref b, v1, v2, v3] w post mc ms) (hC : x_call R cells slots rm mc ms ws ws2 y bytes maxL none 3) (hcat : (st.map fun v => v.category).sum ≤ 8) (k : ∀ w1, post w1 → X p l e R s m args below meth c Q D dA cl B nL (cells + mc) (slots + ms) (pc + 3) lv st w1) : X p l e R s m args below meth c Q D dA cl B nL cells slots pc lv (v3 :: v2 :: v1 :: .ref b :: st) w :=
  x_callI (av := [v1, v2, v3]) (rest := st) F hd hG hini hlk hin hy hM hC rfl rfl hcat (fun r w1 ⟨hv, hp⟩ => by subst hv; exact k w1 hp)
theorem x_cVi4 (F : x_Fix p s m args meth c cc nL own Ts ret nm D dA cl tyL B) {C : String} {T : u_T} {N ci index b : Nat} {maxL mc ms : Nat} {y : MethodName} {bytes : ByteArray} {ws ws2 : List Cond} {rm : Room} {rt : Option FieldType} {fs : List Value} {v1 v2 v3 v4 : Value} {post : Value → xW → Prop} (hd : decode cc pc = .ok (.invokevirtual index, 3)) (hG : GoodIn Ts (wsV own index C y ws)) (hy : y.cls = C) (hM : x_Ci l D dA cl tyL B y ws rm [.ref b, v1, v2, v3, v4] w post mc ms) (hC : x_call R cells slots rm mc ms ws ws2 y bytes maxL rt 4) (hc : cl[ci]? = some (C, T, N)) (hb : w b = some (.inr (ci, fs))) (hcat : (st.map fun v => v.category).sum ≤ 8) (k : ∀ v w1, post v w1 → X p l e R s m args below meth c Q D dA cl B nL (cells + mc) (slots + ms) (pc + 3) lv (v :: st) w1) : X p l e R s m args below meth c Q D dA cl B nL cells slots pc lv (v4 :: v3 :: v2 :: v1 :: .ref b :: st) w :=
  x_callV (av := [v1, v2, v3, v4]) (rest := st) F hd hG hy hM hC hc hb rfl rfl hcat (fun r w1 ⟨v, hv, hp⟩ => by subst hv; exact k v w1 hp)
theorem x_cSi4 (F : x_Fix p s m args meth c cc nL own Ts ret nm D dA cl tyL B) {index : Nat} {maxL mc ms : Nat} {y : MethodName} {bytes : ByteArray} {ws ws2 : List Cond} {rm : Room} {rt : Option FieldType} {v1 v2 v3 v4 : Value} {post : Value → xW → Prop} (hd : decode cc pc = .ok (.invokestatic index, 3)) (hG : GoodIn Ts (va_wsS own index y ws)) (hM : x_Ci l D dA cl tyL B y ws rm [v1, v2, v3, v4] w post mc ms) (hC : x_call R cells slots rm mc ms ws ws2 y bytes maxL rt 4) (hcat : (st.map fun v => v.category).sum ≤ 8) (k : ∀ v w1, post v w1 → X p l e R s m args below meth c Q D dA cl B nL (cells + mc) (slots + ms) (pc + 3) lv (v :: st) w1) : X p l e R s m args below meth c Q D dA cl B nL cells slots pc lv (v4 :: v3 :: v2 :: v1 :: st) w :=
  x_callS (av := [v1, v2, v3, v4]) (rest := st) F hd hG hM hC rfl rfl hcat (fun r w1 ⟨v, hv, hp⟩ => by subst hv; exact k v w1 hp)
theorem x_cVv4 (F : x_Fix p s m args meth c cc nL own Ts ret nm D dA cl tyL B) {C : String} {T : u_T} {N ci index b : Nat} {maxL mc ms : Nat} {y : MethodName} {bytes : ByteArray} {ws ws2 : List Cond} {rm : Room} {rt : Option FieldType} {fs : List Value} {v1 v2 v3 v4 : Value} {post : xW → Prop} (hd : decode cc pc = .ok (.invokevirtual index, 3)) (hG : GoodIn Ts (wsV own index C y ws)) (hy : y.cls = C) (hM : x_Cv l D dA cl tyL B y ws rm [.ref b, v1, v2, v3, v4] w post mc ms) (hC : x_call R cells slots rm mc ms ws ws2 y bytes maxL rt 4) (hc : cl[ci]? = some (C, T, N)) (hb : w b = some (.inr (ci, fs))) (hcat : (st.map fun v => v.category).sum ≤ 8) (k : ∀ w1, post w1 → X p l e R s m args below meth c Q D dA cl B nL (cells + mc) (slots + ms) (pc + 3) lv st w1) : X p l e R s m args below meth c Q D dA cl B nL cells slots pc lv (v4 :: v3 :: v2 :: v1 :: .ref b :: st) w :=
  x_callV (av := [v1, v2, v3, v4]) (rest := st) F hd hG hy hM hC hc hb rfl rfl hcat (fun r w1 ⟨hv, hp⟩ => by subst hv; exact k w1 hp)
theorem x_cSv4 (F : x_Fix p s m args meth c cc nL own Ts ret nm D dA cl tyL B) {index : Nat} {maxL mc ms : Nat} {y : MethodName} {bytes : ByteArray} {ws ws2 : List Cond} {rm : Room} {rt : Option FieldType} {v1 v2 v3 v4 : Value} {post : xW → Prop} (hd : decode cc pc = .ok (.invokestatic index, 3)) (hG : GoodIn Ts (va_wsS own index y ws)) (hM : x_Cv l D dA cl tyL B y ws rm [v1, v2, v3, v4] w post mc ms) (hC : x_call R cells slots rm mc ms ws ws2 y bytes maxL rt 4) (hcat : (st.map fun v => v.category).sum ≤ 8) (k : ∀ w1, post w1 → X p l e R s m args below meth c Q D dA cl B nL (cells + mc) (slots + ms) (pc + 3) lv st w1) : X p l e R s m args below meth c Q D dA cl B nL cells slots pc lv (v4 :: v3 :: v2 :: v1 :: st) w :=
  x_callS (av := [v1, v2, v3, v4]) (rest := st) F hd hG hM hC rfl rfl hcat (fun r w1 ⟨hv, hp⟩ => by subst hv; exact k w1 hp)
theorem x_cI4 (F : x_Fix p s m args meth c cc nL own Ts ret nm D dA cl tyL B) {index b : Nat} {maxL mc ms : Nat} {y : MethodName} {bytes : ByteArray} {ws ws2 : List Cond} {rm : Room} {v1 v2 v3 v4 : Value} {post : xW → Prop} (hd : decode cc pc = .ok (.invokespecial index, 3)) (hG : GoodIn Ts ws) (hini : Cond.initialized y.cls ∈ Ts) (hlk : Cond.methodLink own index y ∈ Ts) (hin : Cond.instanceMethod y ∈ Ts) (hy : y.name = "<init>") (hM : x_Cv l D dA cl tyL B y ws rm [.ref b, v1, v2, v3, v4] w post mc ms) (hC : x_call R cells slots rm mc ms ws ws2 y bytes maxL none 4) (hcat : (st.map fun v => v.category).sum ≤ 8) (k : ∀ w1, post w1 → X p l e R s m args below meth c Q D dA cl B nL (cells + mc) (slots + ms) (pc + 3) lv st w1) : X p l e R s m args below meth c Q D dA cl B nL cells slots pc lv (v4 :: v3 :: v2 :: v1 :: .ref b :: st) w :=
  x_callI (av := [v1, v2, v3, v4]) (rest := st) F hd hG hini hlk hin hy hM hC rfl rfl hcat (fun r w1 ⟨hv, hp⟩ => by subst hv; exact k w1 hp)
theorem x_cVi5 (F : x_Fix p s m args meth c cc nL own Ts ret nm D dA cl tyL B) {C : String} {T : u_T} {N ci index b : Nat} {maxL mc ms : Nat} {y : MethodName} {bytes : ByteArray} {ws ws2 : List Cond} {rm : Room} {rt : Option FieldType} {fs : List Value} {v1 v2 v3 v4 v5 : Value} {post : Value → xW → Prop} (hd : decode cc pc = .ok (.invokevirtual index, 3)) (hG : GoodIn Ts (wsV own index C y ws)) (hy : y.cls = C) (hM : x_Ci l D dA cl tyL B y ws rm [.ref b, v1, v2, v3, v4, v5] w post mc ms) (hC : x_call R cells slots rm mc ms ws ws2 y bytes maxL rt 5) (hc : cl[ci]? = some (C, T, N)) (hb : w b = some (.inr (ci, fs))) (hcat : (st.map fun v => v.category).sum ≤ 8) (k : ∀ v w1, post v w1 → X p l e R s m args below meth c Q D dA cl B nL (cells + mc) (slots + ms) (pc + 3) lv (v :: st) w1) : X p l e R s m args below meth c Q D dA cl B nL cells slots pc lv (v5 :: v4 :: v3 :: v2 :: v1 :: .ref b :: st) w :=
  x_callV (av := [v1, v2, v3, v4, v5]) (rest := st) F hd hG hy hM hC hc hb rfl rfl hcat (fun r w1 ⟨v, hv, hp⟩ => by subst hv; exact k v w1 hp)
theorem x_cSi5 (F : x_Fix p s m args meth c cc nL own Ts ret nm D dA cl tyL B) {index : Nat} {maxL mc ms : Nat} {y : MethodName} {bytes : ByteArray} {ws ws2 : List Cond} {rm : Room} {rt : Option FieldType} {v1 v2 v3 v4 v5 : Value} {post : Value → xW → Prop} (hd : decode cc pc = .ok (.invokestatic index, 3)) (hG : GoodIn Ts (va_wsS own index y ws)) (hM : x_Ci l D dA cl tyL B y ws rm [v1, v2, v3, v4, v5] w post mc ms) (hC : x_call R cells slots rm mc ms ws ws2 y bytes maxL rt 5) (hcat : (st.map fun v => v.category).sum ≤ 8) (k : ∀ v w1, post v w1 → X p l e R s m args below meth c Q D dA cl B nL (cells + mc) (slots + ms) (pc + 3) lv (v :: st) w1) : X p l e R s m args below meth c Q D dA cl B nL cells slots pc lv (v5 :: v4 :: v3 :: v2 :: v1 :: st) w :=
  x_callS (av := [v1, v2, v3, v4, v5]) (rest := st) F hd hG hM hC rfl rfl hcat (fun r w1 ⟨v, hv, hp⟩ => by subst hv; exact k v w1 hp)
theorem x_cVv5 (F : x_Fix p s m args meth c cc nL own Ts ret nm D dA cl tyL B) {C : String} {T : u_T} {N ci index b : Nat} {maxL mc ms : Nat} {y : MethodName} {bytes : ByteArray} {ws ws2 : List Cond} {rm : Room} {rt : Option FieldType} {fs : List Value} {v1 v2 v3 v4 v5 : Value} {post : xW → Prop} (hd : decode cc pc = .ok (.invokevirtual index, 3)) (hG : GoodIn Ts (wsV own index C y ws)) (hy : y.cls = C) (hM : x_Cv l D dA cl tyL B y ws rm [.ref b, v1, v2, v3, v4, v5] w post mc ms) (hC : x_call R cells slots rm mc ms ws ws2 y bytes maxL rt 5) (hc : cl[ci]? = some (C, T, N)) (hb : w b = some (.inr (ci, fs))) (hcat : (st.map fun v => v.category).sum ≤ 8) (k : ∀ w1, post w1 → X p l e R s m args below meth c Q D dA cl B nL (cells + mc) (slots + ms) (pc + 3) lv st w1) : X p l e R s m args below meth c Q D dA cl B nL cells slots pc lv (v5 :: v4 :: v3 :: v2 :: v1 :: .ref b :: st) w :=
  x_callV (av := [v1, v2, v3, v4, v5]) (rest := st) F hd hG hy hM hC hc hb rfl rfl hcat (fun r w1 ⟨hv, hp⟩ => by subst hv; exact k w1 hp)
theorem x_cSv5 (F : x_Fix p s m args meth c cc nL own Ts ret nm D dA cl tyL B) {index : Nat} {maxL mc ms : Nat} {y : MethodName} {bytes : ByteArray} {ws ws2 : List Cond} {rm : Room} {rt : Option FieldType} {v1 v2 v3 v4 v5 : Value} {post : xW → Prop} (hd : decode cc pc = .ok (.invokestatic index, 3)) (hG : GoodIn Ts (va_wsS own index y ws)) (hM : x_Cv l D dA cl tyL B y ws rm [v1, v2, v3, v4, v5] w post mc ms) (hC : x_call R cells slots rm mc ms ws ws2 y bytes maxL rt 5) (hcat : (st.map fun v => v.category).sum ≤ 8) (k : ∀ w1, post w1 → X p l e R s m args below meth c Q D dA cl B nL (cells + mc) (slots + ms) (pc + 3) lv st w1) : X p l e R s m args below meth c Q D dA cl B nL cells slots pc lv (v5 :: v4 :: v3 :: v2 :: v1 :: st) w :=
  x_callS (av := [v1, v2, v3, v4, v5]) (rest := st) F hd hG hM hC rfl rfl hcat (fun r w1 ⟨hv, hp⟩ => by subst hv; exact k w1 hp)
theorem x_cI5 (F : x_Fix p s m args meth c cc nL own Ts ret nm D dA cl tyL B) {index b : Nat} {maxL mc ms : Nat} {y : MethodName} {bytes : ByteArray} {ws ws2 : List Cond} {rm : Room} {v1 v2 v3 v4 v5 : Value} {post : xW → Prop} (hd : decode cc pc = .ok (.invokespecial index, 3)) (hG : GoodIn Ts ws) (hini : Cond.initialized y.cls ∈ Ts) (hlk : Cond.methodLink own index y ∈ Ts) (hin : Cond.instanceMethod y ∈ Ts) (hy : y.name = "<init>") (hM : x_Cv l D dA cl tyL B y ws rm [.ref b, v1, v2, v3, v4, v5] w post mc ms) (hC : x_call R cells slots rm mc ms ws ws2 y bytes maxL none 5) (hcat : (st.map fun v => v.category).sum ≤ 8) (k : ∀ w1, post w1 → X p l e R s m args below meth c Q D dA cl B nL (cells + mc) (slots + ms) (pc + 3) lv st w1) : X p l e R s m args below meth c Q D dA cl B nL cells slots pc lv (v5 :: v4 :: v3 :: v2 :: v1 :: .ref b :: st) w :=
  x_callI (av := [v1, v2, v3, v4, v5]) (rest := st) F hd hG hini hlk hin hy hM hC rfl rfl hcat (fun r w1 ⟨hv, hp⟩ => by subst hv; exact k w1 hp)
theorem x_cVi6 (F : x_Fix p s m args meth c cc nL own Ts ret nm D dA cl tyL B) {C : String} {T : u_T} {N ci index b : Nat} {maxL mc ms : Nat} {y : MethodName} {bytes : ByteArray} {ws ws2 : List Cond} {rm : Room} {rt : Option FieldType} {fs : List Value} {v1 v2 v3 v4 v5 v6 : Value} {post : Value → xW → Prop} (hd : decode cc pc = .ok (.invokevirtual index, 3)) (hG : GoodIn Ts (wsV own index C y ws)) (hy : y.cls = C) (hM : x_Ci l D dA cl tyL B y ws rm [.ref b, v1, v2, v3, v4, v5, v6] w post mc ms) (hC : x_call R cells slots rm mc ms ws ws2 y bytes maxL rt 6) (hc : cl[ci]? = some (C, T, N)) (hb : w b = some (.inr (ci, fs))) (hcat : (st.map fun v => v.category).sum ≤ 8) (k : ∀ v w1, post v w1 → X p l e R s m args below meth c Q D dA cl B nL (cells + mc) (slots + ms) (pc + 3) lv (v :: st) w1) : X p l e R s m args below meth c Q D dA cl B nL cells slots pc lv (v6 :: v5 :: v4 :: v3 :: v2 :: v1 :: .ref b :: st) w :=
  x_callV (av := [v1, v2, v3, v4, v5, v6]) (rest := st) F hd hG hy hM hC hc hb rfl rfl hcat (fun r w1 ⟨v, hv, hp⟩ => by subst hv; exact k v w1 hp)
theorem x_cSi6 (F : x_Fix p s m args meth c cc nL own Ts ret nm D dA cl tyL B) {index : Nat} {maxL mc ms : Nat} {y : MethodName} {bytes : ByteArray} {ws ws2 : List Cond} {rm : Room} {rt : Option FieldType} {v1 v2 v3 v4 v5 v6 : Value} {post : Value → xW → Prop} (hd : decode cc pc = .ok (.invokestatic index, 3)) (hG : GoodIn Ts (va_wsS own index y ws)) (hM : x_Ci l D dA cl tyL B y ws rm [v1, v2, v3, v4, v5, v6] w post mc ms) (hC : x_call R cells slots rm mc ms ws ws2 y bytes maxL rt 6) (hcat : (st.map fun v => v.category).sum ≤ 8) (k : ∀ v w1, post v w1 → X p l e R s m args below meth c Q D dA cl B nL (cells + mc) (slots + ms) (pc + 3) lv (v :: st) w1) : X p l e R s m args below meth c Q D dA cl B nL cells slots pc lv (v6 :: v5 :: v4 :: v3 :: v2 :: v1 :: st) w :=
  x_callS (av := [v1, v2, v3, v4, v5, v6]) (rest := st) F hd hG hM hC rfl rfl hcat (fun r w1 ⟨v, hv, hp⟩ => by subst hv; exact k v w1 hp)
theorem x_cVv6 (F : x_Fix p s m args meth c cc nL own Ts ret nm D dA cl tyL B) {C : String} {T : u_T} {N ci index b : Nat} {maxL mc ms : Nat} {y : MethodName} {bytes : ByteArray} {ws ws2 : List Cond} {rm : Room} {rt : Option FieldType} {fs : List Value} {v1 v2 v3 v4 v5 v6 : Value} {post : xW → Prop} (hd : decode cc pc = .ok (.invokevirtual index, 3)) (hG : GoodIn Ts (wsV own index C y ws)) (hy : y.cls = C) (hM : x_Cv l D dA cl tyL B y ws rm [.ref b, v1, v2, v3, v4, v5, v6] w post mc ms) (hC : x_call R cells slots rm mc ms ws ws2 y bytes maxL rt 6) (hc : cl[ci]? = some (C, T, N)) (hb : w b = some (.inr (ci, fs))) (hcat : (st.map fun v => v.category).sum ≤ 8) (k : ∀ w1, post w1 → X p l e R s m args below meth c Q D dA cl B nL (cells + mc) (slots + ms) (pc + 3) lv st w1) : X p l e R s m args below meth c Q D dA cl B nL cells slots pc lv (v6 :: v5 :: v4 :: v3 :: v2 :: v1 :: .ref b :: st) w :=
  x_callV (av := [v1, v2, v3, v4, v5, v6]) (rest := st) F hd hG hy hM hC hc hb rfl rfl hcat (fun r w1 ⟨hv, hp⟩ => by subst hv; exact k w1 hp)
theorem x_cSv6 (F : x_Fix p s m args meth c cc nL own Ts ret nm D dA cl tyL B) {index : Nat} {maxL mc ms : Nat} {y : MethodName} {bytes : ByteArray} {ws ws2 : List Cond} {rm : Room} {rt : Option FieldType} {v1 v2 v3 v4 v5 v6 : Value} {post : xW → Prop} (hd : decode cc pc = .ok (.invokestatic index, 3)) (hG : GoodIn Ts (va_wsS own index y ws)) (hM : x_Cv l D dA cl tyL B y ws rm [v1, v2, v3, v4, v5, v6] w post mc ms) (hC : x_call R cells slots rm mc ms ws ws2 y bytes maxL rt 6) (hcat : (st.map fun v => v.category).sum ≤ 8) (k : ∀ w1, post w1 → X p l e R s m args below meth c Q D dA cl B nL (cells + mc) (slots + ms) (pc + 3) lv st w1) : X p l e R s m args below meth c Q D dA cl B nL cells slots pc lv (v6 :: v5 :: v4 :: v3 :: v2 :: v1 :: st) w :=
  x_callS (av := [v1, v2, v3, v4, v5, v6]) (rest := st) F hd hG hM hC rfl rfl hcat (fun r w1 ⟨hv, hp⟩ => by subst hv; exact k w1 hp)
theorem x_cI6 (F : x_Fix p s m args meth c cc nL own Ts ret nm D dA cl tyL B) {index b : Nat} {maxL mc ms : Nat} {y : MethodName} {bytes : ByteArray} {ws ws2 : List Cond} {rm : Room} {v1 v2 v3 v4 v5 v6 : Value} {post : xW → Prop} (hd : decode cc pc = .ok (.invokespecial index, 3)) (hG : GoodIn Ts ws) (hini : Cond.initialized y.cls ∈ Ts) (hlk : Cond.methodLink own index y ∈ Ts) (hin : Cond.instanceMethod y ∈ Ts) (hy : y.name = "<init>") (hM : x_Cv l D dA cl tyL B y ws rm [.ref b, v1, v2, v3, v4, v5, v6] w post mc ms) (hC : x_call R cells slots rm mc ms ws ws2 y bytes maxL none 6) (hcat : (st.map fun v => v.category).sum ≤ 8) (k : ∀ w1, post w1 → X p l e R s m args below meth c Q D dA cl B nL (cells + mc) (slots + ms) (pc + 3) lv st w1) : X p l e R s m args below meth c Q D dA cl B nL cells slots pc lv (v6 :: v5 :: v4 :: v3 :: v2 :: v1 :: .ref b :: st) w :=
  x_callI (av := [v1, v2, v3, v4, v5, v6]) (rest := st) F hd hG hini hlk hin hy hM hC rfl rfl hcat (fun r w1 ⟨hv, hp⟩ => by subst hv; exact k w1 hp)
theorem x_cIN0 (F : x_Fix p s m args meth c cc nL own Ts ret nm D dA cl tyL B) {host : String} {index b : Nat} {maxL mc ms : Nat} {y : MethodName} {bytes : ByteArray} {ws ws2 : List Cond} {rm : Room} {post : xW → Prop} (hd : decode cc pc = .ok (.invokespecial index, 3)) (hG : GoodIn Ts ws) (hini : Cond.initialized y.cls ∈ Ts) (hlk : va_Nw (.methodLinkNest own index y host) s) (hin : Cond.instanceMethod y ∈ Ts) (hy : y.name = "<init>") (hM : x_Cv l D dA cl tyL B y ws rm [.ref b] w post mc ms) (hC : x_call R cells slots rm mc ms ws ws2 y bytes maxL none 0) (hcat : (st.map fun v => v.category).sum ≤ 8) (k : ∀ w1, post w1 → X p l e R s m args below meth c Q D dA cl B nL (cells + mc) (slots + ms) (pc + 3) lv st w1) : X p l e R s m args below meth c Q D dA cl B nL cells slots pc lv (.ref b :: st) w :=
  x_callIN (av := []) (rest := st) F hd hG hini hlk hin hy hM hC rfl rfl hcat (fun r w1 ⟨hv, hp⟩ => by subst hv; exact k w1 hp)
theorem x_ialdN (F : x_Fix p s m args meth c cc nL own Ts ret nm D dA cl tyL B) {t a n j : Nat} {f : Nat → Int32} (hd : decode cc pc = .ok (.iaload, 1)) (ht : tyL[t]? = some .int) (hw : w a = some (.inl (t, n, .inl f))) (hj : j < n) (hn : n < 2 ^ 31) (kk : X p l e R s m args below meth c Q D dA cl B nL cells slots (pc + 1) lv (.int (f j) :: st) w) : X p l e R s m args below meth c Q D dA cl B nL cells slots pc lv (.int (nI j) :: .ref a :: st) w :=
  x_iald F hd ht hw (vp_in_nI hj hn) (by rw [nI_clamp (Nat.lt_trans hj hn)]; exact kk)
theorem x_iastN (F : x_Fix p s m args meth c cc nL own Ts ret nm D dA cl tyL B) {t a n j : Nat} {f : Nat → Int32} {v : Int32} (hd : decode cc pc = .ok (.iastore, 1)) (ht : tyL[t]? = some .int) (hw : w a = some (.inl (t, n, .inl f))) (hj : j < n) (hn : n < 2 ^ 31) (kk : X p l e R s m args below meth c Q D dA cl B nL cells slots (pc + 1) lv st (x_set w a (.inl (t, n, .inl (upd f j v))))) : X p l e R s m args below meth c Q D dA cl B nL cells slots pc lv (.int v :: .int (nI j) :: .ref a :: st) w :=
  x_iast F hd ht hw (vp_in_nI hj hn) (by rw [nI_clamp (Nat.lt_trans hj hn)]; exact kk)
theorem x_aaldN (F : x_Fix p s m args meth c cc nL own Ts ret nm D dA cl tyL B) {t a n j : Nat} {C : String} {f : Nat → Option Nat} (hd : decode cc pc = .ok (.aaload, 1)) (ht : tyL[t]? = some (.object C)) (hw : w a = some (.inl (t, n, .inr (.inr (.inr (.inr f)))))) (hj : j < n) (hn : n < 2 ^ 31) (kk : X p l e R s m args below meth c Q D dA cl B nL cells slots (pc + 1) lv (va_rf (f j) :: st) w) : X p l e R s m args below meth c Q D dA cl B nL cells slots pc lv (.int (nI j) :: .ref a :: st) w :=
  x_aald F hd ht hw (vp_in_nI hj hn) (by rw [nI_clamp (Nat.lt_trans hj hn)]; exact kk)
theorem x_aastN (F : x_Fix p s m args meth c cc nL own Ts ret nm D dA cl tyL B) {t a n j v ci N : Nat} {C : String} {T : u_T} {vs : List Value} {f : Nat → Option Nat} (hd : decode cc pc = .ok (.aastore, 1)) (ht : tyL[t]? = some (.object C)) (hc : cl[ci]? = some (C, T, N)) (hw : w a = some (.inl (t, n, .inr (.inr (.inr (.inr f)))))) (hv : w v = some (.inr (ci, vs))) (hj : j < n) (hn : n < 2 ^ 31) (kk : X p l e R s m args below meth c Q D dA cl B nL cells slots (pc + 1) lv st (x_set w a (.inl (t, n, .inr (.inr (.inr (.inr (va_up f j (some v))))))))) : X p l e R s m args below meth c Q D dA cl B nL cells slots pc lv (.ref v :: .int (nI j) :: .ref a :: st) w :=
  x_aast F hd ht hc hw hv (vp_in_nI hj hn) (by rw [nI_clamp (Nat.lt_trans hj hn)]; exact kk)
theorem x_in {i m2 : Int32} {n : Nat} (hm : m2.toInt = n) (h1 : ¬ i < 0) (h2 : ¬ m2 ≤ i) : vp_in i n := by
  rw [vp_in_iff]
  rw [Int32.lt_iff_toInt_lt] at h1
  rw [Int32.le_iff_toInt_le, hm] at h2
  have h0 : (0 : Int32).toInt = 0 := by decide
  rw [h0] at h1
  omega
theorem x_iincN (F : x_Fix p s m args meth c cc nL own Ts ret nm D dA cl tyL B) {i j : Nat} {n : Int} (hd : decode cc pc = .ok (.iinc i n, 3)) (hv : Int32.ofInt n = 1) (hl : x_ld lv i = some (.int (nI j))) (hn : i < nL) (kk : X p l e R s m args below meth c Q D dA cl B nL cells slots (pc + 3) (x_st1 ((i, .int (nI j)) :: lv) i (.int (nI (j + 1)))) st w) : X p l e R s m args below meth c Q D dA cl B nL cells slots pc lv st w :=
  x_iinc F hd hv hl hn (by rw [nI_1]; exact kk)
theorem x_lconst (F : x_Fix p s m args meth c cc nL own Ts ret nm D dA cl tyL B) {n : Fin 2} {v : Int64} (hd : decode cc pc = .ok (.lconst n, 1)) (hv : Int64.ofNat (n : Nat) = v) (k : X p l e R s m args below meth c Q D dA cl B nL cells slots (pc + 1) lv (.long v :: st) w) : X p l e R s m args below meth c Q D dA cl B nL cells slots pc lv st w :=
  fun H locs ls h1 h2 h3 => lv_lconst F.1 F.2.1 hd hv (k H locs ls h1 h2 h3)
theorem x_dconst1 (F : x_Fix p s m args meth c cc nL own Ts ret nm D dA cl tyL B)  (hd : decode cc pc = .ok (.dconst 1, 1)) (k : X p l e R s m args below meth c Q D dA cl B nL cells slots (pc + 1) lv (.double FP.dconst1 :: st) w) : X p l e R s m args below meth c Q D dA cl B nL cells slots pc lv st w :=
  fun H locs ls h1 h2 h3 => lv_dconst1 F.1 F.2.1 hd (k H locs ls h1 h2 h3)
theorem x_dload (F : x_Fix p s m args meth c cc nL own Ts ret nm D dA cl tyL B) {i : Nat} {x : UInt64} (hd : decode cc pc = .ok (.dload i, 2)) (hl : x_ld lv i = some (.double x)) (k : X p l e R s m args below meth c Q D dA cl B nL cells slots (pc + 2) lv (.double x :: st) w) : X p l e R s m args below meth c Q D dA cl B nL cells slots pc lv st w :=
  fun H locs ls h1 h2 h3 => lv_dload F.1 F.2.1 hd (x_ld_has h3 hl) (k H locs ls h1 h2 h3)
theorem x_dcmp (F : x_Fix p s m args meth c cc nL own Ts ret nm D dA cl tyL B) {x y : UInt64} {op : CmpOp} (hd : decode cc pc = .ok (.dcmp op, 1)) (k : X p l e R s m args below meth c Q D dA cl B nL cells slots (pc + 1) lv (.int (Op.cmpValue (FP.dcmp x y) op) :: st) w) : X p l e R s m args below meth c Q D dA cl B nL cells slots pc lv (.double y :: .double x :: st) w :=
  fun H locs ls h1 h2 h3 => lv_dcmp F.1 F.2.1 hd (k H locs ls h1 h2 h3)
theorem x_dstore (F : x_Fix p s m args meth c cc nL own Ts ret nm D dA cl tyL B) {i : Nat} {x : UInt64} (hd : decode cc pc = .ok (.dstore i, 2)) (hn : i + 1 < nL) (kk : X p l e R s m args below meth c Q D dA cl B nL cells slots (pc + 2) (x_st2 lv i (.double x)) st w) : X p l e R s m args below meth c Q D dA cl B nL cells slots pc lv (.double x :: st) w :=
  fun H locs ls h1 h2 h3 => lv_dstore F.1 F.2.1 hd h3 hn rfl (fun ls' h4 => kk H locs ls' h1 h2 h4)
theorem x_dret (F : x_Fix p s m args meth c cc nL own Ts ret nm D dA cl tyL B) {post : Option Value → xW → Prop} {mc ms : Nat} {v : UInt64} (hr : ret = some .double) (hd : decode cc pc = .ok (.dreturn, 1)) (h1 : cells ≤ mc) (h2 : slots ≤ ms) (hq : post (some (.double v)) w) : X p l e R s m args below meth c (MQ below (x_Q D dA cl tyL B post) args s mc ms (fun q => B ≤ q)) D dA cl B nL cells slots pc lv [.double v] w :=
  fun H locs ls g1 g2 g3 => W.widen h1 h2 (W.dret F.1 F.2.1 (F.2.2.2.2.2.2.2.1.trans hr) (fun t ht hW => ⟨⟨_, w, rfl, hq, by rw [ht]; exact g1, va_K.moved hW.alike F.2.2.2.2.2.1⟩, g2.F ht⟩) g2.2.2 hd F.2.2.2.2.2.2.2.2.1)
/-- a reference to an array is given back -/
theorem x_aretA (F : x_Fix p s m args meth c cc nL own Ts ret nm D dA cl tyL B) {post : Option Value → xW → Prop} {mc ms : Nat} {a : Nat} {ty : FieldType} (hr : ret = some (.array ty)) (hd : decode cc pc = .ok (.areturn, 1)) (h1 : cells ≤ mc) (h2 : slots ≤ ms) (hq : post (some (.ref a)) w) : X p l e R s m args below meth c (MQ below (x_Q D dA cl tyL B post) args s mc ms (fun q => B ≤ q)) D dA cl B nL cells slots pc lv [.ref a] w :=
  fun H locs ls g1 g2 g3 => W.widen h1 h2 (W.aret F.1 F.2.1 (F.2.2.2.2.2.2.2.1.trans hr) (Or.inr ⟨ty, rfl⟩) (Or.inr ⟨a, rfl⟩) (fun t ht hW => ⟨⟨_, w, rfl, hq, by rw [ht]; exact g1, va_K.moved hW.alike F.2.2.2.2.2.1⟩, g2.F ht⟩) g2.2.2 hd F.2.2.2.2.2.2.2.2.1)
theorem x_lald (F : x_Fix p s m args meth c cc nL own Ts ret nm D dA cl tyL B) {t a n : Nat} {f : Nat → Int64} {i : Int32} (hd : decode cc pc = .ok (.laload, 1)) (ht : tyL[t]? = some .long) (hw : w a = some (.inl (t, n, .inr (.inl f)))) (hin : vp_in i n) (kk : X p l e R s m args below meth c Q D dA cl B nL cells slots (pc + 1) lv (.long (f i.toNatClampNeg) :: st) w) : X p l e R s m args below meth c Q D dA cl B nL cells slots pc lv (.int i :: .ref a :: st) w := by
  intro H locs ls h1 h2 h3
  obtain ⟨j, hj⟩ := h1.at hw
  exact va_lald F.1 F.2.1 F.2.2.2.2.2.1 h1.toL j t hj (x_tys_at ht) hin hd (kk H locs ls h1 h2 h3)
theorem x_last (F : x_Fix p s m args meth c cc nL own Ts ret nm D dA cl tyL B) {t a n : Nat} {f : Nat → Int64} {i : Int32} {v : Int64} (hd : decode cc pc = .ok (.lastore, 1)) (ht : tyL[t]? = some .long) (hw : w a = some (.inl (t, n, .inr (.inl f)))) (hin : vp_in i n) (kk : X p l e R s m args below meth c Q D dA cl B nL cells slots (pc + 1) lv st (x_set w a (.inl (t, n, .inr (.inl (vp_updL f i.toNatClampNeg v)))))) : X p l e R s m args below meth c Q D dA cl B nL cells slots pc lv (.long v :: .int i :: .ref a :: st) w := by
  intro H locs ls h1 h2 h3
  obtain ⟨j, hj⟩ := h1.at hw
  exact va_last F.1 F.2.1 F.2.2.2.2.2.1 h1.toL h1.toD h2 j t hj (x_tys_at ht) hin hd (fun H1 locs1 g1 _ g3 => kk H1 locs1 ls (h1.ofSet (x := .inl (t, n, .inr (.inl (vp_updL f i.toNatClampNeg v)))) hw hj g1) g3 h3)
/-- a new long array -/
theorem x_newaL (F : x_Fix p s m args meth c cc nL own Ts ret nm D dA cl tyL B) {t N : Nat} {n : Int32} (hd : decode cc pc = .ok (.newarray .long, 2)) (ht : tyL[t]? = some .long) (harr : Cond.arrayClass .long ∈ Ts) (hn : ¬ n < 0) (hN : n.toNatClampNeg = N) (hbytes : N * componentBytes .long ≤ 536870912) (hcells : cells + 1 ≤ R.cells) (hslots : slots + N ≤ R.slots) (kk : ∀ a, w a = none → X p l e R s m args below meth c Q D dA cl B nL (cells + 1) (slots + N) (pc + 2) lv (.ref a :: st) (x_set w a (.inl (t, N, .inr (.inl (fun _ => 0)))))) : X p l e R s m args below meth c Q D dA cl B nL cells slots pc lv (.int n :: st) w := by
  intro H locs ls h1 h2 h3
  refine va_newa (atype := .long) (ty := .long) (a0 := (N, .inr (.inl (fun _ => 0)))) F.1 F.2.1 (F.2.2.2.2.1 _ harr) rfl F.2.2.2.2.2.1 h1.toL h1.toD h2 (fun q hq => Nat.le_trans F.2.2.2.2.2.2.1 hq) (fun cA => by rw [vp_cell_l]; rfl) hn hN hbytes hcells hslots hd (fun q cA H1 gK g1 g2 g3 => ?_)
  have hq : B ≤ q := g2.2 (x_L dA w H.size).length (q, .inl (cA, N, .inr (.inl (fun _ => 0)))) (by simp)
  have e1 : s.vm.findClass ("[" ++ FieldType.long.toString) = some cA := (gK.2 (x_tys dA tyL).length (cA, .long) (by simp)).2
  have e2 : s.vm.findClass ("[" ++ FieldType.long.toString) = some (dA t) := (F.2.2.2.2.2.1.2 t (dA t, .long) (x_tys_at ht)).2
  have hcA : cA = dA t := Option.some.inj (e1.symm.trans e2)
  subst hcA
  obtain ⟨f1, f2⟩ := h1.ofPush (x := .inl (t, N, .inr (.inl (fun _ => 0)))) hq g1 g2
  exact kk q f1 H1 locs ls f2 g3 h3
/-- the lists' first array, by its static field -/
theorem x_getsE (F : x_Fix p s m args meth c cc nL own Ts ret nm D dA cl tyL B) {index : Nat} (hd : decode cc pc = .ok (.getstatic index, 3)) (hlink : Cond.fieldLink own index "java/util/ArrayList" "DEFAULTCAPACITY_EMPTY_ELEMENTDATA" "[Ljava/lang/Object;" ∈ Ts) (kk : X p l e R s m args below meth c Q D dA cl B nL cells slots (pc + 3) lv (.ref (dA 99) :: st) w) : X p l e R s m args below meth c Q D dA cl B nL cells slots pc lv st w :=
  fun H locs ls h1 h2 h3 => va_gets F.1 F.2.1 F.hs.1 h2 F.2.2.2.1 (F.2.2.2.2.1 _ hlink) (fun _ h => h) hd (kk H locs ls h1 h2 h3)
theorem x_alenE (F : x_Fix p s m args meth c cc nL own Ts ret nm D dA cl tyL B) (hd : decode cc pc = .ok (.arraylength, 1)) (kk : X p l e R s m args below meth c Q D dA cl B nL cells slots (pc + 1) lv (.int 0 :: st) w) : X p l e R s m args below meth c Q D dA cl B nL cells slots pc lv (.ref (dA 99) :: st) w :=
  fun H locs ls h1 h2 h3 => va_tlen F.1 F.2.1 F.hs.2.1 h2 rfl hd (kk H locs ls h1 h2 h3)
/-- getfield, by the name of a class that inherits it -/
theorem x_getS (F : x_Fix p s m args meth c cc nL own Ts ret nm D dA cl tyL B) {ref C : String} {T : u_T} {N ci index a k : Nat} {fs : List Value} {v : Value} (hd : decode cc pc = .ok (.getfield index, 3)) (hc : cl[ci]? = some (C, T, N)) (hin : ∀ q ∈ u_ws C T N, q ∈ Ts) (hk : k < N) (hlink : Cond.fieldLink own index ref (T k).2.1 (T k).2.2.1 ∈ Ts) (hsf : Cond.sameField ref (T k).1 (T k).2.1 (T k).2.2.1 ∈ Ts) (hw : w a = some (.inr (ci, fs))) (hv : fs[k]? = some v) (kk : X p l e R s m args below meth c Q D dA cl B nL cells slots (pc + 3) lv (v :: st) w) : X p l e R s m args below meth c Q D dA cl B nL cells slots pc lv (.ref a :: st) w := by
  intro H locs ls h1 h2 h3
  obtain ⟨i, hi⟩ := h1.at hw
  exact va_get F.1 F.2.1 F.2.2.2.2.1 hin F.2.2.2.1 F.2.2.2.2.2.1 h1.toL i hi hc k hk (F.2.2.2.2.1 _ hlink) (u_same (F.2.2.2.2.1 _ hsf)) hv hd (kk H locs ls h1 h2 h3)
theorem x_putS (F : x_Fix p s m args meth c cc nL own Ts ret nm D dA cl tyL B) {ref C : String} {T : u_T} {N ci index a k : Nat} {fs : List Value} {v : Value} (hd : decode cc pc = .ok (.putfield index, 3)) (hc : cl[ci]? = some (C, T, N)) (hin : ∀ q ∈ u_ws C T N, q ∈ Ts) (ty0 : Nat → FieldType) (hty : ∀ k, k < N → parseFieldDescriptor (T k).2.2.1 = some (ty0 k)) (hnm : ∀ a, a < N → ∀ b, b < N → a ≠ b → (T a).2.1 ≠ (T b).2.1) (hk : k < N) (hlink : Cond.fieldLink own index ref (T k).2.1 (T k).2.2.1 ∈ Ts) (hsf : Cond.sameField ref (T k).1 (T k).2.1 (T k).2.2.1 ∈ Ts) (hfin : (T k).2.2.2 = false) (hw : w a = some (.inr (ci, fs))) (hl : k < fs.length) (hn : narrow (ty0 k) v = v) (hfit : fits (ty0 k) v = true) (kk : X p l e R s m args below meth c Q D dA cl B nL cells slots (pc + 3) lv st (x_set w a (.inr (ci, fs.set k v)))) : X p l e R s m args below meth c Q D dA cl B nL cells slots pc lv (v :: .ref a :: st) w := by
  intro H locs ls h1 h2 h3
  obtain ⟨i, hi⟩ := h1.at hw
  exact va_put F.1 F.2.1 F.2.2.2.2.1 hin ty0 hty hnm F.2.2.2.1 F.2.2.2.2.2.1 h1.toL h1.toD h2 i hi hc k hk (F.2.2.2.2.1 _ hlink) (u_same (F.2.2.2.2.1 _ hsf)) hfin (hty k hk) hn hfit hl hd (fun H1 locs1 g1 _ g3 => kk H1 locs1 ls (h1.ofSet hw hi g1) g3 h3)
/-- getfield of a nest mate's own -/
theorem x_getN (F : x_Fix p s m args meth c cc nL own Ts ret nm D dA cl tyL B) {ref C host : String} {T : u_T} {N ci index a k : Nat} {fs : List Value} {v : Value} (hd : decode cc pc = .ok (.getfield index, 3)) (hc : cl[ci]? = some (C, T, N)) (hin : ∀ q ∈ u_ws C T N, q ∈ Ts) (hk : k < N) (hlink : va_Nw (Cond.fieldLinkNest own index ref (T k).2.1 (T k).2.2.1 host) s) (href : (T k).1 = ref) (hw : w a = some (.inr (ci, fs))) (hv : fs[k]? = some v) (kk : X p l e R s m args below meth c Q D dA cl B nL cells slots (pc + 3) lv (v :: st) w) : X p l e R s m args below meth c Q D dA cl B nL cells slots pc lv (.ref a :: st) w := by
  subst href
  intro H locs ls h1 h2 h3
  obtain ⟨i, hi⟩ := h1.at hw
  exact va_getN F.1 F.2.1 F.2.2.2.2.1 hin F.2.2.2.1 F.2.2.2.2.2.1 h1.toL i hi hc k hk (va_Nw.use rfl hlink) (fun _ h => h) hv hd (kk H locs ls h1 h2 h3)
/-- an object of a known class into an array of a wider one -/
theorem x_aastO (F : x_Fix p s m args meth c cc nL own Ts ret nm D dA cl tyL B) {t a n v ci : Nat} {E : String} {r : vw_C} {vs : List Value} {f : Nat → Option Nat} {i : Int32} (hd : decode cc pc = .ok (.aastore, 1)) (ht : tyL[t]? = some (.object E)) (hc : cl[ci]? = some r) (hca : va_Nw (.castable r.1 E) s) (hw : w a = some (.inl (t, n, .inr (.inr (.inr (.inr f)))))) (hv : w v = some (.inr (ci, vs))) (hin : vp_in i n) (kk : X p l e R s m args below meth c Q D dA cl B nL cells slots (pc + 1) lv st (x_set w a (.inl (t, n, .inr (.inr (.inr (.inr (va_up f i.toNatClampNeg (some v))))))))) : X p l e R s m args below meth c Q D dA cl B nL cells slots pc lv (.ref v :: .int i :: .ref a :: st) w := by
  intro H locs ls h1 h2 h3
  obtain ⟨j, hj⟩ := h1.at hw
  obtain ⟨j2, hj2⟩ := h1.at hv
  exact va_astqO (r := r) F.1 F.2.1 F.2.2.2.2.2.1 h1.toL h1.toD h2 j t j2 ci hj (x_tys_at ht) hca hj2 hc hin hd (fun H1 locs1 g1 _ g3 => kk H1 locs1 ls (h1.ofSet (x := .inl (t, n, .inr (.inr (.inr (.inr (va_up f i.toNatClampNeg (some v))))))) hw hj g1) g3 h3)
theorem x_goes5 {R : Room} {post : Option Value → xW → Prop} {a : Array Value} {ls : Array Slot} {H : Heap} {locs : List Loc} {rest st0 : List Value} {mc ms : Nat} (hS : va_S (fun q => B ≤ q) s.heap H locs) (hl : lv_has ls nL lv) (hr : va_Run5 p l e R s m args below meth c H locs cells slots mc ms (F0 m pc ls st0) rest (x_Q D dA cl tyL B post a) (fun q => B ≤ q)) (k : ∀ r w1, post r w1 → X p l e R s m args below meth c Q D dA cl B nL (cells + mc) (slots + ms) (pc + 5) lv (r.toList ++ rest) w1) : W p l e R s m args below meth c H locs cells slots Q (F0 m pc ls st0) := by
  intro T hT X0
  obtain ⟨v, st₀, t, T', L, h0, X', hL, e1, e2, ⟨⟨r, w1, hv, hp, hw, -⟩, hz, hk⟩, sg⟩ := hr T hT X0
  cases hv
  rw [h0] at hz hk
  have hw' : x_P D dA cl B w1 T'.heap := by rw [e1]; exact hw
  obtain ⟨t2, a1, b1⟩ := k v w1 hp T'.heap (locs ++ L) ls hw' ⟨Nat.le_trans hS.1 (by rw [e1]; exact hz), fun q h1 h2 => by rw [e1, hk q (Nat.lt_of_lt_of_le h1 hS.1) h2]; exact hS.2.1 q h1 h2, fun q hq => by
      rcases List.mem_append.mp hq with h | h
      · exact hS.2.2 q h
      · exact hL q h⟩ hl T' rfl X'
  exact ⟨t2, sg t2 a1, b1⟩
/-- a call through an interface -/
theorem x_callF (F : x_Fix p s m args meth c cc nL own Ts ret nm D dA cl tyL B) {C : String} {T : u_T} {N ci index count maxL mc ms b : Nat} {x y : MethodName} {bytes : ByteArray} {rt : Option FieldType} {ws ws2 : List Cond} {rm : Room} {fs : List Value} {post : Value → xW → Prop} (hd : decode cc pc = .ok (.invokeinterface index count, 5)) (hG : GoodIn Ts (va_wsF own index C x y ws)) (hFw : va_Fw C x y s) (hM : x_Ci l D dA cl tyL B y ws rm [.ref b] w post mc ms) (hw0 : ws = Cond.code y bytes maxL rt :: ws2) (hrc : rm.cells = mc) (hrs : rm.slots = ms) (hx : x.cls ≠ "java/lang/invoke/MethodHandle" ∧ x.cls ≠ "java/lang/invoke/VarHandle" ∧ (parseMethodDescriptor x.desc).map (fun d => d.parameters.length) = some 0) (hR : rm.frames + 1 ≤ R.frames ∧ 8 + (maxL + 11) + rm.locals ≤ R.locals) (c6 : cells + mc ≤ R.cells ∧ slots + ms ≤ R.slots) (hc : cl[ci]? = some (C, T, N)) (hb : w b = some (.inr (ci, fs))) (hcat : (st.map fun v => v.category).sum ≤ 8) (k : ∀ v w1, post v w1 → X p l e R s m args below meth c Q D dA cl B nL (cells + mc) (slots + ms) (pc + 5) lv (v :: st) w1) : X p l e R s m args below meth c Q D dA cl B nL cells slots pc lv (.ref b :: st) w := by
  intro H locs ls h1 h2 h3
  obtain ⟨i, hi⟩ := h1.at hb
  exact x_goes5 h2 h3 (va_runF (As := []) (rest := st) ((F.2.2.2.2.2.1.1 ci _ hc).2) ⟨F.1, F.2.1, F.2.2.1, F.2.2.2.1, F.2.2.2.2.1⟩ hM (va_cwF 0 F.2.2.2.2.1 hG hw0 hrc hrs hFw hx hR) ⟨x_blind, va_recv F.2.2.2.2.2.1 h1.toL hc hi, fun U hU hW => ⟨rfl, by rw [hU]; exact Nat.le_trans F.2.2.2.2.2.2.1 h2.1, by rw [hU]; exact h1, va_K.moved hW.alike F.2.2.2.2.2.1, x_ev.call hW hU h2 F.2.2.2.2.2.2.2.2.2.2⟩⟩ rfl rfl h3.1 rfl (lv_room hcat) hd c6) (fun r w1 ⟨v, hv, hp⟩ => by subst hv; exact k v w1 hp)
/-- a static call of a method with handlers -/
theorem x_callSW (F : x_Fix p s m args meth c cc nL own Ts ret nm D dA cl tyL B) {index maxL n mc ms : Nat} {y : MethodName} {bytes : ByteArray} {rt : Option FieldType} {hh : List (Nat × Nat × Nat × Nat)} {ws ws2 : List Cond} {rm : Room} {av rest : List Value} {post : Value → xW → Prop} (hd : decode cc pc = .ok (.invokestatic index, 3)) (hG : GoodIn Ts (va_wsS own index y ws)) (hM : x_Ci l D dA cl tyL B y ws rm av w post mc ms) (hw0 : ws = Cond.codeWith y bytes maxL rt hh :: ws2) (hrc : rm.cells = mc) (hrs : rm.slots = ms) (hy : y.cls ≠ "java/lang/invoke/MethodHandle" ∧ y.cls ≠ "java/lang/invoke/VarHandle" ∧ (parseMethodDescriptor y.desc).map (fun d => d.parameters.length) = some n) (hR : rm.frames + 1 ≤ R.frames ∧ 8 + (maxL + 11) + rm.locals ≤ R.locals) (c6 : cells + mc ≤ R.cells ∧ slots + ms ≤ R.slots) (hn : av.length = n) (hst : st = av.reverse ++ rest) (hcat : (rest.map fun v => v.category).sum ≤ 8) (k : ∀ v w1, post v w1 → X p l e R s m args below meth c Q D dA cl B nL (cells + mc) (slots + ms) (pc + 3) lv (v :: rest) w1) : X p l e R s m args below meth c Q D dA cl B nL cells slots pc lv st w := by
  intro H locs ls h1 h2 h3
  exact x_goes h2 h3 (vx_runSW (As := av) (rest := rest) ⟨F.1, F.2.1, F.2.2.1, F.2.2.2.1, F.2.2.2.2.1⟩ hM (vx_cwSW n F.2.2.2.2.1 hG hw0 hrc hrs hy hR) ⟨x_blind, fun U hU hW => ⟨rfl, by rw [hU]; exact Nat.le_trans F.2.2.2.2.2.2.1 h2.1, by rw [hU]; exact h1, va_K.moved hW.alike F.2.2.2.2.2.1, x_ev.call hW hU h2 F.2.2.2.2.2.2.2.2.2.2⟩⟩ rfl hn h3.1 hst (lv_room hcat) hd c6) (fun r w1 ⟨v, hv, hp⟩ => by subst hv; exact k v w1 hp)
/-- a body with handlers: its entry -/
theorem x_Ct.ofH {y : MethodName} {ws ws2 : List Cond} {rm : Room} {av : List Value} {post : Option Value → xW → Prop} {mc ms : Nat} {cc : ByteArray} {maxL : Nat} {rt : Option FieldType} {hh : List (Nat × Nat × Nat × Nat)} (hy : plainName y.cls = true) (hw : ws = Cond.codeWith y cc maxL rt hh :: ws2) (hlen : (lg_sl av).length ≤ maxL)
    (body : ∀ (p : Program) (e : Env) (s : State) (m : MethodId) (below : List Frame) (meth : Method) (c : Code), x_Fix p s m av.toArray meth c cc maxL y.cls ws2 rt y.name D dA cl tyL B → c.exceptionTable.toList = tableOf hh → X p l e rm s m av.toArray below meth c (MQ below (x_Q D dA cl tyL B post) av.toArray s mc ms (fun q => B ≤ q)) D dA cl B maxL 0 0 0 (lv_args 0 av) [] w) : x_Ct l D dA cl tyL B y ws rm av w post mc ms := by
  refine va_MetW (cc := cc) (maxL := maxL) (ret := rt) (hh := hh) hy hw ?_
  intro p e s m args below meth c s₁ B0 hml hv
  obtain ⟨rfl, hB, hP, hK, hX⟩ := hv
  have hl := lv_entry av hlen
  have htb := vx_table (x := y) B0 (atoms_spec (ws := ws) B0.pre _ (by rw [hw]; exact List.mem_cons_self))
  rw [lg_entry_eq]
  exact body p e s m below meth c ⟨B0.exec, B0.bytes, hml, findClass_of_methodNamed B0.named, (fun q hq => atoms_spec (ws := ws) B0.pre q (by rw [hw]; exact List.mem_cons_of_mem _ hq)), hK, hB, B0.returns, B0.notSynchronized, (name_of_methodNamed B0.named B0.method).1, hX⟩ htb s.heap [] _ hP va_S.rf hl
/-- where a method has thrown: the class, and the world as it was -/
def x_XC (D : va_G) (dA : Nat → ClassId) (cl : List vw_C) (tyL : List FieldType) (B : Nat) (E : String) (w : xW) : String → State → State → Prop := vx_X (fun _ : Unit => True) (fun E1 _ t => E1 = E ∧ x_P D dA cl B w t.heap) (fun q => B ≤ q)
/-- a contract: called with av over the world w, the method throws a new E, and the world is as it was -/
def x_Th (l : Launch) (D : va_G) (dA : Nat → ClassId) (cl : List vw_C) (tyL : List FieldType) (B : Nat) (y : MethodName) (ws : List Cond) (rm : Room) (av : List Value) (w : xW) (E : String) (mc ms : Nat) : Prop :=
  vx_Met l y ws rm (va_Pc av (fun U => B ≤ U.heap.size ∧ x_P D dA cl B w U.heap ∧ va_K D cl (x_tys dA tyL) U ∧ x_ev dA B U)) (va_Qi (fun (_ : Int32) (_ : Unit) => False) (fun _ _ => True) (fun q => B ≤ q)) (x_XC D dA cl tyL B E w) mc ms (fun q => B ≤ q)
theorem x_Th.of {y : MethodName} {ws ws2 : List Cond} {rm : Room} {av : List Value} {E : String} {mc ms : Nat} {cc : ByteArray} {maxL : Nat} {rt : Option FieldType} (hy : plainName y.cls = true) (hw : ws = Cond.code y cc maxL rt :: ws2) (hlen : (lg_sl av).length ≤ maxL)
    (body : ∀ (p : Program) (e : Env) (s : State) (m : MethodId) (below : List Frame) (meth : Method) (c : Code), x_Fix p s m av.toArray meth c cc maxL y.cls ws2 rt y.name D dA cl tyL B → (∀ x ∈ c.exceptionTable.toList, False) → X p l e rm s m av.toArray below meth c (vx_MQ below (va_Qi (fun (_ : Int32) (_ : Unit) => False) (fun _ _ => True) (fun q => B ≤ q)) (x_XC D dA cl tyL B E w) av.toArray s mc ms (fun q => B ≤ q)) D dA cl B maxL 0 0 0 (lv_args 0 av) [] w) : x_Th l D dA cl tyL B y ws rm av w E mc ms := by
  refine vx_ofW (cc := cc) (maxL := maxL) (ret := rt) hy hw ?_
  intro p e s m args below meth c s₁ B0 hml htb hv
  obtain ⟨rfl, hB, hP, hK, hX⟩ := hv
  have hl := lv_entry av hlen
  rw [lg_entry_eq]
  exact body p e s m below meth c ⟨B0.exec, B0.bytes, hml, findClass_of_methodNamed B0.named, (fun q hq => atoms_spec (ws := ws) B0.pre q (by rw [hw]; exact List.mem_cons_of_mem _ hq)), hK, hB, B0.returns, B0.notSynchronized, (name_of_methodNamed B0.named B0.method).1, hX⟩ htb s.heap [] _ hP va_S.rf hl
/-- throw new E(text): five instructions, and the method's end -/
theorem x_throw {cc : ByteArray} {nm : String} {ret : Option FieldType} {nL : Nat} (F : x_Fix p s m args meth c cc nL own Ts ret nm D dA cl tyL B) (hl : l.stackTraces = false) {E text : String} {names : List String} {ik is ic mc ms : Nat} {w0 : xW} {Qc : Array Value → State → Outcome → State → Prop} (hE : Bundle.fit E = true) (hnames : ∀ n ∈ names, Bundle.fit n = true)
    (hk : Cond.classLink own ik E ∈ Ts) (hini : Cond.initialized E ∈ Ts) (hstr : x_St own is text s) (hat : ∀ w ∈ vx_atS own ic E names, w.before args s = true) (hgood : ∀ w ∈ Cond.classLink own ik E :: Cond.initialized E :: vx_atS own ic E names, vx_ot w = true) (htb : ∀ x ∈ c.exceptionTable.toList, False)
    (d0 : decode cc pc = .ok (.new ik, 3)) (d3 : decode cc (pc + 3) = .ok (.dup, 1)) (d4 : decode cc (pc + 4) = .ok (.ldc is, 2)) (d6 : decode cc (pc + 6) = .ok (.invokespecial ic, 3)) (d9 : decode cc (pc + 9) = .ok (.athrow, 1))
    (hRf : names.length + 3 < R.frames) (hRl : (st.map fun v => v.category).sum + (13 * (names.length + 1) + 43) ≤ R.locals) (hRc : cells + 1 ≤ R.cells) (hRs : slots + 6 ≤ R.slots) (hc : cells + 1 ≤ mc) (hs : slots + 6 ≤ ms) (hww : ∀ a x, w0 a = some x → w a = some x) : X p l e R s m args below meth c (vx_MQ below Qc (x_XC D dA cl tyL B E w0) args s mc ms (fun q => B ≤ q)) D dA cl B nL cells slots pc lv st w := by
  obtain ⟨-, sa, hsa⟩ := hstr
  intro H locs ls h1 h2 h3
  refine vx_throwS (names := names) (A := fun q => B ≤ q) F.1 F.2.1 hl F.2.2.2.1 hE hnames (F.2.2.2.2.1 _ hk) (F.2.2.2.2.1 _ hini) hsa hat hgood F.hs.2.2.1 F.hs.2.2.2 h2 (h3.1.trans F.2.2.1.symm) d0 d3 d4 d6 d9 (fun x hx => (htb x hx).elim) hRf hRl hRc hRs F.2.2.2.2.2.2.2.2.1 ?_ h2.2.2 hc hs
  intro t hvm hsz hq
  refine ⟨(), trivial, ⟨rfl, fun a x hx => ?_⟩, ?_⟩
  · exact ⟨(h1 a x (hww a x hx)).1, (h1 a x (hww a x hx)).2.kept (hq _ (va_at.lt (h1 a x (hww a x hx)).2))⟩
  · exact ⟨Nat.le_trans h2.1 hsz, fun q g1 g2 => by rw [hq q (Nat.lt_of_lt_of_le g1 h2.1)]; exact h2.2.1 q g1 g2⟩
/-- a call of a method that throws, caught by the first row of this method's table -/
theorem x_callTV (F : x_Fix p s m args meth c cc nL own Ts ret nm D dA cl tyL B) {C E nmE : String} {T : u_T} {N ci index maxL n mc ms b : Nat} {y : MethodName} {bytes : ByteArray} {rt : Option FieldType} {ws ws2 : List Cond} {rm : Room} {av rest fs : List Value} {hh : List (Nat × Nat × Nat × Nat)} {x : ExceptionTableEntry} {suf : List ExceptionTableEntry} {hp : Nat} (hd : decode cc pc = .ok (.invokevirtual index, 3)) (hG : GoodIn Ts (wsV own index C y ws)) (hy : y.cls = C) (hM : x_Th l D dA cl tyL B y ws rm (.ref b :: av) w E mc ms) (hC : x_call R cells slots rm mc ms ws ws2 y bytes maxL rt n) (hc : cl[ci]? = some (C, T, N)) (hb : w b = some (.inr (ci, fs))) (hn : av.length = n) (hst : st = av.reverse ++ .ref b :: rest) (hcat : (rest.map fun v => v.category).sum ≤ 8)
    (htb : c.exceptionTable.toList = tableOf hh) (hsp : tableOf hh = x :: suf) (hx : covers x pc = true) (h0 : x.catchType ≠ 0) (hlk : Cond.classLink own x.catchType nmE ∈ Ts) (hca : va_Nw (.castable E nmE) s) (hpc : x.handlerPc = hp)
    (k : ∀ q, X p l e R s m args below meth c Q D dA cl B nL (cells + mc) (slots + ms) hp lv [.ref q] w) : X p l e R s m args below meth c Q D dA cl B nL cells slots pc lv st w := by
  subst hpc
  intro H locs ls h1 h2 h3
  obtain ⟨c1, c2, c3, c4, c5, c6⟩ := hC
  obtain ⟨i, hi⟩ := h1.at hb
  refine vx_calli (A0 := fun q => B ≤ q) (H0 := s.heap) (vx_runV (As := av) (rest := rest) ⟨F.1, F.2.1, F.2.2.1, F.2.2.2.1, F.2.2.2.2.1⟩ hM (cwV n F.2.2.2.2.1 hG c1 c2 c3 ⟨hy, c4⟩ c5) ⟨x_blind, va_recv F.2.2.2.2.2.1 h1.toL hc hi, fun U hU hW => ⟨rfl, by rw [hU]; exact Nat.le_trans F.2.2.2.2.2.2.1 h2.1, by rw [hU]; exact h1, va_K.moved hW.alike F.2.2.2.2.2.1, x_ev.call hW hU h2 F.2.2.2.2.2.2.2.2.2.2⟩⟩ rfl hn h3.1 hst (lv_room hcat) hd c6) h2 (fun q _ h => h) (fun q h => h) (fun q _ h => h) ?_ (fun r u t H1 locs1 _ _ hF => hF.elim)
  intro E1 ce q9 u t H1 locs1 ht _ _ hBX _ _ hS1 hce hcv hcl
  obtain ⟨rfl, hP⟩ := hBX
  rw [ht] at hP
  exact vx_catch F.2.2.2.1 [] x suf (htb.trans hsp) (fun z hz => nomatch hz) hx h0 (F.2.2.2.2.1 _ hlk) (va_Nw.use rfl hca) hce hcv hcl (k q9 H1 locs1 ls hP hS1 h3)
end XL
