/-! ===== the leaves ===== -/
section LEAF
variable {l : Launch} {D : va_G} {dA : Nat → ClassId} {B : Nat} {Z : Nat → Nat → Nat} {K : kT} {J : jT} {w : xW}
def f_answ (n o : Int32) : Bool := decide (((n >>> (o &&& 31)) &&& 1) = 1)
def f_asked (f : Nat → Int32) (o : Int32) : Int32 := if o < 0 ∨ 5 ≤ o then -1 else f o.toNatClampNeg
def f_warned (f : Nat → Int32) (n o h : Int32) : Bool := f_answ n o || (!decide (f_asked f o = -1) && !decide (h - f_asked f o < 72))
def f_brown (b h : Int32) : Bool := (!decide (2 * ((h - b) / 24) ≤ (h - b) - (h - b) / 24 * 24)) && !decide (12 ≤ (h - b) - (h - b) / 24 * 24)
def f_quota (b h : Int32) : Int32 := if 1 < 8 - (h - b) / 24 then 8 - (h - b) / 24 else 1
def f_suits (h n h2 n2 : Int32) : Bool := decide (h2 &&& (h ^^^ -1) = 0) && decide (n &&& (n2 ^^^ -1) = 0)
def f_again (h n u : Int32) : Int32 := n ||| (u &&& h)
def f_fits (u h n : Int32) : Bool := decide (n &&& (u ^^^ -1) = 0) && decide (u &&& (h ^^^ -1) = 0)
def f_makes (a d u : Int32) : Int32 := (u &&& (d ^^^ -1)) ||| a
def f_owner (o : Int32) : Bool := (!decide (o < 0)) && !decide (5 ≤ o)
def f_set (u : Int32) : Bool := (!decide (u < 0)) && !decide (255 < u)
def f_shape (h n : Int32) : Bool := f_set h && ((!decide (n < 0)) && decide (n &&& (h ^^^ -1) = 0))
def f_at (m : Int32) (g : Nat → Option Nat) (x : Int32) : Option Nat := if x < 0 ∨ m ≤ x then none else g x.toNatClampNeg
theorem f_at_neg {m : Int32} {g : Nat → Option Nat} {x : Int32} (h : x < 0) : f_at m g x = none := if_pos (Or.inl h)
theorem f_at_big {m : Int32} {g : Nat → Option Nat} {x : Int32} (h : m ≤ x) : f_at m g x = none := if_pos (Or.inr h)
theorem f_at_in {m : Int32} {g : Nat → Option Nat} {x : Int32} (h1 : ¬ x < 0) (h2 : ¬ m ≤ x) : f_at m g x = g x.toNatClampNeg := if_neg (fun h => h.elim h1 h2)
def g_face (Z : Nat → Nat → Nat) (K : kT) (j : Nat) : Option Nat := if j < nf K then some (Z 8 j) else none
def g_cli (Z : Nat → Nat → Nat) (K : kT) (j : Nat) : Option Nat := if j < nc K then some (Z 13 j) else none
def g_ver (Z : Nat → Nat → Nat) (K : kT) (f j : Nat) : Option Nat := if j < nv K f then some (Z 10 (6 * f + j)) else none
def f_called (K : kT) (k i : Nat) : Int32 := if kCV K k / 6 = i / 6 then kCL K k (i % 6) else -1
def f_served (K : kT) (k i : Nat) : Int32 := if kCV K k / 6 = i / 6 then kCS K k (i % 6) else 0
def f_caller (K : kT) (k i : Nat) (h : Int32) : Bool := (!decide (f_called K k i = -1)) && !decide (24 ≤ h - f_called K k i)
theorem vOk.lt6 {i : Nat} (_ : vOk K i) : i % 6 < 6 := by omega
set_option maxRecDepth 100000 in
set_option maxHeartbeats 4000000 in
theorem c_hasAnswered {r ka : Nat} {b en n : Int32} (hr : w r = some (oRet ka b en n)) (o : Int32) : Ci l D dA B yX3_hasAnswered wX3_hasAnswered 0 [.ref r, .int o] w (fun v w1 => v = .int (x_b (f_answ n o)) ∧ w1 = w) := by
  refine x_Ct.of (cc := cX3_hasAnswered) (maxL := 2) (by decide) rfl (Nat.le_of_ble_eq_true rfl) ?_
  intro p e s m below meth c F
  refine x_aload_n F dX3_hasAnswered_0 rfl rfl ?_
  refine x_get (ci := 3) (C := RX3) (T := TX3) (N := 4) (k := 3) F dX3_hasAnswered_1 rfl inX3 (by decide) q59 rfl hr rfl ?_
  refine x_iload_n F dX3_hasAnswered_4 rfl rfl ?_
  refine x_ishr F dX3_hasAnswered_5 ?_
  refine x_iconst (v := 1) F dX3_hasAnswered_6 (by decide) ?_
  refine x_iand F dX3_hasAnswered_7 ?_
  refine x_iconst (v := 1) F dX3_hasAnswered_8 (by decide) ?_
  refine x_icmp_ne F dX3_hasAnswered_9 rfl (fun h9 => ?_) (fun h9 => ?_)
  · refine x_iconst (v := 0) F dX3_hasAnswered_16 (by decide) ?_
    refine x_iret F rfl rfl dX3_hasAnswered_17 (Nat.le_refl _) (Nat.le_refl _) ?_
    first | exact ⟨_, rfl, congrArg Value.int (x_b_t (by simp [f_answ, *])), rfl⟩ | exact ⟨_, rfl, congrArg Value.int (x_b_f (by simp [f_answ, *])), rfl⟩
  · refine x_iconst (v := 1) F dX3_hasAnswered_12 (by decide) ?_
    refine x_goto F dX3_hasAnswered_13 rfl ?_
    refine x_iret F rfl rfl dX3_hasAnswered_17 (Nat.le_refl _) (Nat.le_refl _) ?_
    first | exact ⟨_, rfl, congrArg Value.int (x_b_t (by simp [f_answ, *])), rfl⟩ | exact ⟨_, rfl, congrArg Value.int (x_b_f (by simp [f_answ, *])), rfl⟩
set_option maxRecDepth 100000 in
set_option maxHeartbeats 4000000 in
theorem c_askedAtOf {r ka : Nat} {b en n : Int32} {f : Nat → Int32} (hr : w r = some (oRet ka b en n)) (hk : w ka = some (aI 5 f)) (o : Int32) : Ci l D dA B yX3_askedAtOf wX3_askedAtOf 0 [.ref r, .int o] w (fun v w1 => v = .int (f_asked f o) ∧ w1 = w) := by
  refine x_Ct.of (cc := cX3_askedAtOf) (maxL := 2) (by decide) rfl (Nat.le_of_ble_eq_true rfl) ?_
  intro p e s m below meth c F
  refine x_iload_n F dX3_askedAtOf_0 rfl rfl ?_
  refine x_if_lt F dX3_askedAtOf_1 rfl (fun h1 => ?_) (fun h1 => ?_)
  · refine x_iconst (v := (-1)) F dX3_askedAtOf_22 (by decide) ?_
    refine x_iret F rfl rfl dX3_askedAtOf_23 (Nat.le_refl _) (Nat.le_refl _) ?_
    exact ⟨_, rfl, congrArg Value.int (by simp [f_asked, *]), rfl⟩
  · refine x_iload_n F dX3_askedAtOf_4 rfl rfl ?_
    refine x_aload_n F dX3_askedAtOf_5 rfl rfl ?_
    refine x_get (ci := 3) (C := RX3) (T := TX3) (N := 4) (k := 0) F dX3_askedAtOf_6 rfl inX3 (by decide) q54 rfl hr rfl ?_
    refine x_alen (v := 5) F dX3_askedAtOf_9 rfl hk rfl ?_
    refine x_icmp_ge F dX3_askedAtOf_10 rfl (fun h10 => ?_) (fun h10 => ?_)
    · refine x_iconst (v := (-1)) F dX3_askedAtOf_22 (by decide) ?_
      refine x_iret F rfl rfl dX3_askedAtOf_23 (Nat.le_refl _) (Nat.le_refl _) ?_
      exact ⟨_, rfl, congrArg Value.int (by simp [f_asked, *]), rfl⟩
    · refine x_aload_n F dX3_askedAtOf_13 rfl rfl ?_
      refine x_get (ci := 3) (C := RX3) (T := TX3) (N := 4) (k := 0) F dX3_askedAtOf_14 rfl inX3 (by decide) q54 rfl hr rfl ?_
      refine x_iload_n F dX3_askedAtOf_17 rfl rfl ?_
      refine x_iald F dX3_askedAtOf_18 rfl hk (x_in (m2 := 5) (by decide) h1 h10) ?_
      refine x_goto F dX3_askedAtOf_19 rfl ?_
      refine x_iret F rfl rfl dX3_askedAtOf_23 (Nat.le_refl _) (Nat.le_refl _) ?_
      exact ⟨_, rfl, congrArg Value.int (by simp [f_asked, *]), rfl⟩
set_option maxRecDepth 100000 in
set_option maxHeartbeats 4000000 in
theorem c_isWarned {r ka : Nat} {b en n : Int32} {f : Nat → Int32} (hr : w r = some (oRet ka b en n)) (hk : w ka = some (aI 5 f)) (o h : Int32) : Ci l D dA B yX3_isWarned wX3_isWarned 1 [.ref r, .int o, .int h] w (fun v w1 => v = .int (x_b (f_warned f n o h)) ∧ w1 = w) := by
  refine x_Ct.of (cc := cX3_isWarned) (maxL := 4) (by decide) rfl (Nat.le_of_ble_eq_true rfl) ?_
  intro p e s m below meth c F
  refine x_aload_n F dX3_isWarned_0 rfl rfl ?_
  refine x_iload_n F dX3_isWarned_1 rfl rfl ?_
  refine x_cVi1 (ci := 3) (C := RX3) (T := TX3) (N := 4) F dX3_isWarned_2 (x_gV q201 q202 q203 q3 q204) rfl (c_askedAtOf hr hk o) ⟨rfl, rfl, rfl, xd_X3_askedAtOf, ⟨Nat.le_of_ble_eq_true rfl, Nat.le_of_ble_eq_true rfl⟩, Nat.le_of_ble_eq_true rfl, Nat.le_of_ble_eq_true rfl⟩ rfl hr (Nat.le_of_ble_eq_true rfl) (fun v1 w1 hp => ?_)
  obtain ⟨rfl, hw9⟩ := hp
  replace hw9 := hw9.symm
  subst hw9
  refine x_istore_n F dX3_isWarned_5 rfl (by decide) ?_
  refine x_aload_n F dX3_isWarned_6 rfl rfl ?_
  refine x_iload_n F dX3_isWarned_7 rfl rfl ?_
  refine x_cVi1 (ci := 3) (C := RX3) (T := TX3) (N := 4) F dX3_isWarned_8 (x_gV q205 q206 q207 q3 q208) rfl (c_hasAnswered hr o) ⟨rfl, rfl, rfl, xd_X3_hasAnswered, ⟨Nat.le_of_ble_eq_true rfl, Nat.le_of_ble_eq_true rfl⟩, Nat.le_of_ble_eq_true rfl, Nat.le_of_ble_eq_true rfl⟩ rfl hr (Nat.le_of_ble_eq_true rfl) (fun v1 w1 hp => ?_)
  obtain ⟨rfl, hw9⟩ := hp
  replace hw9 := hw9.symm
  subst hw9
  refine x_if_ne F dX3_isWarned_11 rfl (fun h11 => ?_) (fun h11 => ?_)
  · refine x_iconst (v := 1) F dX3_isWarned_27 (by decide) ?_
    refine x_goto F dX3_isWarned_28 rfl ?_
    refine x_iret F rfl rfl dX3_isWarned_32 (Nat.le_refl _) (Nat.le_refl _) ?_
    first | exact ⟨_, rfl, congrArg Value.int (x_b_t (by simp_all [f_warned, x_b_ne, x_b_eq])), rfl⟩ | exact ⟨_, rfl, congrArg Value.int (x_b_f (by simp_all [f_warned, x_b_ne, x_b_eq])), rfl⟩
  · refine x_iload_n F dX3_isWarned_14 rfl rfl ?_
    refine x_iconst (v := (-1)) F dX3_isWarned_15 (by decide) ?_
    refine x_icmp_eq F dX3_isWarned_16 rfl (fun h16 => ?_) (fun h16 => ?_)
    · refine x_iconst (v := 0) F dX3_isWarned_31 (by decide) ?_
      refine x_iret F rfl rfl dX3_isWarned_32 (Nat.le_refl _) (Nat.le_refl _) ?_
      first | exact ⟨_, rfl, congrArg Value.int (x_b_t (by simp_all [f_warned, x_b_ne, x_b_eq])), rfl⟩ | exact ⟨_, rfl, congrArg Value.int (x_b_f (by simp_all [f_warned, x_b_ne, x_b_eq])), rfl⟩
    · refine x_iload_n F dX3_isWarned_19 rfl rfl ?_
      refine x_iload_n F dX3_isWarned_20 rfl rfl ?_
      refine x_isub F dX3_isWarned_21 ?_
      refine x_bipush (v := 72) F dX3_isWarned_22 (by decide) ?_
      refine x_icmp_lt F dX3_isWarned_24 rfl (fun h24 => ?_) (fun h24 => ?_)
      · refine x_iconst (v := 0) F dX3_isWarned_31 (by decide) ?_
        refine x_iret F rfl rfl dX3_isWarned_32 (Nat.le_refl _) (Nat.le_refl _) ?_
        first | exact ⟨_, rfl, congrArg Value.int (x_b_t (by simp_all [f_warned, x_b_ne, x_b_eq])), rfl⟩ | exact ⟨_, rfl, congrArg Value.int (x_b_f (by simp_all [f_warned, x_b_ne, x_b_eq])), rfl⟩
      · refine x_iconst (v := 1) F dX3_isWarned_27 (by decide) ?_
        refine x_goto F dX3_isWarned_28 rfl ?_
        refine x_iret F rfl rfl dX3_isWarned_32 (Nat.le_refl _) (Nat.le_refl _) ?_
        first | exact ⟨_, rfl, congrArg Value.int (x_b_t (by simp_all [f_warned, x_b_ne, x_b_eq])), rfl⟩ | exact ⟨_, rfl, congrArg Value.int (x_b_f (by simp_all [f_warned, x_b_ne, x_b_eq])), rfl⟩
set_option maxRecDepth 100000 in
set_option maxHeartbeats 4000000 in
theorem c_isBrownedOut {r ka : Nat} {b en n : Int32} {f : Nat → Int32} (hr : w r = some (oRet ka b en n)) (hk : w ka = some (aI 5 f)) (h : Int32) : Ci l D dA B yX3_isBrownedOut wX3_isBrownedOut 0 [.ref r, .int h] w (fun v w1 => v = .int (x_b (f_brown b h)) ∧ w1 = w) := by
  refine x_Ct.of (cc := cX3_isBrownedOut) (maxL := 3) (by decide) rfl (Nat.le_of_ble_eq_true rfl) ?_
  intro p e s m below meth c F
  refine x_iload_n F dX3_isBrownedOut_0 rfl rfl ?_
  refine x_aload_n F dX3_isBrownedOut_1 rfl rfl ?_
  refine x_get (ci := 3) (C := RX3) (T := TX3) (N := 4) (k := 1) F dX3_isBrownedOut_2 rfl inX3 (by decide) q55 rfl hr rfl ?_
  refine x_isub F dX3_isBrownedOut_5 ?_
  refine x_bipush (v := 24) F dX3_isBrownedOut_6 (by decide) ?_
  refine x_irem F dX3_isBrownedOut_8 (by decide) ?_
  refine x_istore_n F dX3_isBrownedOut_9 rfl (by decide) ?_
  refine x_iload_n F dX3_isBrownedOut_10 rfl rfl ?_
  refine x_iconst (v := 2) F dX3_isBrownedOut_11 (by decide) ?_
  refine x_iload_n F dX3_isBrownedOut_12 rfl rfl ?_
  refine x_aload_n F dX3_isBrownedOut_13 rfl rfl ?_
  refine x_get (ci := 3) (C := RX3) (T := TX3) (N := 4) (k := 1) F dX3_isBrownedOut_14 rfl inX3 (by decide) q55 rfl hr rfl ?_
  refine x_isub F dX3_isBrownedOut_17 ?_
  refine x_bipush (v := 24) F dX3_isBrownedOut_18 (by decide) ?_
  refine x_idiv F dX3_isBrownedOut_20 (by decide) ?_
  refine x_imul F dX3_isBrownedOut_21 ?_
  refine x_icmp_ge F dX3_isBrownedOut_22 rfl (fun h22 => ?_) (fun h22 => ?_)
  · refine x_iconst (v := 0) F dX3_isBrownedOut_35 (by decide) ?_
    refine x_iret F rfl rfl dX3_isBrownedOut_36 (Nat.le_refl _) (Nat.le_refl _) ?_
    first | exact ⟨_, rfl, congrArg Value.int (x_b_t (by simp_all [f_brown])), rfl⟩ | exact ⟨_, rfl, congrArg Value.int (x_b_f (by simp_all [f_brown])), rfl⟩
  · refine x_iload_n F dX3_isBrownedOut_25 rfl rfl ?_
    refine x_bipush (v := 12) F dX3_isBrownedOut_26 (by decide) ?_
    refine x_icmp_ge F dX3_isBrownedOut_28 rfl (fun h28 => ?_) (fun h28 => ?_)
    · refine x_iconst (v := 0) F dX3_isBrownedOut_35 (by decide) ?_
      refine x_iret F rfl rfl dX3_isBrownedOut_36 (Nat.le_refl _) (Nat.le_refl _) ?_
      first | exact ⟨_, rfl, congrArg Value.int (x_b_t (by simp_all [f_brown])), rfl⟩ | exact ⟨_, rfl, congrArg Value.int (x_b_f (by simp_all [f_brown])), rfl⟩
    · refine x_iconst (v := 1) F dX3_isBrownedOut_31 (by decide) ?_
      refine x_goto F dX3_isBrownedOut_32 rfl ?_
      refine x_iret F rfl rfl dX3_isBrownedOut_36 (Nat.le_refl _) (Nat.le_refl _) ?_
      first | exact ⟨_, rfl, congrArg Value.int (x_b_t (by simp_all [f_brown])), rfl⟩ | exact ⟨_, rfl, congrArg Value.int (x_b_f (by simp_all [f_brown])), rfl⟩
set_option maxRecDepth 100000 in
set_option maxHeartbeats 4000000 in
theorem c_quota {r ka : Nat} {b en n : Int32} {f : Nat → Int32} (hr : w r = some (oRet ka b en n)) (hk : w ka = some (aI 5 f)) (h : Int32) : Ci l D dA B yX3_quota wX3_quota 1 [.ref r, .int h] w (fun v w1 => v = .int (f_quota b h) ∧ w1 = w) := by
  refine x_Ct.of (cc := cX3_quota) (maxL := 2) (by decide) rfl (Nat.le_of_ble_eq_true rfl) ?_
  intro p e s m below meth c F
  refine x_iconst (v := 1) F dX3_quota_0 (by decide) ?_
  refine x_bipush (v := 8) F dX3_quota_1 (by decide) ?_
  refine x_iload_n F dX3_quota_3 rfl rfl ?_
  refine x_aload_n F dX3_quota_4 rfl rfl ?_
  refine x_get (ci := 3) (C := RX3) (T := TX3) (N := 4) (k := 1) F dX3_quota_5 rfl inX3 (by decide) q55 rfl hr rfl ?_
  refine x_isub F dX3_quota_8 ?_
  refine x_bipush (v := 24) F dX3_quota_9 (by decide) ?_
  refine x_idiv F dX3_quota_11 (by decide) ?_
  refine x_isub F dX3_quota_12 ?_
  refine x_max F dX3_quota_13 q334 q335 q15 q336 (Nat.le_of_ble_eq_true rfl) (Nat.le_of_ble_eq_true rfl) (Nat.le_of_ble_eq_true rfl) (Nat.le_of_ble_eq_true rfl) ?_
  refine x_iret F rfl rfl dX3_quota_16 (Nat.le_refl _) (Nat.le_refl _) ?_
  exact ⟨_, rfl, rfl, rfl⟩
set_option maxRecDepth 100000 in
set_option maxHeartbeats 4000000 in
theorem c_suits {a a1 fa fa1 ra ra1 : Nat} {n0 h n s0 p0 x0 y0 n1 h1 n1b s1 q1 x1 y1 : Int32} (ha : w a = some (oVer fa n0 h n ra s0 p0 x0 y0)) (hb : w a1 = some (oVer fa1 n1 h1 n1b ra1 s1 q1 x1 y1)) : Ci l D dA B yX5_suits wX5_suits 0 [.ref a, .ref a1] w (fun v w1 => v = .int (x_b (f_suits h n h1 n1b)) ∧ w1 = w) := by
  refine x_Ct.of (cc := cX5_suits) (maxL := 2) (by decide) rfl (Nat.le_of_ble_eq_true rfl) ?_
  intro p e s m below meth c F
  refine x_aload_n F dX5_suits_0 rfl rfl ?_
  refine x_get (ci := 5) (C := RX5) (T := TX5) (N := 9) (k := 2) F dX5_suits_1 rfl inX5 (by decide) q142 rfl hb rfl ?_
  refine x_aload_n F dX5_suits_4 rfl rfl ?_
  refine x_get (ci := 5) (C := RX5) (T := TX5) (N := 9) (k := 2) F dX5_suits_5 rfl inX5 (by decide) q142 rfl ha rfl ?_
  refine x_iconst (v := (-1)) F dX5_suits_8 (by decide) ?_
  refine x_ixor F dX5_suits_9 ?_
  refine x_iand F dX5_suits_10 ?_
  refine x_if_ne F dX5_suits_11 rfl (fun h11 => ?_) (fun h11 => ?_)
  · refine x_iconst (v := 0) F dX5_suits_32 (by decide) ?_
    refine x_iret F rfl rfl dX5_suits_33 (Nat.le_refl _) (Nat.le_refl _) ?_
    first | exact ⟨_, rfl, congrArg Value.int (x_b_t (by simp_all [f_suits])), rfl⟩ | exact ⟨_, rfl, congrArg Value.int (x_b_f (by simp_all [f_suits])), rfl⟩
  · refine x_aload_n F dX5_suits_14 rfl rfl ?_
    refine x_get (ci := 5) (C := RX5) (T := TX5) (N := 9) (k := 3) F dX5_suits_15 rfl inX5 (by decide) q144 rfl ha rfl ?_
    refine x_aload_n F dX5_suits_18 rfl rfl ?_
    refine x_get (ci := 5) (C := RX5) (T := TX5) (N := 9) (k := 3) F dX5_suits_19 rfl inX5 (by decide) q144 rfl hb rfl ?_
    refine x_iconst (v := (-1)) F dX5_suits_22 (by decide) ?_
    refine x_ixor F dX5_suits_23 ?_
    refine x_iand F dX5_suits_24 ?_
    refine x_if_ne F dX5_suits_25 rfl (fun h25 => ?_) (fun h25 => ?_)
    · refine x_iconst (v := 0) F dX5_suits_32 (by decide) ?_
      refine x_iret F rfl rfl dX5_suits_33 (Nat.le_refl _) (Nat.le_refl _) ?_
      first | exact ⟨_, rfl, congrArg Value.int (x_b_t (by simp_all [f_suits])), rfl⟩ | exact ⟨_, rfl, congrArg Value.int (x_b_f (by simp_all [f_suits])), rfl⟩
    · refine x_iconst (v := 1) F dX5_suits_28 (by decide) ?_
      refine x_goto F dX5_suits_29 rfl ?_
      refine x_iret F rfl rfl dX5_suits_33 (Nat.le_refl _) (Nat.le_refl _) ?_
      first | exact ⟨_, rfl, congrArg Value.int (x_b_t (by simp_all [f_suits])), rfl⟩ | exact ⟨_, rfl, congrArg Value.int (x_b_f (by simp_all [f_suits])), rfl⟩
set_option maxRecDepth 100000 in
set_option maxHeartbeats 4000000 in
theorem c_usesAgain (hR : Rep Z K J w) {i : Nat} (hi : vOk K i) (u : Int32) : Ci l D dA B yX5_usesAgain wX5_usesAgain 0 [.ref (Z 10 i), .int u] w (fun v w1 => v = .int (f_again (kV K i 0) (kV K i 1) u) ∧ w1 = w) := by
  refine x_Ct.of (cc := cX5_usesAgain) (maxL := 2) (by decide) rfl (Nat.le_of_ble_eq_true rfl) ?_
  intro p e s m below meth c F
  refine x_aload_n F dX5_usesAgain_0 rfl rfl ?_
  refine x_get (ci := 5) (C := RX5) (T := TX5) (N := 9) (k := 3) F dX5_usesAgain_1 rfl inX5 (by decide) q144 rfl (hR.ver hi) rfl ?_
  refine x_iload_n F dX5_usesAgain_4 rfl rfl ?_
  refine x_aload_n F dX5_usesAgain_5 rfl rfl ?_
  refine x_get (ci := 5) (C := RX5) (T := TX5) (N := 9) (k := 2) F dX5_usesAgain_6 rfl inX5 (by decide) q142 rfl (hR.ver hi) rfl ?_
  refine x_iand F dX5_usesAgain_9 ?_
  refine x_ior F dX5_usesAgain_10 ?_
  refine x_iret F rfl rfl dX5_usesAgain_11 (Nat.le_refl _) (Nat.le_refl _) ?_
  exact ⟨_, rfl, rfl, rfl⟩
set_option maxRecDepth 100000 in
set_option maxHeartbeats 4000000 in
theorem c_makesOf (hR : Rep Z K J w) {k : Nat} (hk : k < na K) (u : Int32) : Ci l D dA B yX0_makesOf wX0_makesOf 0 [.ref (Z 16 k), .int u] w (fun v w1 => v = .int (f_makes (kA K k 0) (kA K k 1) u) ∧ w1 = w) := by
  refine x_Ct.of (cc := cX0_makesOf) (maxL := 2) (by decide) rfl (Nat.le_of_ble_eq_true rfl) ?_
  intro p e s m below meth c F
  refine x_iload_n F dX0_makesOf_0 rfl rfl ?_
  refine x_aload_n F dX0_makesOf_1 rfl rfl ?_
  refine x_get (ci := 0) (C := RX0) (T := TX0) (N := 4) (k := 3) F dX0_makesOf_2 rfl inX0 (by decide) q293 rfl (hR.ada hk) rfl ?_
  refine x_iconst (v := (-1)) F dX0_makesOf_5 (by decide) ?_
  refine x_ixor F dX0_makesOf_6 ?_
  refine x_iand F dX0_makesOf_7 ?_
  refine x_aload_n F dX0_makesOf_8 rfl rfl ?_
  refine x_get (ci := 0) (C := RX0) (T := TX0) (N := 4) (k := 2) F dX0_makesOf_9 rfl inX0 (by decide) q292 rfl (hR.ada hk) rfl ?_
  refine x_ior F dX0_makesOf_12 ?_
  refine x_iret F rfl rfl dX0_makesOf_13 (Nat.le_refl _) (Nat.le_refl _) ?_
  exact ⟨_, rfl, rfl, rfl⟩
set_option maxRecDepth 100000 in
set_option maxHeartbeats 4000000 in
theorem c_fits (u h n : Int32) : Ci l D dA B yX6_fits wX6_fits 0 [.int u, .int h, .int n] w (fun v w1 => v = .int (x_b (f_fits u h n)) ∧ w1 = w) := by
  refine x_Ct.of (cc := cX6_fits) (maxL := 3) (by decide) rfl (Nat.le_of_ble_eq_true rfl) ?_
  intro p e s m below meth c F
  refine x_iload_n F dX6_fits_0 rfl rfl ?_
  refine x_iload_n F dX6_fits_1 rfl rfl ?_
  refine x_iconst (v := (-1)) F dX6_fits_2 (by decide) ?_
  refine x_ixor F dX6_fits_3 ?_
  refine x_iand F dX6_fits_4 ?_
  refine x_if_ne F dX6_fits_5 rfl (fun h5 => ?_) (fun h5 => ?_)
  · refine x_iconst (v := 0) F dX6_fits_20 (by decide) ?_
    refine x_iret F rfl rfl dX6_fits_21 (Nat.le_refl _) (Nat.le_refl _) ?_
    first | exact ⟨_, rfl, congrArg Value.int (x_b_t (by simp_all [f_fits])), rfl⟩ | exact ⟨_, rfl, congrArg Value.int (x_b_f (by simp_all [f_fits])), rfl⟩
  · refine x_iload_n F dX6_fits_8 rfl rfl ?_
    refine x_iload_n F dX6_fits_9 rfl rfl ?_
    refine x_iconst (v := (-1)) F dX6_fits_10 (by decide) ?_
    refine x_ixor F dX6_fits_11 ?_
    refine x_iand F dX6_fits_12 ?_
    refine x_if_ne F dX6_fits_13 rfl (fun h13 => ?_) (fun h13 => ?_)
    · refine x_iconst (v := 0) F dX6_fits_20 (by decide) ?_
      refine x_iret F rfl rfl dX6_fits_21 (Nat.le_refl _) (Nat.le_refl _) ?_
      first | exact ⟨_, rfl, congrArg Value.int (x_b_t (by simp_all [f_fits])), rfl⟩ | exact ⟨_, rfl, congrArg Value.int (x_b_f (by simp_all [f_fits])), rfl⟩
    · refine x_iconst (v := 1) F dX6_fits_16 (by decide) ?_
      refine x_goto F dX6_fits_17 rfl ?_
      refine x_iret F rfl rfl dX6_fits_21 (Nat.le_refl _) (Nat.le_refl _) ?_
      first | exact ⟨_, rfl, congrArg Value.int (x_b_t (by simp_all [f_fits])), rfl⟩ | exact ⟨_, rfl, congrArg Value.int (x_b_f (by simp_all [f_fits])), rfl⟩
set_option maxRecDepth 100000 in
set_option maxHeartbeats 4000000 in
theorem c_isOwner (o : Int32) : Ci l D dA B yX6_isOwner wX6_isOwner 0 [.int o] w (fun v w1 => v = .int (x_b (f_owner o)) ∧ w1 = w) := by
  refine x_Ct.of (cc := cX6_isOwner) (maxL := 1) (by decide) rfl (Nat.le_of_ble_eq_true rfl) ?_
  intro p e s m below meth c F
  refine x_iload_n F dX6_isOwner_0 rfl rfl ?_
  refine x_if_lt F dX6_isOwner_1 rfl (fun h1 => ?_) (fun h1 => ?_)
  · refine x_iconst (v := 0) F dX6_isOwner_13 (by decide) ?_
    refine x_iret F rfl rfl dX6_isOwner_14 (Nat.le_refl _) (Nat.le_refl _) ?_
    first | exact ⟨_, rfl, congrArg Value.int (x_b_t (by simp_all [f_owner])), rfl⟩ | exact ⟨_, rfl, congrArg Value.int (x_b_f (by simp_all [f_owner])), rfl⟩
  · refine x_iload_n F dX6_isOwner_4 rfl rfl ?_
    refine x_iconst (v := 5) F dX6_isOwner_5 (by decide) ?_
    refine x_icmp_ge F dX6_isOwner_6 rfl (fun h6 => ?_) (fun h6 => ?_)
    · refine x_iconst (v := 0) F dX6_isOwner_13 (by decide) ?_
      refine x_iret F rfl rfl dX6_isOwner_14 (Nat.le_refl _) (Nat.le_refl _) ?_
      first | exact ⟨_, rfl, congrArg Value.int (x_b_t (by simp_all [f_owner])), rfl⟩ | exact ⟨_, rfl, congrArg Value.int (x_b_f (by simp_all [f_owner])), rfl⟩
    · refine x_iconst (v := 1) F dX6_isOwner_9 (by decide) ?_
      refine x_goto F dX6_isOwner_10 rfl ?_
      refine x_iret F rfl rfl dX6_isOwner_14 (Nat.le_refl _) (Nat.le_refl _) ?_
      first | exact ⟨_, rfl, congrArg Value.int (x_b_t (by simp_all [f_owner])), rfl⟩ | exact ⟨_, rfl, congrArg Value.int (x_b_f (by simp_all [f_owner])), rfl⟩
set_option maxRecDepth 100000 in
set_option maxHeartbeats 4000000 in
theorem c_isFieldSet (u : Int32) : Ci l D dA B yX6_isFieldSet wX6_isFieldSet 0 [.int u] w (fun v w1 => v = .int (x_b (f_set u)) ∧ w1 = w) := by
  refine x_Ct.of (cc := cX6_isFieldSet) (maxL := 1) (by decide) rfl (Nat.le_of_ble_eq_true rfl) ?_
  intro p e s m below meth c F
  refine x_iload_n F dX6_isFieldSet_0 rfl rfl ?_
  refine x_if_lt F dX6_isFieldSet_1 rfl (fun h1 => ?_) (fun h1 => ?_)
  · refine x_iconst (v := 0) F dX6_isFieldSet_15 (by decide) ?_
    refine x_iret F rfl rfl dX6_isFieldSet_16 (Nat.le_refl _) (Nat.le_refl _) ?_
    first | exact ⟨_, rfl, congrArg Value.int (x_b_t (by simp_all [f_set])), rfl⟩ | exact ⟨_, rfl, congrArg Value.int (x_b_f (by simp_all [f_set])), rfl⟩
  · refine x_iload_n F dX6_isFieldSet_4 rfl rfl ?_
    refine x_sipush (v := 255) F dX6_isFieldSet_5 (by decide) ?_
    refine x_icmp_gt F dX6_isFieldSet_8 rfl (fun h8 => ?_) (fun h8 => ?_)
    · refine x_iconst (v := 0) F dX6_isFieldSet_15 (by decide) ?_
      refine x_iret F rfl rfl dX6_isFieldSet_16 (Nat.le_refl _) (Nat.le_refl _) ?_
      first | exact ⟨_, rfl, congrArg Value.int (x_b_t (by simp_all [f_set])), rfl⟩ | exact ⟨_, rfl, congrArg Value.int (x_b_f (by simp_all [f_set])), rfl⟩
    · refine x_iconst (v := 1) F dX6_isFieldSet_11 (by decide) ?_
      refine x_goto F dX6_isFieldSet_12 rfl ?_
      refine x_iret F rfl rfl dX6_isFieldSet_16 (Nat.le_refl _) (Nat.le_refl _) ?_
      first | exact ⟨_, rfl, congrArg Value.int (x_b_t (by simp_all [f_set])), rfl⟩ | exact ⟨_, rfl, congrArg Value.int (x_b_f (by simp_all [f_set])), rfl⟩
set_option maxRecDepth 100000 in
set_option maxHeartbeats 4000000 in
theorem c_isShape (h n : Int32) : Ci l D dA B yX6_isShape wX6_isShape 1 [.int h, .int n] w (fun v w1 => v = .int (x_b (f_shape h n)) ∧ w1 = w) := by
  refine x_Ct.of (cc := cX6_isShape) (maxL := 2) (by decide) rfl (Nat.le_of_ble_eq_true rfl) ?_
  intro p e s m below meth c F
  refine x_iload_n F dX6_isShape_0 rfl rfl ?_
  refine x_cSi1 F dX6_isShape_1 (x_gS q123 q124 q1 q125) (c_isFieldSet h) ⟨rfl, rfl, rfl, xd_X6_isFieldSet, ⟨Nat.le_of_ble_eq_true rfl, Nat.le_of_ble_eq_true rfl⟩, Nat.le_of_ble_eq_true rfl, Nat.le_of_ble_eq_true rfl⟩ (Nat.le_of_ble_eq_true rfl) (fun v1 w1 hp => ?_)
  obtain ⟨rfl, hw9⟩ := hp
  replace hw9 := hw9.symm
  subst hw9
  refine x_if_eq F dX6_isShape_4 rfl (fun h4 => ?_) (fun h4 => ?_)
  · refine x_iconst (v := 0) F dX6_isShape_23 (by decide) ?_
    refine x_iret F rfl rfl dX6_isShape_24 (Nat.le_refl _) (Nat.le_refl _) ?_
    first | exact ⟨_, rfl, congrArg Value.int (x_b_t (by simp_all [f_shape, x_b_ne, x_b_eq])), rfl⟩ | exact ⟨_, rfl, congrArg Value.int (x_b_f (by simp_all [f_shape, x_b_ne, x_b_eq])), rfl⟩
  · refine x_iload_n F dX6_isShape_7 rfl rfl ?_
    refine x_if_lt F dX6_isShape_8 rfl (fun h8 => ?_) (fun h8 => ?_)
    · refine x_iconst (v := 0) F dX6_isShape_23 (by decide) ?_
      refine x_iret F rfl rfl dX6_isShape_24 (Nat.le_refl _) (Nat.le_refl _) ?_
      first | exact ⟨_, rfl, congrArg Value.int (x_b_t (by simp_all [f_shape, x_b_ne, x_b_eq])), rfl⟩ | exact ⟨_, rfl, congrArg Value.int (x_b_f (by simp_all [f_shape, x_b_ne, x_b_eq])), rfl⟩
    · refine x_iload_n F dX6_isShape_11 rfl rfl ?_
      refine x_iload_n F dX6_isShape_12 rfl rfl ?_
      refine x_iconst (v := (-1)) F dX6_isShape_13 (by decide) ?_
      refine x_ixor F dX6_isShape_14 ?_
      refine x_iand F dX6_isShape_15 ?_
      refine x_if_ne F dX6_isShape_16 rfl (fun h16 => ?_) (fun h16 => ?_)
      · refine x_iconst (v := 0) F dX6_isShape_23 (by decide) ?_
        refine x_iret F rfl rfl dX6_isShape_24 (Nat.le_refl _) (Nat.le_refl _) ?_
        first | exact ⟨_, rfl, congrArg Value.int (x_b_t (by simp_all [f_shape, x_b_ne, x_b_eq])), rfl⟩ | exact ⟨_, rfl, congrArg Value.int (x_b_f (by simp_all [f_shape, x_b_ne, x_b_eq])), rfl⟩
      · refine x_iconst (v := 1) F dX6_isShape_19 (by decide) ?_
        refine x_goto F dX6_isShape_20 rfl ?_
        refine x_iret F rfl rfl dX6_isShape_24 (Nat.le_refl _) (Nat.le_refl _) ?_
        first | exact ⟨_, rfl, congrArg Value.int (x_b_t (by simp_all [f_shape, x_b_ne, x_b_eq])), rfl⟩ | exact ⟨_, rfl, congrArg Value.int (x_b_f (by simp_all [f_shape, x_b_ne, x_b_eq])), rfl⟩
set_option maxRecDepth 100000 in
set_option maxHeartbeats 4000000 in
theorem c_faceAt (hR : Rep Z K J w) (x : Int32) : Ci l D dA B yX6_faceAt wX6_faceAt 0 [.ref (Z 0 0), .int x] w (fun v w1 => v = va_rf (f_at 4 (g_face Z K) x) ∧ w1 = w) := by
  refine x_Ct.of (cc := cX6_faceAt) (maxL := 2) (by decide) rfl (Nat.le_of_ble_eq_true rfl) ?_
  intro p e s m below meth c F
  refine x_iload_n F dX6_faceAt_0 rfl rfl ?_
  refine x_if_lt F dX6_faceAt_1 rfl (fun h1 => ?_) (fun h1 => ?_)
  · refine x_null F dX6_faceAt_22 ?_
    refine x_aretN F rfl dX6_faceAt_23 (Nat.le_refl _) (Nat.le_refl _) ?_
    first | exact ⟨_, rfl, (by rw [f_at_in h1 h10]; rfl), rfl⟩ | exact ⟨_, rfl, (by rw [f_at_neg h1]; rfl), rfl⟩ | exact ⟨_, rfl, (by rw [f_at_big h10]; rfl), rfl⟩
  · refine x_iload_n F dX6_faceAt_4 rfl rfl ?_
    refine x_aload_n F dX6_faceAt_5 rfl rfl ?_
    refine x_get (ci := 6) (C := RX6) (T := TX6) (N := 12) (k := 0) F dX6_faceAt_6 rfl inX6 (by decide) q65 rfl hR.main rfl ?_
    refine x_alen (v := 4) F dX6_faceAt_9 rfl hR.faces rfl ?_
    refine x_icmp_ge F dX6_faceAt_10 rfl (fun h10 => ?_) (fun h10 => ?_)
    · refine x_null F dX6_faceAt_22 ?_
      refine x_aretN F rfl dX6_faceAt_23 (Nat.le_refl _) (Nat.le_refl _) ?_
      first | exact ⟨_, rfl, (by rw [f_at_in h1 h10]; rfl), rfl⟩ | exact ⟨_, rfl, (by rw [f_at_neg h1]; rfl), rfl⟩ | exact ⟨_, rfl, (by rw [f_at_big h10]; rfl), rfl⟩
    · refine x_aload_n F dX6_faceAt_13 rfl rfl ?_
      refine x_get (ci := 6) (C := RX6) (T := TX6) (N := 12) (k := 0) F dX6_faceAt_14 rfl inX6 (by decide) q65 rfl hR.main rfl ?_
      refine x_iload_n F dX6_faceAt_17 rfl rfl ?_
      refine x_aald F dX6_faceAt_18 rfl hR.faces (x_in (m2 := 4) (by decide) h1 h10) ?_
      refine x_goto F dX6_faceAt_19 rfl ?_
      refine x_aret F rfl dX6_faceAt_23 (Nat.le_refl _) (Nat.le_refl _) ?_
      first | exact ⟨_, rfl, (by rw [f_at_in h1 h10]; rfl), rfl⟩ | exact ⟨_, rfl, (by rw [f_at_neg h1]; rfl), rfl⟩ | exact ⟨_, rfl, (by rw [f_at_big h10]; rfl), rfl⟩
set_option maxRecDepth 100000 in
set_option maxHeartbeats 4000000 in
theorem c_clientAt (hR : Rep Z K J w) (x : Int32) : Ci l D dA B yX6_clientAt wX6_clientAt 0 [.ref (Z 0 0), .int x] w (fun v w1 => v = va_rf (f_at 10 (g_cli Z K) x) ∧ w1 = w) := by
  refine x_Ct.of (cc := cX6_clientAt) (maxL := 2) (by decide) rfl (Nat.le_of_ble_eq_true rfl) ?_
  intro p e s m below meth c F
  refine x_iload_n F dX6_clientAt_0 rfl rfl ?_
  refine x_if_lt F dX6_clientAt_1 rfl (fun h1 => ?_) (fun h1 => ?_)
  · refine x_null F dX6_clientAt_22 ?_
    refine x_aretN F rfl dX6_clientAt_23 (Nat.le_refl _) (Nat.le_refl _) ?_
    first | exact ⟨_, rfl, (by rw [f_at_in h1 h10]; rfl), rfl⟩ | exact ⟨_, rfl, (by rw [f_at_neg h1]; rfl), rfl⟩ | exact ⟨_, rfl, (by rw [f_at_big h10]; rfl), rfl⟩
  · refine x_iload_n F dX6_clientAt_4 rfl rfl ?_
    refine x_aload_n F dX6_clientAt_5 rfl rfl ?_
    refine x_get (ci := 6) (C := RX6) (T := TX6) (N := 12) (k := 1) F dX6_clientAt_6 rfl inX6 (by decide) q66 rfl hR.main rfl ?_
    refine x_alen (v := 10) F dX6_clientAt_9 rfl hR.clients rfl ?_
    refine x_icmp_ge F dX6_clientAt_10 rfl (fun h10 => ?_) (fun h10 => ?_)
    · refine x_null F dX6_clientAt_22 ?_
      refine x_aretN F rfl dX6_clientAt_23 (Nat.le_refl _) (Nat.le_refl _) ?_
      first | exact ⟨_, rfl, (by rw [f_at_in h1 h10]; rfl), rfl⟩ | exact ⟨_, rfl, (by rw [f_at_neg h1]; rfl), rfl⟩ | exact ⟨_, rfl, (by rw [f_at_big h10]; rfl), rfl⟩
    · refine x_aload_n F dX6_clientAt_13 rfl rfl ?_
      refine x_get (ci := 6) (C := RX6) (T := TX6) (N := 12) (k := 1) F dX6_clientAt_14 rfl inX6 (by decide) q66 rfl hR.main rfl ?_
      refine x_iload_n F dX6_clientAt_17 rfl rfl ?_
      refine x_aald F dX6_clientAt_18 rfl hR.clients (x_in (m2 := 10) (by decide) h1 h10) ?_
      refine x_goto F dX6_clientAt_19 rfl ?_
      refine x_aret F rfl dX6_clientAt_23 (Nat.le_refl _) (Nat.le_refl _) ?_
      first | exact ⟨_, rfl, (by rw [f_at_in h1 h10]; rfl), rfl⟩ | exact ⟨_, rfl, (by rw [f_at_neg h1]; rfl), rfl⟩ | exact ⟨_, rfl, (by rw [f_at_big h10]; rfl), rfl⟩
set_option maxRecDepth 100000 in
set_option maxHeartbeats 4000000 in
theorem c_fVersionAt (hR : Rep Z K J w) {f : Nat} (hf : f < nf K) (x : Int32) : Ci l D dA B yX2_versionAt wX2_versionAt 0 [.ref (Z 8 f), .int x] w (fun v w1 => v = va_rf (f_at 6 (g_ver Z K f) x) ∧ w1 = w) := by
  refine x_Ct.of (cc := cX2_versionAt) (maxL := 2) (by decide) rfl (Nat.le_of_ble_eq_true rfl) ?_
  intro p e s m below meth c F
  refine x_iload_n F dX2_versionAt_0 rfl rfl ?_
  refine x_if_lt F dX2_versionAt_1 rfl (fun h1 => ?_) (fun h1 => ?_)
  · refine x_null F dX2_versionAt_22 ?_
    refine x_aretN F rfl dX2_versionAt_23 (Nat.le_refl _) (Nat.le_refl _) ?_
    first | exact ⟨_, rfl, (by rw [f_at_in h1 h10]; rfl), rfl⟩ | exact ⟨_, rfl, (by rw [f_at_neg h1]; rfl), rfl⟩ | exact ⟨_, rfl, (by rw [f_at_big h10]; rfl), rfl⟩
  · refine x_iload_n F dX2_versionAt_4 rfl rfl ?_
    refine x_aload_n F dX2_versionAt_5 rfl rfl ?_
    refine x_get (ci := 2) (C := RX2) (T := TX2) (N := 3) (k := 1) F dX2_versionAt_6 rfl inX2 (by decide) q105 rfl (hR.face hf) rfl ?_
    refine x_alen (v := 6) F dX2_versionAt_9 rfl (hR.fvs hf) rfl ?_
    refine x_icmp_ge F dX2_versionAt_10 rfl (fun h10 => ?_) (fun h10 => ?_)
    · refine x_null F dX2_versionAt_22 ?_
      refine x_aretN F rfl dX2_versionAt_23 (Nat.le_refl _) (Nat.le_refl _) ?_
      first | exact ⟨_, rfl, (by rw [f_at_in h1 h10]; rfl), rfl⟩ | exact ⟨_, rfl, (by rw [f_at_neg h1]; rfl), rfl⟩ | exact ⟨_, rfl, (by rw [f_at_big h10]; rfl), rfl⟩
    · refine x_aload_n F dX2_versionAt_13 rfl rfl ?_
      refine x_get (ci := 2) (C := RX2) (T := TX2) (N := 3) (k := 1) F dX2_versionAt_14 rfl inX2 (by decide) q105 rfl (hR.face hf) rfl ?_
      refine x_iload_n F dX2_versionAt_17 rfl rfl ?_
      refine x_aald F dX2_versionAt_18 rfl (hR.fvs hf) (x_in (m2 := 6) (by decide) h1 h10) ?_
      refine x_goto F dX2_versionAt_19 rfl ?_
      refine x_aret F rfl dX2_versionAt_23 (Nat.le_refl _) (Nat.le_refl _) ?_
      first | exact ⟨_, rfl, (by rw [f_at_in h1 h10]; rfl), rfl⟩ | exact ⟨_, rfl, (by rw [f_at_neg h1]; rfl), rfl⟩ | exact ⟨_, rfl, (by rw [f_at_big h10]; rfl), rfl⟩
set_option maxRecDepth 100000 in
set_option maxHeartbeats 4000000 in
theorem c_calledAtOf (hR : Rep Z K J w) {k i : Nat} (hk : k < nc K) (hi : vOk K i) : Ci l D dA B yX1_calledAtOf wX1_calledAtOf 0 [.ref (Z 13 k), .ref (Z 10 i)] w (fun v w1 => v = .int (f_called K k i) ∧ w1 = w) := by
  refine x_Ct.of (cc := cX1_calledAtOf) (maxL := 3) (by decide) rfl (Nat.le_of_ble_eq_true rfl) ?_
  intro p e s m below meth c F
  refine x_aload_n F dX1_calledAtOf_0 rfl rfl ?_
  refine x_get (ci := 5) (C := RX5) (T := TX5) (N := 9) (k := 0) F dX1_calledAtOf_1 rfl inX5 (by decide) q137 rfl (hR.ver hi) rfl ?_
  refine x_aload_n F dX1_calledAtOf_4 rfl rfl ?_
  refine x_get (ci := 1) (C := RX1) (T := TX1) (N := 8) (k := 1) F dX1_calledAtOf_5 rfl inX1 (by decide) q247 rfl (hR.cli hk) rfl ?_
  refine x_acmp_neR F dX1_calledAtOf_8 rfl (fun h8 => ?_) (fun h8 => ?_)
  · rw [hR.feq hi.1 (hR.cv hk).1] at h8
    refine x_iconst (v := 0) F dX1_calledAtOf_34 (by decide) ?_
    refine x_istore_n F dX1_calledAtOf_35 rfl (by decide) ?_
    refine x_iload_n F dX1_calledAtOf_36 rfl rfl ?_
    refine x_if_eq F dX1_calledAtOf_37 rfl (fun _ => ?_) (fun hc => absurd hc (by decide))
    refine x_iconst (v := (-1)) F dX1_calledAtOf_52 (by decide) ?_
    refine x_iret F rfl rfl dX1_calledAtOf_53 (Nat.le_refl _) (Nat.le_refl _) ?_
    first | exact ⟨_, rfl, congrArg Value.int (if_pos h8.symm).symm, rfl⟩ | exact ⟨_, rfl, congrArg Value.int (if_neg (fun q => h8 q.symm)).symm, rfl⟩
  · rw [hR.feq hi.1 (hR.cv hk).1] at h8
    refine x_aload_n F dX1_calledAtOf_11 rfl rfl ?_
    refine x_get (ci := 5) (C := RX5) (T := TX5) (N := 9) (k := 1) F dX1_calledAtOf_12 rfl inX5 (by decide) q140 rfl (hR.ver hi) rfl ?_
    refine x_if_lt F dX1_calledAtOf_15 rfl (fun hc => absurd hc (nI_pos (by omega))) (fun h15 => ?_)
    refine x_aload_n F dX1_calledAtOf_18 rfl rfl ?_
    refine x_get (ci := 5) (C := RX5) (T := TX5) (N := 9) (k := 1) F dX1_calledAtOf_19 rfl inX5 (by decide) q140 rfl (hR.ver hi) rfl ?_
    refine x_aload_n F dX1_calledAtOf_22 rfl rfl ?_
    refine x_get (ci := 1) (C := RX1) (T := TX1) (N := 8) (k := 2) F dX1_calledAtOf_23 rfl inX1 (by decide) q249 rfl (hR.cli hk) rfl ?_
    refine x_alen (v := 6) F dX1_calledAtOf_26 rfl (hR.cla hk) rfl ?_
    refine x_icmp_ge F dX1_calledAtOf_27 rfl (fun hc => absurd hc (nI_ge (b := 6) (by omega) (by decide))) (fun h27 => ?_)
    refine x_iconst (v := 1) F dX1_calledAtOf_30 (by decide) ?_
    refine x_goto F dX1_calledAtOf_31 rfl ?_
    refine x_istore_n F dX1_calledAtOf_35 rfl (by decide) ?_
    refine x_iload_n F dX1_calledAtOf_36 rfl rfl ?_
    refine x_if_eq F dX1_calledAtOf_37 rfl (fun hc => absurd hc (by decide)) (fun _ => ?_)
    refine x_aload_n F dX1_calledAtOf_40 rfl rfl ?_
    refine x_get (ci := 1) (C := RX1) (T := TX1) (N := 8) (k := 2) F dX1_calledAtOf_41 rfl inX1 (by decide) q249 rfl (hR.cli hk) rfl ?_
    refine x_aload_n F dX1_calledAtOf_44 rfl rfl ?_
    refine x_get (ci := 5) (C := RX5) (T := TX5) (N := 9) (k := 1) F dX1_calledAtOf_45 rfl inX5 (by decide) q140 rfl (hR.ver hi) rfl ?_
    refine x_ialdN F dX1_calledAtOf_48 rfl (hR.cla hk) (by omega) (by decide) ?_
    refine x_goto F dX1_calledAtOf_49 rfl ?_
    refine x_iret F rfl rfl dX1_calledAtOf_53 (Nat.le_refl _) (Nat.le_refl _) ?_
    first | exact ⟨_, rfl, congrArg Value.int (if_pos h8.symm).symm, rfl⟩ | exact ⟨_, rfl, congrArg Value.int (if_neg (fun q => h8 q.symm)).symm, rfl⟩
set_option maxRecDepth 100000 in
set_option maxHeartbeats 4000000 in
theorem c_servedThisHourBy (hR : Rep Z K J w) {k i : Nat} (hk : k < nc K) (hi : vOk K i) : Ci l D dA B yX1_servedThisHourBy wX1_servedThisHourBy 0 [.ref (Z 13 k), .ref (Z 10 i)] w (fun v w1 => v = .int (f_served K k i) ∧ w1 = w) := by
  refine x_Ct.of (cc := cX1_servedThisHourBy) (maxL := 3) (by decide) rfl (Nat.le_of_ble_eq_true rfl) ?_
  intro p e s m below meth c F
  refine x_aload_n F dX1_servedThisHourBy_0 rfl rfl ?_
  refine x_get (ci := 5) (C := RX5) (T := TX5) (N := 9) (k := 0) F dX1_servedThisHourBy_1 rfl inX5 (by decide) q137 rfl (hR.ver hi) rfl ?_
  refine x_aload_n F dX1_servedThisHourBy_4 rfl rfl ?_
  refine x_get (ci := 1) (C := RX1) (T := TX1) (N := 8) (k := 1) F dX1_servedThisHourBy_5 rfl inX1 (by decide) q247 rfl (hR.cli hk) rfl ?_
  refine x_acmp_neR F dX1_servedThisHourBy_8 rfl (fun h8 => ?_) (fun h8 => ?_)
  · rw [hR.feq hi.1 (hR.cv hk).1] at h8
    refine x_iconst (v := 0) F dX1_servedThisHourBy_34 (by decide) ?_
    refine x_istore_n F dX1_servedThisHourBy_35 rfl (by decide) ?_
    refine x_iload_n F dX1_servedThisHourBy_36 rfl rfl ?_
    refine x_if_eq F dX1_servedThisHourBy_37 rfl (fun _ => ?_) (fun hc => absurd hc (by decide))
    refine x_iconst (v := 0) F dX1_servedThisHourBy_52 (by decide) ?_
    refine x_iret F rfl rfl dX1_servedThisHourBy_53 (Nat.le_refl _) (Nat.le_refl _) ?_
    first | exact ⟨_, rfl, congrArg Value.int (if_pos h8.symm).symm, rfl⟩ | exact ⟨_, rfl, congrArg Value.int (if_neg (fun q => h8 q.symm)).symm, rfl⟩
  · rw [hR.feq hi.1 (hR.cv hk).1] at h8
    refine x_aload_n F dX1_servedThisHourBy_11 rfl rfl ?_
    refine x_get (ci := 5) (C := RX5) (T := TX5) (N := 9) (k := 1) F dX1_servedThisHourBy_12 rfl inX5 (by decide) q140 rfl (hR.ver hi) rfl ?_
    refine x_if_lt F dX1_servedThisHourBy_15 rfl (fun hc => absurd hc (nI_pos (by omega))) (fun h15 => ?_)
    refine x_aload_n F dX1_servedThisHourBy_18 rfl rfl ?_
    refine x_get (ci := 5) (C := RX5) (T := TX5) (N := 9) (k := 1) F dX1_servedThisHourBy_19 rfl inX5 (by decide) q140 rfl (hR.ver hi) rfl ?_
    refine x_aload_n F dX1_servedThisHourBy_22 rfl rfl ?_
    refine x_get (ci := 1) (C := RX1) (T := TX1) (N := 8) (k := 3) F dX1_servedThisHourBy_23 rfl inX1 (by decide) q250 rfl (hR.cli hk) rfl ?_
    refine x_alen (v := 6) F dX1_servedThisHourBy_26 rfl (hR.csv hk) rfl ?_
    refine x_icmp_ge F dX1_servedThisHourBy_27 rfl (fun hc => absurd hc (nI_ge (b := 6) (by omega) (by decide))) (fun h27 => ?_)
    refine x_iconst (v := 1) F dX1_servedThisHourBy_30 (by decide) ?_
    refine x_goto F dX1_servedThisHourBy_31 rfl ?_
    refine x_istore_n F dX1_servedThisHourBy_35 rfl (by decide) ?_
    refine x_iload_n F dX1_servedThisHourBy_36 rfl rfl ?_
    refine x_if_eq F dX1_servedThisHourBy_37 rfl (fun hc => absurd hc (by decide)) (fun _ => ?_)
    refine x_aload_n F dX1_servedThisHourBy_40 rfl rfl ?_
    refine x_get (ci := 1) (C := RX1) (T := TX1) (N := 8) (k := 3) F dX1_servedThisHourBy_41 rfl inX1 (by decide) q250 rfl (hR.cli hk) rfl ?_
    refine x_aload_n F dX1_servedThisHourBy_44 rfl rfl ?_
    refine x_get (ci := 5) (C := RX5) (T := TX5) (N := 9) (k := 1) F dX1_servedThisHourBy_45 rfl inX5 (by decide) q140 rfl (hR.ver hi) rfl ?_
    refine x_ialdN F dX1_servedThisHourBy_48 rfl (hR.csv hk) (by omega) (by decide) ?_
    refine x_goto F dX1_servedThisHourBy_49 rfl ?_
    refine x_iret F rfl rfl dX1_servedThisHourBy_53 (Nat.le_refl _) (Nat.le_refl _) ?_
    first | exact ⟨_, rfl, congrArg Value.int (if_pos h8.symm).symm, rfl⟩ | exact ⟨_, rfl, congrArg Value.int (if_neg (fun q => h8 q.symm)).symm, rfl⟩
set_option maxRecDepth 100000 in
set_option maxHeartbeats 4000000 in
theorem c_isCallerOf (hR : Rep Z K J w) {k i : Nat} (hk : k < nc K) (hi : vOk K i) (h : Int32) : Ci l D dA B yX1_isCallerOf wX1_isCallerOf 1 [.ref (Z 13 k), .ref (Z 10 i), .int h] w (fun v w1 => v = .int (x_b (f_caller K k i h)) ∧ w1 = w) := by
  refine x_Ct.of (cc := cX1_isCallerOf) (maxL := 4) (by decide) rfl (Nat.le_of_ble_eq_true rfl) ?_
  intro p e s m below meth c F
  refine x_aload_n F dX1_isCallerOf_0 rfl rfl ?_
  refine x_aload_n F dX1_isCallerOf_1 rfl rfl ?_
  refine x_cVi1 (ci := 1) (C := RX1) (T := TX1) (N := 8) F dX1_isCallerOf_2 (x_gV q190 q191 q192 q13 q193) rfl (c_calledAtOf hR hk hi) ⟨rfl, rfl, rfl, xd_X1_calledAtOf, ⟨Nat.le_of_ble_eq_true rfl, Nat.le_of_ble_eq_true rfl⟩, Nat.le_of_ble_eq_true rfl, Nat.le_of_ble_eq_true rfl⟩ rfl (hR.cli hk) (Nat.le_of_ble_eq_true rfl) (fun v1 w1 hp => ?_)
  obtain ⟨rfl, hw9⟩ := hp
  replace hw9 := hw9.symm
  subst hw9
  refine x_istore_n F dX1_isCallerOf_5 rfl (by decide) ?_
  refine x_iload_n F dX1_isCallerOf_6 rfl rfl ?_
  refine x_iconst (v := (-1)) F dX1_isCallerOf_7 (by decide) ?_
  refine x_icmp_eq F dX1_isCallerOf_8 rfl (fun h8 => ?_) (fun h8 => ?_)
  · refine x_iconst (v := 0) F dX1_isCallerOf_23 (by decide) ?_
    refine x_iret F rfl rfl dX1_isCallerOf_24 (Nat.le_refl _) (Nat.le_refl _) ?_
    first | exact ⟨_, rfl, congrArg Value.int (x_b_t (by simp_all [f_caller])), rfl⟩ | exact ⟨_, rfl, congrArg Value.int (x_b_f (by simp_all [f_caller])), rfl⟩
  · refine x_iload_n F dX1_isCallerOf_11 rfl rfl ?_
    refine x_iload_n F dX1_isCallerOf_12 rfl rfl ?_
    refine x_isub F dX1_isCallerOf_13 ?_
    refine x_bipush (v := 24) F dX1_isCallerOf_14 (by decide) ?_
    refine x_icmp_ge F dX1_isCallerOf_16 rfl (fun h16 => ?_) (fun h16 => ?_)
    · refine x_iconst (v := 0) F dX1_isCallerOf_23 (by decide) ?_
      refine x_iret F rfl rfl dX1_isCallerOf_24 (Nat.le_refl _) (Nat.le_refl _) ?_
      first | exact ⟨_, rfl, congrArg Value.int (x_b_t (by simp_all [f_caller])), rfl⟩ | exact ⟨_, rfl, congrArg Value.int (x_b_f (by simp_all [f_caller])), rfl⟩
    · refine x_iconst (v := 1) F dX1_isCallerOf_19 (by decide) ?_
      refine x_goto F dX1_isCallerOf_20 rfl ?_
      refine x_iret F rfl rfl dX1_isCallerOf_24 (Nat.le_refl _) (Nat.le_refl _) ?_
      first | exact ⟨_, rfl, congrArg Value.int (x_b_t (by simp_all [f_caller])), rfl⟩ | exact ⟨_, rfl, congrArg Value.int (x_b_f (by simp_all [f_caller])), rfl⟩
end LEAF
