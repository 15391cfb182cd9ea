/-! ===== the law: its sixty steps, and its end ===== -/
section LOOP
variable {p : Program} {l : Launch} {e : Env} {s : State} {m : MethodId} {below : List Frame} {meth : Method} {c : Code} {Q : State → Prop}
variable {D : va_G} {dA : Nat → ClassId} {B : Nat} {Z : Nat → Nat → Nat} {K : kT} {J : jT} {w : xW} {rt : Option FieldType} {nm : String} {b L : Nat} {xs : Nat → Int32} {V C ha nd i : Nat} {H N : Nat → Int32}
set_option maxRecDepth 100000 in
set_option maxHeartbeats 4000000 in
theorem law_step (F : x_Fix p s m #[.ref b] meth c cL_law 15 RL xTs rt nm D dA vwCl tyL0 B) (hX : va_X b L xs s s.heap) (hbB : b < B) (hL : L ≤ 260) (hi60 : i < 60) (hC0 : 0 < C) (hV0 : 0 < V) (hI : Inv K V C i) (hK : KH K V H N) (hR : Rep Z K J w) (hS : SD Z K w V ha nd H N) (NEXT : ∀ K1 J1 w1, Inv K1 V C (i + 1) → KH K1 V H N → Rep Z K1 J1 w1 → SD Z K1 w1 V ha nd H N → X p l e room_1 s m #[.ref b] below meth c Q D dA vwCl B 15 (66 + 10 * i + 10) (406 + 60 * i + 60) 731 [(0, .ref b), (1, .ref (Z 0 0)), (2, .int (nI V)), (3, .ref ha), (4, .ref nd), (5, .int (nI C)), (6, .int (nI i))] [] w1) : X p l e room_1 s m #[.ref b] below meth c Q D dA vwCl B 15 (66 + 10 * i) (406 + 60 * i) 379 [(0, .ref b), (1, .ref (Z 0 0)), (2, .int (nI V)), (3, .ref ha), (4, .ref nd), (5, .int (nI C)), (6, .int (nI i))] [] w := by
  have hV6 : V ≤ 6 := by
    obtain ⟨t0, _, _, _, -, -, -, -, -, -, -, hIV⟩ := id hI
    exact hIV.2.2.2.1
  have hC10 : C ≤ 10 := by
    obtain ⟨t0, _, _, _, -, -, -, -, -, -, -, hIV⟩ := id hI
    exact hIV.2.2.2.2.1
  refine x_iload F dL_law_379 rfl ?_
  refine x_bipush (v := 60) F dL_law_381 (by decide) ?_
  refine x_icmp_ge F dL_law_383 rfl (fun hc => absurd hc (nI_ge (b := 60) hi60 (by decide))) (fun h383 => ?_)
  refine x_aload_n F dL_law_386 rfl rfl ?_
  refine x_iload F dL_law_387 rfl ?_
  refine x_bipush (v := 16) F dL_law_389 (by decide) ?_
  refine x_irem F dL_law_391 (by decide) ?_
  rw [show nI i - nI i / 16 * 16 = nI (i % 16) from pk_rem (a := i) (d := 16) (by omega) (by decide) (by decide)]
  refine x_cCell F dL_law_392 (x_gS q429 q430 q0 q431) hX hbB (c_cell hbB hL (by omega)) ⟨rfl, rfl, rfl, xd_L_cell, ⟨Nat.le_of_ble_eq_true rfl, Nat.le_of_ble_eq_true rfl⟩, (by show 66 + 10 * i + 0 ≤ 684551; omega), (by show 406 + 60 * i + 0 ≤ 7048046; omega)⟩ (Nat.le_of_ble_eq_true rfl) (fun v1 w1 hp => ?_)
  obtain ⟨⟨cv, rfl⟩, hw9⟩ := hp
  replace hw9 := hw9.symm
  subst hw9
  refine x_iload F dL_law_395 rfl ?_
  refine x_bipush (v := 16) F dL_law_397 (by decide) ?_
  refine x_idiv F dL_law_399 (by decide) ?_
  refine x_iconst (v := 2) F dL_law_400 (by decide) ?_
  refine x_imul F dL_law_401 ?_
  refine x_ishr F dL_law_402 ?_
  refine x_bipush (v := 7) F dL_law_403 (by decide) ?_
  refine x_iload F dL_law_405 rfl ?_
  refine x_imul F dL_law_407 ?_
  refine x_iadd F dL_law_408 ?_
  obtain ⟨x, hx⟩ : ∃ x, x = (cv >>> ((nI i / 16 * 2) &&& 31) + 7 * nI i) := ⟨_, rfl⟩
  rw [← hx]
  refine x_istore F dL_law_409 (by decide) ?_
  refine x_iload F dL_law_411 rfl ?_
  refine x_iconst (v := 3) F dL_law_413 (by decide) ?_
  refine x_ishr F dL_law_414 ?_
  refine x_iload F dL_law_415 rfl ?_
  refine x_cSi2 F dL_law_417 (x_gS q425 q426 q0 q427) (c_below _ hC0 (by omega)) ⟨rfl, rfl, rfl, xd_L_below, ⟨Nat.le_of_ble_eq_true rfl, Nat.le_of_ble_eq_true rfl⟩, (by show 66 + 10 * i + 0 ≤ 684551; omega), (by show 406 + 60 * i + 0 ≤ 7048046; omega)⟩ (Nat.le_of_ble_eq_true rfl) (fun v1 w1 hp => ?_)
  obtain ⟨⟨j, hj, rfl⟩, hw9⟩ := hp
  replace hw9 := hw9.symm
  subst hw9
  refine x_istore F dL_law_420 (by decide) ?_
  refine x_iload F dL_law_422 rfl ?_
  refine x_iconst (v := 5) F dL_law_424 (by decide) ?_
  refine x_ishr F dL_law_425 ?_
  refine x_iload_n F dL_law_426 rfl rfl ?_
  refine x_cSi2 F dL_law_427 (x_gS q425 q426 q0 q427) (c_below _ hV0 (by omega)) ⟨rfl, rfl, rfl, xd_L_below, ⟨Nat.le_of_ble_eq_true rfl, Nat.le_of_ble_eq_true rfl⟩, (by show 66 + 10 * i + 0 ≤ 684551; omega), (by show 406 + 60 * i + 0 ≤ 7048046; omega)⟩ (Nat.le_of_ble_eq_true rfl) (fun v1 w1 hp => ?_)
  obtain ⟨⟨v, hv, rfl⟩, hw9⟩ := hp
  replace hw9 := hw9.symm
  subst hw9
  refine x_istore F dL_law_430 (by decide) ?_
  refine x_iload F dL_law_432 rfl ?_
  refine x_bipush (v := 7) F dL_law_434 (by decide) ?_
  refine x_cSi2 F dL_law_436 (x_gS q425 q426 q0 q427) (c_below _ (d := 7) (by decide) (by decide)) ⟨rfl, rfl, rfl, xd_L_below, ⟨Nat.le_of_ble_eq_true rfl, Nat.le_of_ble_eq_true rfl⟩, (by show 66 + 10 * i + 0 ≤ 684551; omega), (by show 406 + 60 * i + 0 ≤ 7048046; omega)⟩ (Nat.le_of_ble_eq_true rfl) (fun v1 w1 hp => ?_)
  obtain ⟨⟨j7, hj7, rfl⟩, hw9⟩ := hp
  replace hw9 := hw9.symm
  subst hw9
  rcases (show j7 = 0 ∨ j7 = 1 ∨ j7 = 2 ∨ j7 = 3 ∨ j7 = 4 ∨ j7 = 5 ∨ j7 = 6 by omega) with rfl | rfl | rfl | rfl | rfl | rfl | rfl
  · refine x_tableIn (off := 33) (tgt := 472) F dL_law_439 (by decide) (by decide) rfl rfl ?_
    exact x_lk (law_call F hi60 hI hK hR hS hj hv x NEXT) ⟨rfl, rfl, rfl, rfl, rfl, rfl, rfl, rfl, rfl, rfl, trivial⟩
  · refine x_tableIn (off := 33) (tgt := 472) F dL_law_439 (by decide) (by decide) rfl rfl ?_
    exact x_lk (law_call F hi60 hI hK hR hS hj hv x NEXT) ⟨rfl, rfl, rfl, rfl, rfl, rfl, rfl, rfl, rfl, rfl, trivial⟩
  · refine x_tableIn (off := 126) (tgt := 565) F dL_law_439 (by decide) (by decide) rfl rfl ?_
    exact x_lk (law_retire F hi60 hI hK hR hS hj hv x NEXT) ⟨rfl, rfl, rfl, rfl, rfl, rfl, rfl, rfl, rfl, rfl, trivial⟩
  · refine x_tableIn (off := 160) (tgt := 599) F dL_law_439 (by decide) (by decide) rfl rfl ?_
    exact x_lk (law_answer F hi60 hI hK hR hS hj hv x NEXT) ⟨rfl, rfl, rfl, rfl, rfl, rfl, rfl, rfl, rfl, rfl, trivial⟩
  · refine x_tableIn (off := 224) (tgt := 663) F dL_law_439 (by decide) (by decide) rfl rfl ?_
    exact x_lk (law_target F hi60 hI hK hR hS hj hv x NEXT) ⟨rfl, rfl, rfl, rfl, rfl, rfl, rfl, rfl, rfl, rfl, trivial⟩
  · refine x_tableOut (tgt := 719) F dL_law_439 (by decide) rfl ?_
    exact x_lk (law_kind F hi60 hI hK hR hS hj hv x NEXT) ⟨rfl, rfl, rfl, rfl, rfl, rfl, rfl, rfl, rfl, rfl, trivial⟩
  · refine x_tableOut (tgt := 719) F dL_law_439 (by decide) rfl ?_
    exact x_lk (law_kind F hi60 hI hK hR hS hj hv x NEXT) ⟨rfl, rfl, rfl, rfl, rfl, rfl, rfl, rfl, rfl, rfl, trivial⟩
set_option maxRecDepth 100000 in
theorem law_loop (F : x_Fix p s m #[.ref b] meth c cL_law 15 RL xTs rt nm D dA vwCl tyL0 B) (hX : va_X b L xs s s.heap) (hbB : b < B) (hL : L ≤ 260) (hC0 : 0 < C) (hV0 : 0 < V) (EXIT : ∀ K1 J1 w1, Inv K1 V C 60 → KH K1 V H N → Rep Z K1 J1 w1 → SD Z K1 w1 V ha nd H N → X p l e room_1 s m #[.ref b] below meth c Q D dA vwCl B 15 666 4006 737 [(0, .ref b), (1, .ref (Z 0 0)), (2, .int (nI V)), (3, .ref ha), (4, .ref nd), (5, .int (nI C))] [] w1) : ∀ n1 i, i + n1 = 60 → ∀ K J w, Inv K V C i → KH K V H N → Rep Z K J w → SD Z K w V ha nd H N → X p l e room_1 s m #[.ref b] below meth c Q D dA vwCl B 15 (66 + 10 * i) (406 + 60 * i) 379 [(0, .ref b), (1, .ref (Z 0 0)), (2, .int (nI V)), (3, .ref ha), (4, .ref nd), (5, .int (nI C)), (6, .int (nI i))] [] w := by
  intro n1
  induction n1 with
  | zero =>
    intro i hi K J w hI hK hR hS
    obtain rfl : i = 60 := by omega
    refine x_iload F dL_law_379 rfl ?_
    refine x_bipush (v := 60) F dL_law_381 (by decide) ?_
    refine x_icmp_ge F dL_law_383 rfl (fun h383 => ?_) (fun hc => absurd hc (fun q => q (by decide)))
    exact x_widen (by omega) (by omega) (x_lk (EXIT _ _ _ hI hK hR hS) ⟨rfl, rfl, rfl, rfl, rfl, rfl, trivial⟩)
  | succ n1 ih =>
    intro i hi K J w hI hK hR hS
    refine law_step F hX hbB hL (by omega) hC0 hV0 hI hK hR hS (fun K1 J1 w1 hI hK hR hS => ?_)
    refine x_iincN F dL_law_731 (by decide) rfl (by decide) ?_
    refine x_goto F dL_law_734 rfl ?_
    exact x_lk (ih (i + 1) (by omega) _ _ _ hI hK hR hS) ⟨rfl, rfl, rfl, rfl, rfl, rfl, rfl, trivial⟩
theorem lg_same (x : Int64) : lg_cmp x x = 0 := by
  unfold lg_cmp
  simp
set_option maxRecDepth 100000 in
set_option maxHeartbeats 4000000 in
theorem law_end (F : x_Fix p s m #[.ref b] meth c cL_law 15 RL xTs rt nm D dA vwCl tyL0 B) (HRET : ∀ lv w1, X p l e room_1 s m #[.ref b] below meth c Q D dA vwCl B 15 666 4006 937 lv [.int 1] w1) (hI : Inv K V C 60) (hK : KH K V H N) (hR : Rep Z K J w) (hS : SD Z K w V ha nd H N) : X p l e room_1 s m #[.ref b] below meth c Q D dA vwCl B 15 666 4006 737 [(0, .ref b), (1, .ref (Z 0 0)), (2, .int (nI V)), (3, .ref ha), (4, .ref nd), (5, .int (nI C))] [] w := by
  obtain ⟨t0, a1, a2, a3, hG0, ht0, hg1, hg2, hg3, ha1, ha2, hIV⟩ := id hI
  have hV6 : V ≤ 6 := hIV.2.2.2.1
  refine x_aload_n F dL_law_737 rfl rfl ?_
  refine x_cVi0 (ci := 6) (C := RX6) (T := TX6) (N := 12) F dL_law_738 (x_gV q410 q411 q412 q1 q413) rfl (c_digest hR) ⟨rfl, rfl, rfl, xd_X6_digest, ⟨Nat.le_of_ble_eq_true rfl, Nat.le_of_ble_eq_true rfl⟩, Nat.le_of_ble_eq_true rfl, Nat.le_of_ble_eq_true rfl⟩ rfl hR.main (Nat.le_of_ble_eq_true rfl) (fun v1 w1 hp => ?_)
  obtain ⟨J1, rfl, hR, hO⟩ := hp
  have hS := hS.oth (K1 := K) hO rfl
  refine x_lstore F dL_law_741 (by decide) ?_
  refine x_iconst (v := 0) F dL_law_743 (by decide) ?_
  refine x_istore F dL_law_744 (by decide) ?_
  have E1 : ∀ n1 k, k + n1 = V → X p l e room_1 s m #[.ref b] below meth c Q D dA vwCl B 15 666 4006 746 [(0, .ref b), (1, .ref (Z 0 0)), (2, .int (nI V)), (3, .ref ha), (4, .ref nd), (6, .long (f_digest K)), (8, .int (nI k))] [] w1 := by
    intro n1
    induction n1 with
    | zero =>
      intro k hk1
      obtain rfl : V = k := by omega
      refine x_iload F dL_law_746 rfl ?_
      refine x_iload_n F dL_law_748 rfl rfl ?_
      refine x_icmp_ge F dL_law_749 rfl (fun h749 => ?_) (fun hc => absurd hc (fun q => q (Int32.le_refl _)))
      refine x_aload_n F dL_law_864 rfl rfl ?_
      refine x_cVi0 (ci := 6) (C := RX6) (T := TX6) (N := 12) F dL_law_865 (x_gV q410 q411 q412 q1 q413) rfl (c_digest hR) ⟨rfl, rfl, rfl, xd_X6_digest, ⟨Nat.le_of_ble_eq_true rfl, Nat.le_of_ble_eq_true rfl⟩, Nat.le_of_ble_eq_true rfl, Nat.le_of_ble_eq_true rfl⟩ rfl hR.main (Nat.le_of_ble_eq_true rfl) (fun v1 w1 hp => ?_)
      obtain ⟨J2, rfl, hR, hO2⟩ := hp
      refine x_lload F dL_law_868 rfl ?_
      refine x_lcmp F dL_law_870 ?_
      refine x_if_ne F dL_law_871 rfl (fun hc => absurd hc (fun q => q (lg_same _))) (fun h871 => ?_)
      refine x_aload_n F dL_law_874 rfl rfl ?_
      refine x_iconst (v := 2) F dL_law_875 (by decide) ?_
      refine x_cVi1 (ci := 6) (C := RX6) (T := TX6) (N := 12) F dL_law_876 (x_gV q377 q378 q379 q1 q380) rfl (k_many2 hR) ⟨rfl, rfl, rfl, xd_X6_many, ⟨Nat.le_of_ble_eq_true rfl, Nat.le_of_ble_eq_true rfl⟩, Nat.le_of_ble_eq_true rfl, Nat.le_of_ble_eq_true rfl⟩ rfl hR.main (Nat.le_of_ble_eq_true rfl) (fun v1 w1 hp => ?_)
      obtain ⟨rfl, hw9⟩ := hp
      replace hw9 := hw9.symm
      subst hw9
      refine x_aload_n F dL_law_879 rfl rfl ?_
      refine x_iconst (v := 3) F dL_law_880 (by decide) ?_
      refine x_cVi1 (ci := 6) (C := RX6) (T := TX6) (N := 12) F dL_law_881 (x_gV q377 q378 q379 q1 q380) rfl (k_many3 hR) ⟨rfl, rfl, rfl, xd_X6_many, ⟨Nat.le_of_ble_eq_true rfl, Nat.le_of_ble_eq_true rfl⟩, Nat.le_of_ble_eq_true rfl, Nat.le_of_ble_eq_true rfl⟩ rfl hR.main (Nat.le_of_ble_eq_true rfl) (fun v1 w1 hp => ?_)
      obtain ⟨rfl, hw9⟩ := hp
      replace hw9 := hw9.symm
      subst hw9
      refine x_iadd F dL_law_884 ?_
      refine x_aload_n F dL_law_885 rfl rfl ?_
      refine x_iconst (v := 4) F dL_law_886 (by decide) ?_
      refine x_cVi1 (ci := 6) (C := RX6) (T := TX6) (N := 12) F dL_law_887 (x_gV q377 q378 q379 q1 q380) rfl (k_many4 hR) ⟨rfl, rfl, rfl, xd_X6_many, ⟨Nat.le_of_ble_eq_true rfl, Nat.le_of_ble_eq_true rfl⟩, Nat.le_of_ble_eq_true rfl, Nat.le_of_ble_eq_true rfl⟩ rfl hR.main (Nat.le_of_ble_eq_true rfl) (fun v1 w1 hp => ?_)
      obtain ⟨rfl, hw9⟩ := hp
      replace hw9 := hw9.symm
      subst hw9
      refine x_iadd F dL_law_890 ?_
      refine x_iload_n F dL_law_891 rfl rfl ?_
      refine x_icmp_ne F dL_law_892 rfl (fun hc => absurd hc (fun q => q (by rw [nI_add, nI_add, st_count hIV]))) (fun h892 => ?_)
      refine x_aload_n F dL_law_895 rfl rfl ?_
      refine x_bipush (v := 8) F dL_law_896 (by decide) ?_
      refine x_cVi1 (ci := 6) (C := RX6) (T := TX6) (N := 12) F dL_law_898 (x_gV q377 q378 q379 q1 q380) rfl (k_many8 hR) ⟨rfl, rfl, rfl, xd_X6_many, ⟨Nat.le_of_ble_eq_true rfl, Nat.le_of_ble_eq_true rfl⟩, Nat.le_of_ble_eq_true rfl, Nat.le_of_ble_eq_true rfl⟩ rfl hR.main (Nat.le_of_ble_eq_true rfl) (fun v1 w1 hp => ?_)
      obtain ⟨rfl, hw9⟩ := hp
      replace hw9 := hw9.symm
      subst hw9
      refine x_aload_n F dL_law_901 rfl rfl ?_
      refine x_bipush (v := 7) F dL_law_902 (by decide) ?_
      refine x_cVi1 (ci := 6) (C := RX6) (T := TX6) (N := 12) F dL_law_904 (x_gV q377 q378 q379 q1 q380) rfl (k_many7 hR) ⟨rfl, rfl, rfl, xd_X6_many, ⟨Nat.le_of_ble_eq_true rfl, Nat.le_of_ble_eq_true rfl⟩, Nat.le_of_ble_eq_true rfl, Nat.le_of_ble_eq_true rfl⟩ rfl hR.main (Nat.le_of_ble_eq_true rfl) (fun v1 w1 hp => ?_)
      obtain ⟨rfl, hw9⟩ := hp
      replace hw9 := hw9.symm
      subst hw9
      refine x_icmp_gt F dL_law_907 rfl (fun hc => absurd hc (by rw [hg1, hg2]; exact nI_nlt (by omega) (by omega))) (fun h907 => ?_)
      refine x_aload_n F dL_law_910 rfl rfl ?_
      refine x_bipush (v := 9) F dL_law_911 (by decide) ?_
      refine x_cVi1 (ci := 6) (C := RX6) (T := TX6) (N := 12) F dL_law_913 (x_gV q377 q378 q379 q1 q380) rfl (k_many9 hR) ⟨rfl, rfl, rfl, xd_X6_many, ⟨Nat.le_of_ble_eq_true rfl, Nat.le_of_ble_eq_true rfl⟩, Nat.le_of_ble_eq_true rfl, Nat.le_of_ble_eq_true rfl⟩ rfl hR.main (Nat.le_of_ble_eq_true rfl) (fun v1 w1 hp => ?_)
      obtain ⟨rfl, hw9⟩ := hp
      replace hw9 := hw9.symm
      subst hw9
      refine x_aload_n F dL_law_916 rfl rfl ?_
      refine x_bipush (v := 7) F dL_law_917 (by decide) ?_
      refine x_cVi1 (ci := 6) (C := RX6) (T := TX6) (N := 12) F dL_law_919 (x_gV q377 q378 q379 q1 q380) rfl (k_many7 hR) ⟨rfl, rfl, rfl, xd_X6_many, ⟨Nat.le_of_ble_eq_true rfl, Nat.le_of_ble_eq_true rfl⟩, Nat.le_of_ble_eq_true rfl, Nat.le_of_ble_eq_true rfl⟩ rfl hR.main (Nat.le_of_ble_eq_true rfl) (fun v1 w1 hp => ?_)
      obtain ⟨rfl, hw9⟩ := hp
      replace hw9 := hw9.symm
      subst hw9
      refine x_aload_n F dL_law_922 rfl rfl ?_
      refine x_bipush (v := 8) F dL_law_923 (by decide) ?_
      refine x_cVi1 (ci := 6) (C := RX6) (T := TX6) (N := 12) F dL_law_925 (x_gV q377 q378 q379 q1 q380) rfl (k_many8 hR) ⟨rfl, rfl, rfl, xd_X6_many, ⟨Nat.le_of_ble_eq_true rfl, Nat.le_of_ble_eq_true rfl⟩, Nat.le_of_ble_eq_true rfl, Nat.le_of_ble_eq_true rfl⟩ rfl hR.main (Nat.le_of_ble_eq_true rfl) (fun v1 w1 hp => ?_)
      obtain ⟨rfl, hw9⟩ := hp
      replace hw9 := hw9.symm
      subst hw9
      refine x_isub F dL_law_928 ?_
      refine x_icmp_gt F dL_law_929 rfl (fun hc => absurd hc (by rw [hg1, hg2, hg3, pk_sub (by omega)]; exact nI_nlt (by omega) (by omega))) (fun h929 => ?_)
      refine x_iconst (v := 1) F dL_law_932 (by decide) ?_
      refine x_goto F dL_law_933 rfl ?_
      exact HRET _ _
    | succ n1 ih =>
      intro k hk1
      have hk : k < V := by omega
      refine x_iload F dL_law_746 rfl ?_
      refine x_iload_n F dL_law_748 rfl rfl ?_
      refine x_icmp_ge F dL_law_749 rfl (fun hc => absurd hc (nI_ge hk (by omega))) (fun h749 => ?_)
      refine x_iconst (v := 0) F dL_law_752 (by decide) ?_
      refine x_istore F dL_law_753 (by decide) ?_
      have E2 : ∀ n2 o, o + n2 = V → X p l e room_1 s m #[.ref b] below meth c Q D dA vwCl B 15 666 4006 755 [(0, .ref b), (1, .ref (Z 0 0)), (2, .int (nI V)), (3, .ref ha), (4, .ref nd), (6, .long (f_digest K)), (8, .int (nI k)), (9, .int (nI o))] [] w1 := by
        intro n2
        induction n2 with
        | zero =>
          intro o ho1
          obtain rfl : V = o := by omega
          refine x_iload F dL_law_755 rfl ?_
          refine x_iload_n F dL_law_757 rfl rfl ?_
          refine x_icmp_ge F dL_law_758 rfl (fun h758 => ?_) (fun hc => absurd hc (fun q => q (Int32.le_refl _)))
          refine x_iincN F dL_law_858 (by decide) rfl (by decide) ?_
          refine x_goto F dL_law_861 rfl ?_
          exact x_lk (ih (k + 1) (by omega)) ⟨rfl, rfl, rfl, rfl, rfl, rfl, rfl, trivial⟩
        | succ n2 ih2 =>
          intro o ho1
          have ho : o < V := by omega
          refine x_iload F dL_law_755 rfl ?_
          refine x_iload_n F dL_law_757 rfl rfl ?_
          refine x_icmp_ge F dL_law_758 rfl (fun hc => absurd hc (nI_ge ho (by omega))) (fun h758 => ?_)
          refine x_aload_n F dL_law_761 rfl rfl ?_
          refine x_iconst (v := 0) F dL_law_762 (by decide) ?_
          refine x_iload F dL_law_763 rfl ?_
          refine x_iload F dL_law_765 rfl ?_
          refine x_cVi3 (ci := 6) (C := RX6) (T := TX6) (N := 12) F dL_law_767 (x_gV q228 q229 q230 q1 q231) rfl (k_compat hIV hK hR hk ho) ⟨rfl, rfl, rfl, xd_X6_isCompatible, ⟨Nat.le_of_ble_eq_true rfl, Nat.le_of_ble_eq_true rfl⟩, Nat.le_of_ble_eq_true rfl, Nat.le_of_ble_eq_true rfl⟩ rfl hR.main (Nat.le_of_ble_eq_true rfl) (fun v1 w1 hp => ?_)
          obtain ⟨rfl, hw9⟩ := hp
          replace hw9 := hw9.symm
          subst hw9
          refine x_if_eq F dL_law_770 rfl (fun h770 => ?_) (fun h770 => ?_)
          · refine x_iincN F dL_law_852 (by decide) rfl (by decide) ?_
            refine x_goto F dL_law_855 rfl ?_
            exact x_lk (ih2 (o + 1) (by omega)) ⟨rfl, rfl, rfl, rfl, rfl, rfl, rfl, rfl, trivial⟩
          · have hsu := x_b_ne.mp h770
            refine x_iconst (v := 0) F dL_law_773 (by decide) ?_
            refine x_istore F dL_law_774 (by decide) ?_
            have E3 : ∀ n3 q, q + n3 = 256 → X p l e room_1 s m #[.ref b] below meth c Q D dA vwCl B 15 666 4006 776 [(0, .ref b), (1, .ref (Z 0 0)), (2, .int (nI V)), (3, .ref ha), (4, .ref nd), (6, .long (f_digest K)), (8, .int (nI k)), (9, .int (nI o)), (10, .int (nI q))] [] w1 := by
              intro n3
              induction n3 with
              | zero =>
                intro q hq1
                obtain rfl : q = 256 := by omega
                refine x_iload F dL_law_776 rfl ?_
                refine x_sipush (v := 256) F dL_law_778 (by decide) ?_
                refine x_icmp_ge F dL_law_781 rfl (fun h781 => ?_) (fun hc => absurd hc (fun q => q (by decide)))
                refine x_iincN F dL_law_852 (by decide) rfl (by decide) ?_
                refine x_goto F dL_law_855 rfl ?_
                exact x_lk (ih2 (o + 1) (by omega)) ⟨rfl, rfl, rfl, rfl, rfl, rfl, rfl, rfl, trivial⟩
              | succ n3 ih3 =>
                intro q hq1
                refine x_iload F dL_law_776 rfl ?_
                refine x_sipush (v := 256) F dL_law_778 (by decide) ?_
                refine x_icmp_ge F dL_law_781 rfl (fun hc => absurd hc (nI_ge (b := 256) (by omega) (by decide))) (fun h781 => ?_)
                refine x_iload F dL_law_784 rfl ?_
                refine x_aload_n F dL_law_786 rfl rfl ?_
                refine x_iload F dL_law_787 rfl ?_
                refine x_ialdN F dL_law_789 rfl hS.1 ho (by omega) ?_
                refine x_ior F dL_law_790 ?_
                refine x_aload_n F dL_law_791 rfl rfl ?_
                refine x_iload F dL_law_792 rfl ?_
                refine x_ialdN F dL_law_794 rfl hS.1 ho (by omega) ?_
                refine x_icmp_ne F dL_law_795 rfl (fun h795 => ?_) (fun h795 => ?_)
                · refine x_iincN F dL_law_846 (by decide) rfl (by decide) ?_
                  refine x_goto F dL_law_849 rfl ?_
                  exact x_lk (ih3 (q + 1) (by omega)) ⟨rfl, rfl, rfl, rfl, rfl, rfl, rfl, rfl, rfl, trivial⟩
                · refine x_iload F dL_law_798 rfl ?_
                  refine x_aload F dL_law_800 rfl ?_
                  refine x_iload F dL_law_802 rfl ?_
                  refine x_ialdN F dL_law_804 rfl hS.2.1 ho (by omega) ?_
                  refine x_iand F dL_law_805 ?_
                  refine x_aload F dL_law_806 rfl ?_
                  refine x_iload F dL_law_808 rfl ?_
                  refine x_ialdN F dL_law_810 rfl hS.2.1 ho (by omega) ?_
                  refine x_icmp_ne F dL_law_811 rfl (fun h811 => ?_) (fun h811 => ?_)
                  · refine x_iincN F dL_law_846 (by decide) rfl (by decide) ?_
                    refine x_goto F dL_law_849 rfl ?_
                    exact x_lk (ih3 (q + 1) (by omega)) ⟨rfl, rfl, rfl, rfl, rfl, rfl, rfl, rfl, rfl, trivial⟩
                  · refine x_iload F dL_law_814 rfl ?_
                    refine x_aload_n F dL_law_816 rfl rfl ?_
                    refine x_iload F dL_law_817 rfl ?_
                    refine x_ialdN F dL_law_819 rfl hS.1 hk (by omega) ?_
                    refine x_ior F dL_law_820 ?_
                    refine x_aload_n F dL_law_821 rfl rfl ?_
                    refine x_iload F dL_law_822 rfl ?_
                    refine x_ialdN F dL_law_824 rfl hS.1 hk (by omega) ?_
                    refine x_icmp_ne F dL_law_825 rfl (fun hc => absurd hc (fun z => z (suits_all hsu h795 h811).1)) (fun h825 => ?_)
                    refine x_iload F dL_law_828 rfl ?_
                    refine x_aload F dL_law_830 rfl ?_
                    refine x_iload F dL_law_832 rfl ?_
                    refine x_ialdN F dL_law_834 rfl hS.2.1 hk (by omega) ?_
                    refine x_iand F dL_law_835 ?_
                    refine x_aload F dL_law_836 rfl ?_
                    refine x_iload F dL_law_838 rfl ?_
                    refine x_ialdN F dL_law_840 rfl hS.2.1 hk (by omega) ?_
                    refine x_icmp_eq F dL_law_841 rfl (fun h841 => ?_) (fun hc => absurd hc (fun z => z (suits_all hsu h795 h811).2))
                    refine x_iincN F dL_law_846 (by decide) rfl (by decide) ?_
                    refine x_goto F dL_law_849 rfl ?_
                    exact x_lk (ih3 (q + 1) (by omega)) ⟨rfl, rfl, rfl, rfl, rfl, rfl, rfl, rfl, rfl, trivial⟩
            exact x_lk (E3 256 0 (by omega)) ⟨rfl, rfl, rfl, rfl, rfl, rfl, rfl, rfl, rfl, trivial⟩
      exact x_lk (E2 V 0 (by omega)) ⟨rfl, rfl, rfl, rfl, rfl, rfl, rfl, rfl, trivial⟩
  exact x_lk (E1 V 0 (by omega)) ⟨rfl, rfl, rfl, rfl, rfl, rfl, rfl, trivial⟩
end LOOP
