/-! ===== the law: one step ===== -/
section STEP
variable {p : Program} {l : Launch} {e : Env} {s : State} {m : MethodId} {below : List Frame} {meth : Method} {c : Code} {Q : State → Prop}
variable {D : va_G} {dA : Nat → ClassId} {B : Nat} {Z : Nat → Nat → Nat} {K : kT} {J : jT} {w : xW} {rt : Option FieldType} {nm : String} {b L : Nat} {xs : Nat → Int32} {V C ha nd i : Nat} {H N : Nat → Int32}
set_option maxRecDepth 100000 in
set_option maxHeartbeats 4000000 in
theorem law_call (F : x_Fix p s m #[.ref b] meth c cL_law 15 RL xTs rt nm D dA vwCl tyL0 B) (hi60 : i < 60) (hI : Inv K V C i) (hK : KH K V H N) (hR : Rep Z K J w) (hS : SD Z K w V ha nd H N) {j v : Nat} (hj : j < C) (hv : v < V) (x : Int32) (NEXT : ∀ K1 J1 w1, Inv K1 V C (i + 1) → KH K1 V H N → Rep Z K1 J1 w1 → SD Z K1 w1 V ha nd H N → X p l e room_1 s m #[.ref b] below meth c Q D dA vwCl B 15 (66 + 10 * i + 10) (406 + 60 * i + 60) 731 [(0, .ref b), (1, .ref (Z 0 0)), (2, .int (nI V)), (3, .ref ha), (4, .ref nd), (5, .int (nI C)), (6, .int (nI i))] [] w1) : X p l e room_1 s m #[.ref b] below meth c Q D dA vwCl B 15 (66 + 10 * i) (406 + 60 * i) 472 [(0, .ref b), (1, .ref (Z 0 0)), (2, .int (nI V)), (3, .ref ha), (4, .ref nd), (5, .int (nI C)), (6, .int (nI i)), (7, .int x), (8, .int (nI j)), (9, .int (nI v))] [] w := by
  have hI0 := hI
  obtain ⟨t0, _, _, _, hG0, ht0, -, -, -, -, -, hIV⟩ := id hI
  have hV6 : V ≤ 6 := hIV.2.2.2.1
  have hC10 : C ≤ 10 := hIV.2.2.2.2.1
  have hncj : j < nc K := by rw [hIV.2.2.1]; exact hj
  have hvv : vOk K v := hIV.vok hv
  have hO : Oth Z K w w := Oth.rfl
  have hIV1 : IV (f_serve K j) V C t0 := hIV.serve (by omega) hG0 hj
  have hcv : kCV (f_serve K j) j < V := (hIV1.2.2.2.2.2.1 j hj).1
  have hwo := svo_eq hIV (by omega) hG0 hj
  cases hsv : f_svb K j
  · have hw2 : 2 ≤ f_ocin K j 0 := by
      rw [hwo]
      refine Int32.not_lt.mp (fun q => ?_)
      rw [svo_lt, hsv] at q
      cases q
    refine x_aload_n F dL_law_472 rfl rfl ?_
    refine x_iload F dL_law_473 rfl ?_
    refine x_iconst (v := 0) F dL_law_475 (by decide) ?_
    refine x_cVi2 (ci := 6) (C := RX6) (T := TX6) (N := 12) F dL_law_476 (x_gV q387 q388 q389 q1 q390) rfl (k_come0 hR hncj) ⟨rfl, rfl, rfl, xd_X6_wouldCome, ⟨Nat.le_of_ble_eq_true rfl, Nat.le_of_ble_eq_true rfl⟩, (by show 66 + 10 * i + 0 ≤ 684551; omega), (by show 406 + 60 * i + 0 ≤ 7048046; omega)⟩ rfl hR.main (Nat.le_of_ble_eq_true rfl) (fun v1 w1 hp => ?_)
    obtain ⟨J2, rfl, hR, hO2⟩ := hp
    have hO := hO.trans hO2 rfl
    refine x_istore F dL_law_479 (by decide) ?_
    refine x_aload_n F dL_law_481 rfl rfl ?_
    refine x_bipush (v := 7) F dL_law_482 (by decide) ?_
    refine x_cVi1 (ci := 6) (C := RX6) (T := TX6) (N := 12) F dL_law_484 (x_gV q377 q378 q379 q1 q380) rfl (k_many7 hR) ⟨rfl, rfl, rfl, xd_X6_many, ⟨Nat.le_of_ble_eq_true rfl, Nat.le_of_ble_eq_true rfl⟩, (by show 66 + 10 * i + 0 ≤ 684551; omega), (by show 406 + 60 * i + 0 ≤ 7048046; omega)⟩ rfl hR.main (Nat.le_of_ble_eq_true rfl) (fun v1 w1 hp => ?_)
    obtain ⟨rfl, hw9⟩ := hp
    replace hw9 := hw9.symm
    subst hw9
    refine x_aload_n F dL_law_487 rfl rfl ?_
    refine x_bipush (v := 8) F dL_law_488 (by decide) ?_
    refine x_cVi1 (ci := 6) (C := RX6) (T := TX6) (N := 12) F dL_law_490 (x_gV q377 q378 q379 q1 q380) rfl (k_many8 hR) ⟨rfl, rfl, rfl, xd_X6_many, ⟨Nat.le_of_ble_eq_true rfl, Nat.le_of_ble_eq_true rfl⟩, (by show 66 + 10 * i + 0 ≤ 684551; omega), (by show 406 + 60 * i + 0 ≤ 7048046; omega)⟩ rfl hR.main (Nat.le_of_ble_eq_true rfl) (fun v1 w1 hp => ?_)
    obtain ⟨rfl, hw9⟩ := hp
    replace hw9 := hw9.symm
    subst hw9
    refine x_isub F dL_law_493 ?_
    refine x_istore F dL_law_494 (by decide) ?_
    refine x_aload_n F dL_law_496 rfl rfl ?_
    refine x_iload F dL_law_497 rfl ?_
    refine x_iconst (v := 1) F dL_law_499 (by decide) ?_
    refine x_cVi2 (ci := 6) (C := RX6) (T := TX6) (N := 12) F dL_law_500 (x_gV q308 q309 q310 q1 q311) rfl (c_call1 hR hncj) ⟨rfl, rfl, rfl, xd_X6_call, ⟨Nat.le_of_ble_eq_true rfl, Nat.le_of_ble_eq_true rfl⟩, (by show 66 + 10 * i + 0 ≤ 684551; omega), (by show 406 + 60 * i + 0 ≤ 7048046; omega)⟩ rfl hR.main (Nat.le_of_ble_eq_true rfl) (fun v1 w1 hp => ?_)
    obtain ⟨J2, rfl, hR, hO2⟩ := hp
    have hO := hO.trans hO2 rfl
    refine x_iload F dL_law_503 rfl ?_
    refine x_iconst (v := 2) F dL_law_505 (by decide) ?_
    refine x_icmp_ge F dL_law_506 rfl (fun h506 => ?_) (fun hc => absurd hc (fun q => q hw2))
    refine x_iconst (v := 0) F dL_law_513 (by decide) ?_
    refine x_icmp_ne F dL_law_514 rfl (fun hc => absurd hc (fun q => q (by rw [hsv]; rfl))) (fun h514 => ?_)
    refine x_aload_n F dL_law_517 rfl rfl ?_
    refine x_bipush (v := 7) F dL_law_518 (by decide) ?_
    refine x_cVi1 (ci := 6) (C := RX6) (T := TX6) (N := 12) F dL_law_520 (x_gV q377 q378 q379 q1 q380) rfl (k_many7 hR) ⟨rfl, rfl, rfl, xd_X6_many, ⟨Nat.le_of_ble_eq_true rfl, Nat.le_of_ble_eq_true rfl⟩, (by show 66 + 10 * i + 0 ≤ 684551; omega), (by show 406 + 60 * i + 0 ≤ 7048046; omega)⟩ rfl hR.main (Nat.le_of_ble_eq_true rfl) (fun v1 w1 hp => ?_)
    obtain ⟨rfl, hw9⟩ := hp
    replace hw9 := hw9.symm
    subst hw9
    refine x_aload_n F dL_law_523 rfl rfl ?_
    refine x_bipush (v := 8) F dL_law_524 (by decide) ?_
    refine x_cVi1 (ci := 6) (C := RX6) (T := TX6) (N := 12) F dL_law_526 (x_gV q377 q378 q379 q1 q380) rfl (k_many8 hR) ⟨rfl, rfl, rfl, xd_X6_many, ⟨Nat.le_of_ble_eq_true rfl, Nat.le_of_ble_eq_true rfl⟩, (by show 66 + 10 * i + 0 ≤ 684551; omega), (by show 406 + 60 * i + 0 ≤ 7048046; omega)⟩ rfl hR.main (Nat.le_of_ble_eq_true rfl) (fun v1 w1 hp => ?_)
    obtain ⟨rfl, hw9⟩ := hp
    replace hw9 := hw9.symm
    subst hw9
    refine x_isub F dL_law_529 ?_
    refine x_iload F dL_law_530 rfl ?_
    refine x_iload F dL_law_532 rfl ?_
    refine x_iconst (v := 2) F dL_law_534 (by decide) ?_
    refine x_icmp_ge F dL_law_535 rfl (fun h535 => ?_) (fun hc => absurd hc (fun q => q hw2))
    refine x_iconst (v := 0) F dL_law_542 (by decide) ?_
    refine x_iadd F dL_law_543 ?_
    refine x_icmp_ne F dL_law_544 rfl (fun hc => absurd hc (fun q => q (by rw [serve_diff hI (by omega) hj, hsv]; rfl))) (fun h544 => ?_)
    refine x_aload_n F dL_law_547 rfl rfl ?_
    refine x_iload F dL_law_548 rfl ?_
    refine x_aload_n F dL_law_550 rfl rfl ?_
    refine x_iload F dL_law_551 rfl ?_
    refine x_iconst (v := 2) F dL_law_553 (by decide) ?_
    refine x_cVi2 (ci := 6) (C := RX6) (T := TX6) (N := 12) F dL_law_554 (x_gV q298 q299 q300 q1 q301) rfl (k_cli2 hIV1 hR hj) ⟨rfl, rfl, rfl, xd_X6_ofClient, ⟨Nat.le_of_ble_eq_true rfl, Nat.le_of_ble_eq_true rfl⟩, (by show 66 + 10 * i + 0 ≤ 684551; omega), (by show 406 + 60 * i + 0 ≤ 7048046; omega)⟩ rfl hR.main (Nat.le_of_ble_eq_true rfl) (fun v1 w1 hp => ?_)
    obtain ⟨J2, rfl, hR, hO2⟩ := hp
    have hO := hO.trans hO2 (rfl : kN (f_serve K j) = kN K)
    refine x_cVi2 (ci := 6) (C := RX6) (T := TX6) (N := 12) F dL_law_557 (x_gV q341 q342 q343 q1 q344) rfl (k_last hIV1 hR hj hcv) ⟨rfl, rfl, rfl, xd_X6_lastCall, ⟨Nat.le_of_ble_eq_true rfl, Nat.le_of_ble_eq_true rfl⟩, (by show 66 + 10 * i + 0 ≤ 684551; omega), (by show 406 + 60 * i + 0 ≤ 7048046; omega)⟩ rfl hR.main (Nat.le_of_ble_eq_true rfl) (fun v1 w1 hp => ?_)
    obtain ⟨rfl, hw9⟩ := hp
    replace hw9 := hw9.symm
    subst hw9
    refine x_if_eq F dL_law_560 rfl (fun h560 => ?_) (fun hc => absurd hc (fun q => q (serve_since hI (by omega) hj)))
    exact x_widen (by omega) (by omega) (x_lk (NEXT _ _ _ (hI.serve (by omega) hj) (hK.serve j) hR (hS.oth hO rfl)) ⟨rfl, rfl, rfl, rfl, rfl, rfl, rfl, trivial⟩)
  · have hw2 : ¬ 2 ≤ f_ocin K j 0 := by
      rw [hwo]
      exact Int32.not_le.mpr ((svo_lt K j).mpr hsv)
    refine x_aload_n F dL_law_472 rfl rfl ?_
    refine x_iload F dL_law_473 rfl ?_
    refine x_iconst (v := 0) F dL_law_475 (by decide) ?_
    refine x_cVi2 (ci := 6) (C := RX6) (T := TX6) (N := 12) F dL_law_476 (x_gV q387 q388 q389 q1 q390) rfl (k_come0 hR hncj) ⟨rfl, rfl, rfl, xd_X6_wouldCome, ⟨Nat.le_of_ble_eq_true rfl, Nat.le_of_ble_eq_true rfl⟩, (by show 66 + 10 * i + 0 ≤ 684551; omega), (by show 406 + 60 * i + 0 ≤ 7048046; omega)⟩ rfl hR.main (Nat.le_of_ble_eq_true rfl) (fun v1 w1 hp => ?_)
    obtain ⟨J2, rfl, hR, hO2⟩ := hp
    have hO := hO.trans hO2 rfl
    refine x_istore F dL_law_479 (by decide) ?_
    refine x_aload_n F dL_law_481 rfl rfl ?_
    refine x_bipush (v := 7) F dL_law_482 (by decide) ?_
    refine x_cVi1 (ci := 6) (C := RX6) (T := TX6) (N := 12) F dL_law_484 (x_gV q377 q378 q379 q1 q380) rfl (k_many7 hR) ⟨rfl, rfl, rfl, xd_X6_many, ⟨Nat.le_of_ble_eq_true rfl, Nat.le_of_ble_eq_true rfl⟩, (by show 66 + 10 * i + 0 ≤ 684551; omega), (by show 406 + 60 * i + 0 ≤ 7048046; omega)⟩ rfl hR.main (Nat.le_of_ble_eq_true rfl) (fun v1 w1 hp => ?_)
    obtain ⟨rfl, hw9⟩ := hp
    replace hw9 := hw9.symm
    subst hw9
    refine x_aload_n F dL_law_487 rfl rfl ?_
    refine x_bipush (v := 8) F dL_law_488 (by decide) ?_
    refine x_cVi1 (ci := 6) (C := RX6) (T := TX6) (N := 12) F dL_law_490 (x_gV q377 q378 q379 q1 q380) rfl (k_many8 hR) ⟨rfl, rfl, rfl, xd_X6_many, ⟨Nat.le_of_ble_eq_true rfl, Nat.le_of_ble_eq_true rfl⟩, (by show 66 + 10 * i + 0 ≤ 684551; omega), (by show 406 + 60 * i + 0 ≤ 7048046; omega)⟩ rfl hR.main (Nat.le_of_ble_eq_true rfl) (fun v1 w1 hp => ?_)
    obtain ⟨rfl, hw9⟩ := hp
    replace hw9 := hw9.symm
    subst hw9
    refine x_isub F dL_law_493 ?_
    refine x_istore F dL_law_494 (by decide) ?_
    refine x_aload_n F dL_law_496 rfl rfl ?_
    refine x_iload F dL_law_497 rfl ?_
    refine x_iconst (v := 1) F dL_law_499 (by decide) ?_
    refine x_cVi2 (ci := 6) (C := RX6) (T := TX6) (N := 12) F dL_law_500 (x_gV q308 q309 q310 q1 q311) rfl (c_call1 hR hncj) ⟨rfl, rfl, rfl, xd_X6_call, ⟨Nat.le_of_ble_eq_true rfl, Nat.le_of_ble_eq_true rfl⟩, (by show 66 + 10 * i + 0 ≤ 684551; omega), (by show 406 + 60 * i + 0 ≤ 7048046; omega)⟩ rfl hR.main (Nat.le_of_ble_eq_true rfl) (fun v1 w1 hp => ?_)
    obtain ⟨J2, rfl, hR, hO2⟩ := hp
    have hO := hO.trans hO2 rfl
    refine x_iload F dL_law_503 rfl ?_
    refine x_iconst (v := 2) F dL_law_505 (by decide) ?_
    refine x_icmp_ge F dL_law_506 rfl (fun hc => absurd hc hw2) (fun h506 => ?_)
    refine x_iconst (v := 1) F dL_law_509 (by decide) ?_
    refine x_goto F dL_law_510 rfl ?_
    refine x_icmp_ne F dL_law_514 rfl (fun hc => absurd hc (fun q => q (by rw [hsv]; rfl))) (fun h514 => ?_)
    refine x_aload_n F dL_law_517 rfl rfl ?_
    refine x_bipush (v := 7) F dL_law_518 (by decide) ?_
    refine x_cVi1 (ci := 6) (C := RX6) (T := TX6) (N := 12) F dL_law_520 (x_gV q377 q378 q379 q1 q380) rfl (k_many7 hR) ⟨rfl, rfl, rfl, xd_X6_many, ⟨Nat.le_of_ble_eq_true rfl, Nat.le_of_ble_eq_true rfl⟩, (by show 66 + 10 * i + 0 ≤ 684551; omega), (by show 406 + 60 * i + 0 ≤ 7048046; omega)⟩ rfl hR.main (Nat.le_of_ble_eq_true rfl) (fun v1 w1 hp => ?_)
    obtain ⟨rfl, hw9⟩ := hp
    replace hw9 := hw9.symm
    subst hw9
    refine x_aload_n F dL_law_523 rfl rfl ?_
    refine x_bipush (v := 8) F dL_law_524 (by decide) ?_
    refine x_cVi1 (ci := 6) (C := RX6) (T := TX6) (N := 12) F dL_law_526 (x_gV q377 q378 q379 q1 q380) rfl (k_many8 hR) ⟨rfl, rfl, rfl, xd_X6_many, ⟨Nat.le_of_ble_eq_true rfl, Nat.le_of_ble_eq_true rfl⟩, (by show 66 + 10 * i + 0 ≤ 684551; omega), (by show 406 + 60 * i + 0 ≤ 7048046; omega)⟩ rfl hR.main (Nat.le_of_ble_eq_true rfl) (fun v1 w1 hp => ?_)
    obtain ⟨rfl, hw9⟩ := hp
    replace hw9 := hw9.symm
    subst hw9
    refine x_isub F dL_law_529 ?_
    refine x_iload F dL_law_530 rfl ?_
    refine x_iload F dL_law_532 rfl ?_
    refine x_iconst (v := 2) F dL_law_534 (by decide) ?_
    refine x_icmp_ge F dL_law_535 rfl (fun hc => absurd hc hw2) (fun h535 => ?_)
    refine x_iconst (v := 1) F dL_law_538 (by decide) ?_
    refine x_goto F dL_law_539 rfl ?_
    refine x_iadd F dL_law_543 ?_
    refine x_icmp_ne F dL_law_544 rfl (fun hc => absurd hc (fun q => q (by rw [serve_diff hI (by omega) hj, hsv]; rfl))) (fun h544 => ?_)
    refine x_aload_n F dL_law_547 rfl rfl ?_
    refine x_iload F dL_law_548 rfl ?_
    refine x_aload_n F dL_law_550 rfl rfl ?_
    refine x_iload F dL_law_551 rfl ?_
    refine x_iconst (v := 2) F dL_law_553 (by decide) ?_
    refine x_cVi2 (ci := 6) (C := RX6) (T := TX6) (N := 12) F dL_law_554 (x_gV q298 q299 q300 q1 q301) rfl (k_cli2 hIV1 hR hj) ⟨rfl, rfl, rfl, xd_X6_ofClient, ⟨Nat.le_of_ble_eq_true rfl, Nat.le_of_ble_eq_true rfl⟩, (by show 66 + 10 * i + 0 ≤ 684551; omega), (by show 406 + 60 * i + 0 ≤ 7048046; omega)⟩ rfl hR.main (Nat.le_of_ble_eq_true rfl) (fun v1 w1 hp => ?_)
    obtain ⟨J2, rfl, hR, hO2⟩ := hp
    have hO := hO.trans hO2 (rfl : kN (f_serve K j) = kN K)
    refine x_cVi2 (ci := 6) (C := RX6) (T := TX6) (N := 12) F dL_law_557 (x_gV q341 q342 q343 q1 q344) rfl (k_last hIV1 hR hj hcv) ⟨rfl, rfl, rfl, xd_X6_lastCall, ⟨Nat.le_of_ble_eq_true rfl, Nat.le_of_ble_eq_true rfl⟩, (by show 66 + 10 * i + 0 ≤ 684551; omega), (by show 406 + 60 * i + 0 ≤ 7048046; omega)⟩ rfl hR.main (Nat.le_of_ble_eq_true rfl) (fun v1 w1 hp => ?_)
    obtain ⟨rfl, hw9⟩ := hp
    replace hw9 := hw9.symm
    subst hw9
    refine x_if_eq F dL_law_560 rfl (fun h560 => ?_) (fun hc => absurd hc (fun q => q (serve_since hI (by omega) hj)))
    exact x_widen (by omega) (by omega) (x_lk (NEXT _ _ _ (hI.serve (by omega) hj) (hK.serve j) hR (hS.oth hO rfl)) ⟨rfl, rfl, rfl, rfl, rfl, rfl, rfl, trivial⟩)
set_option maxRecDepth 100000 in
set_option maxHeartbeats 4000000 in
theorem law_retire (F : x_Fix p s m #[.ref b] meth c cL_law 15 RL xTs rt nm D dA vwCl tyL0 B) (hi60 : i < 60) (hI : Inv K V C i) (hK : KH K V H N) (hR : Rep Z K J w) (hS : SD Z K w V ha nd H N) {j v : Nat} (hj : j < C) (hv : v < V) (x : Int32) (NEXT : ∀ K1 J1 w1, Inv K1 V C (i + 1) → KH K1 V H N → Rep Z K1 J1 w1 → SD Z K1 w1 V ha nd H N → X p l e room_1 s m #[.ref b] below meth c Q D dA vwCl B 15 (66 + 10 * i + 10) (406 + 60 * i + 60) 731 [(0, .ref b), (1, .ref (Z 0 0)), (2, .int (nI V)), (3, .ref ha), (4, .ref nd), (5, .int (nI C)), (6, .int (nI i))] [] w1) : X p l e room_1 s m #[.ref b] below meth c Q D dA vwCl B 15 (66 + 10 * i) (406 + 60 * i) 565 [(0, .ref b), (1, .ref (Z 0 0)), (2, .int (nI V)), (3, .ref ha), (4, .ref nd), (5, .int (nI C)), (6, .int (nI i)), (7, .int x), (8, .int (nI j)), (9, .int (nI v))] [] w := by
  have hI0 := hI
  obtain ⟨t0, _, _, _, hG0, ht0, -, -, -, -, -, hIV⟩ := id hI
  have hV6 : V ≤ 6 := hIV.2.2.2.1
  have hC10 : C ≤ 10 := hIV.2.2.2.2.1
  have hncj : j < nc K := by rw [hIV.2.2.1]; exact hj
  have hvv : vOk K v := hIV.vok hv
  have hO : Oth Z K w w := Oth.rfl
  refine x_aload_n F dL_law_565 rfl rfl ?_
  refine x_iconst (v := 0) F dL_law_566 (by decide) ?_
  refine x_iload F dL_law_567 rfl ?_
  refine x_iconst (v := 2) F dL_law_569 (by decide) ?_
  refine x_cVi3 (ci := 6) (C := RX6) (T := TX6) (N := 12) F dL_law_570 (x_gV q173 q174 q175 q1 q176) rfl (k_ver2 hR hvv (by omega)) ⟨rfl, rfl, rfl, xd_X6_ofVersion, ⟨Nat.le_of_ble_eq_true rfl, Nat.le_of_ble_eq_true rfl⟩, (by show 66 + 10 * i + 0 ≤ 684551; omega), (by show 406 + 60 * i + 0 ≤ 7048046; omega)⟩ rfl hR.main (Nat.le_of_ble_eq_true rfl) (fun v1 w1 hp => ?_)
  obtain ⟨J2, rfl, hR, hO2⟩ := hp
  have hO := hO.trans hO2 rfl
  refine x_if_ne F dL_law_573 rfl (fun h573 => ?_) (fun h573 => ?_)
  · first
      | (have hE := h573 rfl; exact hE.elim)
      | exact x_widen (by omega) (by omega) (x_lk (NEXT _ _ _ (hI.le (by omega)) hK hR (hS.oth hO rfl)) ⟨rfl, rfl, rfl, rfl, rfl, rfl, rfl, trivial⟩)
      | exact x_widen (by omega) (by omega) (x_lk (NEXT _ _ _ (hI.retire (by omega) hv (by omega) (by omega)) (hK.retire v _) hR (hS.oth hO rfl)) ⟨rfl, rfl, rfl, rfl, rfl, rfl, rfl, trivial⟩)
  · refine x_aload_n F dL_law_576 rfl rfl ?_
    refine x_iconst (v := 0) F dL_law_577 (by decide) ?_
    refine x_iload F dL_law_578 rfl ?_
    refine x_iconst (v := 1) F dL_law_580 (by decide) ?_
    refine x_iload F dL_law_581 rfl ?_
    refine x_iconst (v := 2) F dL_law_583 (by decide) ?_
    refine x_ishr F dL_law_584 ?_
    refine x_iconst (v := 4) F dL_law_585 (by decide) ?_
    refine x_cSi2 F dL_law_586 (x_gS q425 q426 q0 q427) (c_below _ (d := 4) (by decide) (by decide)) ⟨rfl, rfl, rfl, xd_L_below, ⟨Nat.le_of_ble_eq_true rfl, Nat.le_of_ble_eq_true rfl⟩, (by show 66 + 10 * i + 0 ≤ 684551; omega), (by show 406 + 60 * i + 0 ≤ 7048046; omega)⟩ (Nat.le_of_ble_eq_true rfl) (fun v1 w1 hp => ?_)
    obtain ⟨⟨d, hd, rfl⟩, hw9⟩ := hp
    replace hw9 := hw9.symm
    subst hw9
    refine x_iadd F dL_law_589 ?_
    rw [show (1 : Int32) + nI d = nI (d + 1) from (Int32.add_comm _ _).trans (nI_1 d)]
    refine x_cVi3 (ci := 6) (C := RX6) (T := TX6) (N := 12) F dL_law_590 (x_gV q349 q350 q351 q1 q352) rfl (k_retire hR hvv (by omega) (by omega) (by omega) h573) ⟨rfl, rfl, rfl, xd_X6_retire, ⟨Nat.le_of_ble_eq_true rfl, Nat.le_of_ble_eq_true rfl⟩, (by show 66 + 10 * i + 0 ≤ 684551; omega), (by show 406 + 60 * i + 0 ≤ 7048046; omega)⟩ rfl hR.main (Nat.le_of_ble_eq_true rfl) (fun v1 w1 hp => ?_)
    obtain ⟨J2, rfl, hR, hO2⟩ := hp
    have hO := hO.trans hO2 rfl
    have hle := sr_le5 hI (by omega) v v
    refine x_iconst (v := 5) F dL_law_593 (by decide) ?_
    refine x_icmp_le F dL_law_594 rfl (fun h594 => ?_) (fun hc => absurd hc (fun q => q (nI_le (b := 5) hle (by decide))))
    first
      | (have hE := h573 rfl; exact hE.elim)
      | exact x_widen (by omega) (by omega) (x_lk (NEXT _ _ _ (hI.le (by omega)) hK hR (hS.oth hO rfl)) ⟨rfl, rfl, rfl, rfl, rfl, rfl, rfl, trivial⟩)
      | exact x_widen (by omega) (by omega) (x_lk (NEXT _ _ _ (hI.retire (by omega) hv (by omega) (by omega)) (hK.retire v _) hR (hS.oth hO rfl)) ⟨rfl, rfl, rfl, rfl, rfl, rfl, rfl, trivial⟩)
set_option maxRecDepth 100000 in
set_option maxHeartbeats 4000000 in
theorem law_answer (F : x_Fix p s m #[.ref b] meth c cL_law 15 RL xTs rt nm D dA vwCl tyL0 B) (hi60 : i < 60) (hI : Inv K V C i) (hK : KH K V H N) (hR : Rep Z K J w) (hS : SD Z K w V ha nd H N) {j v : Nat} (hj : j < C) (hv : v < V) (x : Int32) (NEXT : ∀ K1 J1 w1, Inv K1 V C (i + 1) → KH K1 V H N → Rep Z K1 J1 w1 → SD Z K1 w1 V ha nd H N → X p l e room_1 s m #[.ref b] below meth c Q D dA vwCl B 15 (66 + 10 * i + 10) (406 + 60 * i + 60) 731 [(0, .ref b), (1, .ref (Z 0 0)), (2, .int (nI V)), (3, .ref ha), (4, .ref nd), (5, .int (nI C)), (6, .int (nI i))] [] w1) : X p l e room_1 s m #[.ref b] below meth c Q D dA vwCl B 15 (66 + 10 * i) (406 + 60 * i) 599 [(0, .ref b), (1, .ref (Z 0 0)), (2, .int (nI V)), (3, .ref ha), (4, .ref nd), (5, .int (nI C)), (6, .int (nI i)), (7, .int x), (8, .int (nI j)), (9, .int (nI v))] [] w := by
  have hI0 := hI
  obtain ⟨t0, _, _, _, hG0, ht0, -, -, -, -, -, hIV⟩ := id hI
  have hV6 : V ≤ 6 := hIV.2.2.2.1
  have hC10 : C ≤ 10 := hIV.2.2.2.2.1
  have hncj : j < nc K := by rw [hIV.2.2.1]; exact hj
  have hvv : vOk K v := hIV.vok hv
  have hO : Oth Z K w w := Oth.rfl
  refine x_iload F dL_law_599 rfl ?_
  refine x_iconst (v := 2) F dL_law_601 (by decide) ?_
  refine x_ishr F dL_law_602 ?_
  refine x_iconst (v := 5) F dL_law_603 (by decide) ?_
  refine x_cSi2 F dL_law_604 (x_gS q425 q426 q0 q427) (c_below _ (d := 5) (by decide) (by decide)) ⟨rfl, rfl, rfl, xd_L_below, ⟨Nat.le_of_ble_eq_true rfl, Nat.le_of_ble_eq_true rfl⟩, (by show 66 + 10 * i + 0 ≤ 684551; omega), (by show 406 + 60 * i + 0 ≤ 7048046; omega)⟩ (Nat.le_of_ble_eq_true rfl) (fun v1 w1 hp => ?_)
  obtain ⟨⟨o, ho, rfl⟩, hw9⟩ := hp
  replace hw9 := hw9.symm
  subst hw9
  refine x_istore F dL_law_607 (by decide) ?_
  refine x_aload_n F dL_law_609 rfl rfl ?_
  refine x_iload F dL_law_610 rfl ?_
  refine x_iconst (v := 0) F dL_law_612 (by decide) ?_
  refine x_iload F dL_law_613 rfl ?_
  refine x_cVi3 (ci := 6) (C := RX6) (T := TX6) (N := 12) F dL_law_615 (x_gV q369 q370 q371 q1 q372) rfl (k_asked hR hvv (by omega) ho) ⟨rfl, rfl, rfl, xd_X6_asked, ⟨Nat.le_of_ble_eq_true rfl, Nat.le_of_ble_eq_true rfl⟩, (by show 66 + 10 * i + 0 ≤ 684551; omega), (by show 406 + 60 * i + 0 ≤ 7048046; omega)⟩ rfl hR.main (Nat.le_of_ble_eq_true rfl) (fun v1 w1 hp => ?_)
  obtain ⟨rfl, hw9⟩ := hp
  replace hw9 := hw9.symm
  subst hw9
  refine x_istore F dL_law_618 (by decide) ?_
  refine x_iload F dL_law_620 rfl ?_
  refine x_if_le F dL_law_622 rfl (fun h622 => ?_) (fun h622 => ?_)
  · exact x_widen (by omega) (by omega) (x_lk (NEXT _ _ _ (hI.le (by omega)) hK hR (hS.oth hO rfl)) ⟨rfl, rfl, rfl, rfl, rfl, rfl, rfl, trivial⟩)
  · rcases askst_cases (K := K) (i := v) ho with e0 | ⟨a1, a2, ⟨e1, e2⟩ | ⟨e1, e2⟩⟩
    · exact absurd (by rw [e0]; decide) h622
    · skip
      refine x_aload_n F dL_law_625 rfl rfl ?_
      refine x_iload F dL_law_626 rfl ?_
      refine x_iconst (v := 0) F dL_law_628 (by decide) ?_
      refine x_iload F dL_law_629 rfl ?_
      refine x_cVi3 (ci := 6) (C := RX6) (T := TX6) (N := 12) F dL_law_631 (x_gV q364 q365 q366 q1 q367) rfl (k_answer hR hvv (by omega) ho a1 a2) ⟨rfl, rfl, rfl, xd_X6_answer, ⟨Nat.le_of_ble_eq_true rfl, Nat.le_of_ble_eq_true rfl⟩, (by show 66 + 10 * i + 0 ≤ 684551; omega), (by show 406 + 60 * i + 0 ≤ 7048046; omega)⟩ rfl hR.main (Nat.le_of_ble_eq_true rfl) (fun v1 w1 hp => ?_)
      obtain ⟨J2, rfl, hR, hO2⟩ := hp
      have hO := hO.trans hO2 rfl
      refine x_iload F dL_law_634 rfl ?_
      refine x_iconst (v := 1) F dL_law_636 (by decide) ?_
      refine x_icmp_le F dL_law_637 rfl (fun h637 => ?_) (fun hc => absurd hc (fun q => q (by rw [e1]; decide)))
      refine x_iconst (v := 0) F dL_law_644 (by decide) ?_
      refine x_icmp_ne F dL_law_645 rfl (fun hc => absurd hc (fun q => q (by rw [e2]; rfl))) (fun h645 => ?_)
      refine x_aload_n F dL_law_648 rfl rfl ?_
      refine x_iload F dL_law_649 rfl ?_
      refine x_iconst (v := 0) F dL_law_651 (by decide) ?_
      refine x_iload F dL_law_652 rfl ?_
      refine x_cVi3 (ci := 6) (C := RX6) (T := TX6) (N := 12) F dL_law_654 (x_gV q369 q370 q371 q1 q372) rfl (k_asked hR (show vOk (kPutV K v 8 _) v from hvv) (by omega) ho) ⟨rfl, rfl, rfl, xd_X6_asked, ⟨Nat.le_of_ble_eq_true rfl, Nat.le_of_ble_eq_true rfl⟩, (by show 66 + 10 * i + 0 ≤ 684551; omega), (by show 406 + 60 * i + 0 ≤ 7048046; omega)⟩ rfl hR.main (Nat.le_of_ble_eq_true rfl) (fun v1 w1 hp => ?_)
      obtain ⟨rfl, hw9⟩ := hp
      replace hw9 := hw9.symm
      subst hw9
      refine x_iconst (v := 3) F dL_law_657 (by decide) ?_
      refine x_icmp_eq F dL_law_658 rfl (fun h658 => ?_) (fun hc => absurd hc (fun q => q (askst_after ho a1 a2)))
      exact x_widen (by omega) (by omega) (x_lk (NEXT _ _ _ (hI.answer ho a2) (hK.answer v _) hR (hS.oth hO rfl)) ⟨rfl, rfl, rfl, rfl, rfl, rfl, rfl, trivial⟩)
    · skip
      refine x_aload_n F dL_law_625 rfl rfl ?_
      refine x_iload F dL_law_626 rfl ?_
      refine x_iconst (v := 0) F dL_law_628 (by decide) ?_
      refine x_iload F dL_law_629 rfl ?_
      refine x_cVi3 (ci := 6) (C := RX6) (T := TX6) (N := 12) F dL_law_631 (x_gV q364 q365 q366 q1 q367) rfl (k_answer hR hvv (by omega) ho a1 a2) ⟨rfl, rfl, rfl, xd_X6_answer, ⟨Nat.le_of_ble_eq_true rfl, Nat.le_of_ble_eq_true rfl⟩, (by show 66 + 10 * i + 0 ≤ 684551; omega), (by show 406 + 60 * i + 0 ≤ 7048046; omega)⟩ rfl hR.main (Nat.le_of_ble_eq_true rfl) (fun v1 w1 hp => ?_)
      obtain ⟨J2, rfl, hR, hO2⟩ := hp
      have hO := hO.trans hO2 rfl
      refine x_iload F dL_law_634 rfl ?_
      refine x_iconst (v := 1) F dL_law_636 (by decide) ?_
      refine x_icmp_le F dL_law_637 rfl (fun hc => absurd hc (by rcases e1 with e1 | e1 <;> rw [e1] <;> decide)) (fun h637 => ?_)
      refine x_iconst (v := 1) F dL_law_640 (by decide) ?_
      refine x_goto F dL_law_641 rfl ?_
      refine x_icmp_ne F dL_law_645 rfl (fun hc => absurd hc (fun q => q (by rw [e2]; rfl))) (fun h645 => ?_)
      refine x_aload_n F dL_law_648 rfl rfl ?_
      refine x_iload F dL_law_649 rfl ?_
      refine x_iconst (v := 0) F dL_law_651 (by decide) ?_
      refine x_iload F dL_law_652 rfl ?_
      refine x_cVi3 (ci := 6) (C := RX6) (T := TX6) (N := 12) F dL_law_654 (x_gV q369 q370 q371 q1 q372) rfl (k_asked hR (show vOk (kPutV K v 8 _) v from hvv) (by omega) ho) ⟨rfl, rfl, rfl, xd_X6_asked, ⟨Nat.le_of_ble_eq_true rfl, Nat.le_of_ble_eq_true rfl⟩, (by show 66 + 10 * i + 0 ≤ 684551; omega), (by show 406 + 60 * i + 0 ≤ 7048046; omega)⟩ rfl hR.main (Nat.le_of_ble_eq_true rfl) (fun v1 w1 hp => ?_)
      obtain ⟨rfl, hw9⟩ := hp
      replace hw9 := hw9.symm
      subst hw9
      refine x_iconst (v := 3) F dL_law_657 (by decide) ?_
      refine x_icmp_eq F dL_law_658 rfl (fun h658 => ?_) (fun hc => absurd hc (fun q => q (askst_after ho a1 a2)))
      exact x_widen (by omega) (by omega) (x_lk (NEXT _ _ _ (hI.answer ho a2) (hK.answer v _) hR (hS.oth hO rfl)) ⟨rfl, rfl, rfl, rfl, rfl, rfl, rfl, trivial⟩)
set_option maxRecDepth 100000 in
set_option maxHeartbeats 4000000 in
theorem law_target (F : x_Fix p s m #[.ref b] meth c cL_law 15 RL xTs rt nm D dA vwCl tyL0 B) (hi60 : i < 60) (hI : Inv K V C i) (hK : KH K V H N) (hR : Rep Z K J w) (hS : SD Z K w V ha nd H N) {j v : Nat} (hj : j < C) (hv : v < V) (x : Int32) (NEXT : ∀ K1 J1 w1, Inv K1 V C (i + 1) → KH K1 V H N → Rep Z K1 J1 w1 → SD Z K1 w1 V ha nd H N → X p l e room_1 s m #[.ref b] below meth c Q D dA vwCl B 15 (66 + 10 * i + 10) (406 + 60 * i + 60) 731 [(0, .ref b), (1, .ref (Z 0 0)), (2, .int (nI V)), (3, .ref ha), (4, .ref nd), (5, .int (nI C)), (6, .int (nI i))] [] w1) : X p l e room_1 s m #[.ref b] below meth c Q D dA vwCl B 15 (66 + 10 * i) (406 + 60 * i) 663 [(0, .ref b), (1, .ref (Z 0 0)), (2, .int (nI V)), (3, .ref ha), (4, .ref nd), (5, .int (nI C)), (6, .int (nI i)), (7, .int x), (8, .int (nI j)), (9, .int (nI v))] [] w := by
  have hI0 := hI
  obtain ⟨t0, _, _, _, hG0, ht0, -, -, -, -, -, hIV⟩ := id hI
  have hV6 : V ≤ 6 := hIV.2.2.2.1
  have hC10 : C ≤ 10 := hIV.2.2.2.2.1
  have hncj : j < nc K := by rw [hIV.2.2.1]; exact hj
  have hvv : vOk K v := hIV.vok hv
  have hO : Oth Z K w w := Oth.rfl
  refine x_aload_n F dL_law_663 rfl rfl ?_
  refine x_iload F dL_law_664 rfl ?_
  refine x_cVi1 (ci := 6) (C := RX6) (T := TX6) (N := 12) F dL_law_666 (x_gV q397 q398 q399 q1 q400) rfl (c_target hR hncj) ⟨rfl, rfl, rfl, xd_X6_target, ⟨Nat.le_of_ble_eq_true rfl, Nat.le_of_ble_eq_true rfl⟩, (by show 66 + 10 * i + 0 ≤ 684551; omega), (by show 406 + 60 * i + 0 ≤ 7048046; omega)⟩ rfl hR.main (Nat.le_of_ble_eq_true rfl) (fun v1 w1 hp => ?_)
  obtain ⟨rfl, hw9⟩ := hp
  replace hw9 := hw9.symm
  subst hw9
  refine x_istore F dL_law_669 (by decide) ?_
  refine x_iload F dL_law_671 rfl ?_
  refine x_if_lt F dL_law_673 rfl (fun h673 => ?_) (fun h673 => ?_)
  · exact x_widen (by omega) (by omega) (x_lk (NEXT _ _ _ (hI.le (by omega)) hK hR (hS.oth hO rfl)) ⟨rfl, rfl, rfl, rfl, rfl, rfl, rfl, trivial⟩)
  · rcases k_near hIV hj with e0 | ⟨g, hg, e0, hgs⟩
    · exact absurd (by rw [e0]; decide) h673
    · rw [e0]
      have hIV1 : IV (kPutCV (kPutC K j 1 (f_again (kV K g 0) (kV K g 1) (kC K j 1))) j g) V C t0 := hIV.again _ hg
      refine x_aload_n F dL_law_676 rfl rfl ?_
      refine x_iconst (v := 0) F dL_law_677 (by decide) ?_
      refine x_iload F dL_law_678 rfl ?_
      refine x_iconst (v := 2) F dL_law_680 (by decide) ?_
      refine x_cVi3 (ci := 6) (C := RX6) (T := TX6) (N := 12) F dL_law_681 (x_gV q173 q174 q175 q1 q176) rfl (k_ver2 hR (hIV.vok hg) (by omega)) ⟨rfl, rfl, rfl, xd_X6_ofVersion, ⟨Nat.le_of_ble_eq_true rfl, Nat.le_of_ble_eq_true rfl⟩, (by show 66 + 10 * i + 0 ≤ 684551; omega), (by show 406 + 60 * i + 0 ≤ 7048046; omega)⟩ rfl hR.main (Nat.le_of_ble_eq_true rfl) (fun v1 w1 hp => ?_)
      obtain ⟨J2, rfl, hR, hO2⟩ := hp
      have hO := hO.trans hO2 rfl
      refine x_if_ne F dL_law_684 rfl (fun hc => absurd hc (fun q => q hgs)) (fun h684 => ?_)
      refine x_aload_n F dL_law_687 rfl rfl ?_
      refine x_iload F dL_law_688 rfl ?_
      refine x_iload F dL_law_690 rfl ?_
      refine x_cVi2 (ci := 6) (C := RX6) (T := TX6) (N := 12) F dL_law_692 (x_gV q268 q269 q270 q1 q271) rfl (k_again hIV hR hj hg hgs) ⟨rfl, rfl, rfl, xd_X6_again, ⟨Nat.le_of_ble_eq_true rfl, Nat.le_of_ble_eq_true rfl⟩, (by show 66 + 10 * i + 0 ≤ 684551; omega), (by show 406 + 60 * i + 0 ≤ 7048046; omega)⟩ rfl hR.main (Nat.le_of_ble_eq_true rfl) (fun v1 w1 hp => ?_)
      obtain ⟨J2, rfl, hR, hO2⟩ := hp
      have hO := hO.trans hO2 rfl
      refine x_aload_n F dL_law_695 rfl rfl ?_
      refine x_iload F dL_law_696 rfl ?_
      refine x_iconst (v := 3) F dL_law_698 (by decide) ?_
      refine x_cVi2 (ci := 6) (C := RX6) (T := TX6) (N := 12) F dL_law_699 (x_gV q298 q299 q300 q1 q301) rfl (k_cli3 (K := kPutCV (kPutC K j 1 (f_again (kV K g 0) (kV K g 1) (kC K j 1))) j g) hR hncj) ⟨rfl, rfl, rfl, xd_X6_ofClient, ⟨Nat.le_of_ble_eq_true rfl, Nat.le_of_ble_eq_true rfl⟩, (by show 66 + 10 * i + 0 ≤ 684551; omega), (by show 406 + 60 * i + 0 ≤ 7048046; omega)⟩ rfl hR.main (Nat.le_of_ble_eq_true rfl) (fun v1 w1 hp => ?_)
      obtain ⟨J2, rfl, hR, hO2⟩ := hp
      have hO := hO.trans hO2 (rfl : kN (kPutCV _ j g) = kN K)
      refine x_icmp_ne F dL_law_702 rfl (fun hc => absurd hc (fun q => q (if_pos ⟨rfl, rfl⟩).symm)) (fun h702 => ?_)
      refine x_aload_n F dL_law_705 rfl rfl ?_
      refine x_iload F dL_law_706 rfl ?_
      refine x_iconst (v := 2) F dL_law_708 (by decide) ?_
      refine x_cVi2 (ci := 6) (C := RX6) (T := TX6) (N := 12) F dL_law_709 (x_gV q298 q299 q300 q1 q301) rfl (k_cli2 hIV1 hR hj) ⟨rfl, rfl, rfl, xd_X6_ofClient, ⟨Nat.le_of_ble_eq_true rfl, Nat.le_of_ble_eq_true rfl⟩, (by show 66 + 10 * i + 0 ≤ 684551; omega), (by show 406 + 60 * i + 0 ≤ 7048046; omega)⟩ rfl hR.main (Nat.le_of_ble_eq_true rfl) (fun v1 w1 hp => ?_)
      obtain ⟨J2, rfl, hR, hO2⟩ := hp
      have hO := hO.trans hO2 rfl
      refine x_iload F dL_law_712 rfl ?_
      refine x_icmp_eq F dL_law_714 rfl (fun h714 => ?_) (fun hc => absurd hc (fun q => q (by rw [kCV_put, if_pos rfl])))
      exact x_widen (by omega) (by omega) (x_lk (NEXT _ _ _ (hI.again _ hg) hK hR (hS.oth hO rfl)) ⟨rfl, rfl, rfl, rfl, rfl, rfl, rfl, trivial⟩)
set_option maxRecDepth 100000 in
set_option maxHeartbeats 4000000 in
theorem law_kind (F : x_Fix p s m #[.ref b] meth c cL_law 15 RL xTs rt nm D dA vwCl tyL0 B) (hi60 : i < 60) (hI : Inv K V C i) (hK : KH K V H N) (hR : Rep Z K J w) (hS : SD Z K w V ha nd H N) {j v : Nat} (hj : j < C) (hv : v < V) (x : Int32) (NEXT : ∀ K1 J1 w1, Inv K1 V C (i + 1) → KH K1 V H N → Rep Z K1 J1 w1 → SD Z K1 w1 V ha nd H N → X p l e room_1 s m #[.ref b] below meth c Q D dA vwCl B 15 (66 + 10 * i + 10) (406 + 60 * i + 60) 731 [(0, .ref b), (1, .ref (Z 0 0)), (2, .int (nI V)), (3, .ref ha), (4, .ref nd), (5, .int (nI C)), (6, .int (nI i))] [] w1) : X p l e room_1 s m #[.ref b] below meth c Q D dA vwCl B 15 (66 + 10 * i) (406 + 60 * i) 719 [(0, .ref b), (1, .ref (Z 0 0)), (2, .int (nI V)), (3, .ref ha), (4, .ref nd), (5, .int (nI C)), (6, .int (nI i)), (7, .int x), (8, .int (nI j)), (9, .int (nI v))] [] w := by
  have hI0 := hI
  obtain ⟨t0, _, _, _, hG0, ht0, -, -, -, -, -, hIV⟩ := id hI
  have hV6 : V ≤ 6 := hIV.2.2.2.1
  have hC10 : C ≤ 10 := hIV.2.2.2.2.1
  have hncj : j < nc K := by rw [hIV.2.2.1]; exact hj
  have hvv : vOk K v := hIV.vok hv
  have hO : Oth Z K w w := Oth.rfl
  obtain ⟨h, hKF, hcnt⟩ := kind_facts hI (by omega)
  obtain ⟨K1, hK1⟩ : ∃ K1, (f_hour K).1 = K1 := ⟨_, rfl⟩
  have hKL : KH (f_hour K).1 V H N := hK.lat (hour_spec K rfl).1
  rw [hK1] at hKF hKL
  refine x_aload_n F dL_law_719 rfl rfl ?_
  refine x_iload_n F dL_law_720 rfl rfl ?_
  refine x_iload F dL_law_721 rfl ?_
  refine x_cSi3 F dL_law_723 (x_gS q433 q434 q0 q435) (c_isKind hR hI (by omega) hK1 hcnt hKF) ⟨rfl, rfl, rfl, xd_L_isKind, ⟨Nat.le_of_ble_eq_true rfl, Nat.le_of_ble_eq_true rfl⟩, (by show 66 + 10 * i + 10 ≤ 684551; omega), (by show 406 + 60 * i + 60 ≤ 7048046; omega)⟩ (Nat.le_of_ble_eq_true rfl) (fun v1 w1 hp => ?_)
  obtain ⟨rfl, J2, hR, hfar⟩ := hp
  refine x_if_ne F dL_law_726 rfl (fun h726 => ?_) (fun hc => absurd hc (fun q => absurd q (by decide)))
  exact x_lk (NEXT _ _ _ hKF.2.2.2.2.1 hKL hR (hS.kind hfar hKF.2.1)) ⟨rfl, rfl, rfl, rfl, rfl, rfl, rfl, trivial⟩
end STEP
