/-! ===== what is asked from outside ===== -/
section ASK
variable {l : Launch} {D : va_G} {dA : Nat → ClassId} {B : Nat} {Z : Nat → Nat → Nat} {K : kT} {J : jT} {w : xW}
theorem vOk.f4 (hR : Rep Z K J w) {f k : Nat} (hi : vOk K (6 * f + k)) (hk : k < 6) : f < nf K ∧ f < 4 := by
  have h := hi.1
  rw [show (6 * f + k) / 6 = f by omega] at h
  exact ⟨h, Nat.lt_of_lt_of_le h hR.nf4⟩
theorem verAt_some (hR : Rep Z K J w) {f k : Nat} (hi : vOk K (6 * f + k)) (hk : k < 6) : f_verAt Z K (nI f) (nI k) = some (Z 10 (6 * f + k)) := by
  rw [f_verAt_nI hR (hi.f4 hR hk).2 hk, if_pos (b_ok_iff.mpr hi)]
theorem fverAt_some {f k : Nat} (hi : vOk K (6 * f + k)) (hk : k < 6) : f_at 6 (g_ver Z K f) (nI k) = some (Z 10 (6 * f + k)) := by
  have h := hi.2
  rw [show (6 * f + k) / 6 = f by omega, show (6 * f + k) % 6 = k by omega] at h
  rw [f_fver_nI hk]
  exact if_pos h
theorem cliAt_some (hR : Rep Z K J w) {k : Nat} (hk : k < nc K) : f_at 10 (g_cli Z K) (nI k) = some (Z 13 k) := by
  rw [f_at_nI (n := 10) (by decide) (Nat.lt_of_lt_of_le hk hR.nc10) (by decide)]
  exact if_pos hk
set_option maxRecDepth 100000 in
set_option maxHeartbeats 4000000 in
theorem c_ofVersion (hR : Rep Z K J w) {f k t : Nat} (hi : vOk K (6 * f + k)) (hk : k < 6) (ht : t ≤ 10) : Ci l D dA B yX6_ofVersion wX6_ofVersion 9 [.ref (Z 0 0), .int (nI f), .int (nI k), .int (nI t)] w (QP Z K w (f_vfact K (6 * f + k) t)) := by
  refine x_Ct.of (cc := cX6_ofVersion) (maxL := 5) (by decide) rfl (Nat.le_of_ble_eq_true rfl) ?_
  intro p e s m below meth c F
  refine x_aload_n F dX6_ofVersion_0 rfl rfl ?_
  refine x_iload_n F dX6_ofVersion_1 rfl rfl ?_
  refine x_iload_n F dX6_ofVersion_2 rfl rfl ?_
  refine x_cVi2 (ci := 6) (C := RX6) (T := TX6) (N := 12) F dX6_ofVersion_3 (x_gV q177 q178 q449 q1 q179) rfl (c_versionAt hR (nI f) (nI k)) ⟨rfl, rfl, rfl, xd_X6_versionAt, ⟨Nat.le_of_ble_eq_true rfl, Nat.le_of_ble_eq_true rfl⟩, Nat.le_of_ble_eq_true rfl, Nat.le_of_ble_eq_true rfl⟩ rfl hR.main (Nat.le_of_ble_eq_true rfl) (fun v1 w1 hp => ?_)
  obtain ⟨rfl, hw9⟩ := hp
  replace hw9 := hw9.symm
  subst hw9
  rw [verAt_some hR hi hk]
  refine x_astore F dX6_ofVersion_6 (by decide) ?_
  refine x_aload F dX6_ofVersion_8 rfl ?_
  refine x_ifnonnull F dX6_ofVersion_10 rfl ?_
  refine x_iload_n F dX6_ofVersion_23 rfl rfl ?_
  refine x_if_lt F dX6_ofVersion_24 rfl (fun hc => absurd hc (nI_pos (by omega))) (fun h24 => ?_)
  refine x_iload_n F dX6_ofVersion_27 rfl rfl ?_
  refine x_bipush (v := 10) F dX6_ofVersion_28 (by decide) ?_
  refine x_icmp_le F dX6_ofVersion_30 rfl (fun h30 => ?_) (fun hc => absurd hc (fun q => q (nI_le (b := 10) (by omega) (by decide))))
  refine x_aload_n F dX6_ofVersion_43 rfl rfl ?_
  refine x_aload F dX6_ofVersion_44 rfl ?_
  refine x_iload_n F dX6_ofVersion_46 rfl rfl ?_
  refine x_cVi2 (ci := 6) (C := RX6) (T := TX6) (N := 12) F dX6_ofVersion_47 (x_gV q180 q181 q450 q1 q182) rfl (c_versionFact hR hi ht) ⟨rfl, rfl, rfl, xd_X6_versionFact, ⟨Nat.le_of_ble_eq_true rfl, Nat.le_of_ble_eq_true rfl⟩, Nat.le_of_ble_eq_true rfl, Nat.le_of_ble_eq_true rfl⟩ rfl hR.main (Nat.le_of_ble_eq_true rfl) (fun v1 w1 hp => ?_)
  obtain ⟨J2, rfl, h5⟩ := hp
  refine x_iret F rfl rfl dX6_ofVersion_50 (Nat.le_refl _) (Nat.le_refl _) ?_
  exact ⟨_, rfl, J2, rfl, h5⟩
set_option maxRecDepth 100000 in
set_option maxHeartbeats 4000000 in
theorem c_isCompatible (hR : Rep Z K J w) {f k k2 : Nat} (hi : vOk K (6 * f + k)) (hk : k < 6) (hi2 : vOk K (6 * f + k2)) (hk2 : k2 < 6) : Ci l D dA B yX6_isCompatible wX6_isCompatible 3 [.ref (Z 0 0), .int (nI f), .int (nI k), .int (nI k2)] w (fun v w1 => v = .int (x_b (f_suits (kV K (6 * f + k) 0) (kV K (6 * f + k) 1) (kV K (6 * f + k2) 0) (kV K (6 * f + k2) 1))) ∧ w1 = w) := by
  refine x_Ct.of (cc := cX6_isCompatible) (maxL := 6) (by decide) rfl (Nat.le_of_ble_eq_true rfl) ?_
  intro p e s m below meth c F
  refine x_aload_n F dX6_isCompatible_0 rfl rfl ?_
  refine x_iload_n F dX6_isCompatible_1 rfl rfl ?_
  refine x_iload_n F dX6_isCompatible_2 rfl rfl ?_
  refine x_cVi2 (ci := 6) (C := RX6) (T := TX6) (N := 12) F dX6_isCompatible_3 (x_gV q177 q178 q449 q1 q179) rfl (c_versionAt hR (nI f) (nI k)) ⟨rfl, rfl, rfl, xd_X6_versionAt, ⟨Nat.le_of_ble_eq_true rfl, Nat.le_of_ble_eq_true rfl⟩, Nat.le_of_ble_eq_true rfl, Nat.le_of_ble_eq_true rfl⟩ rfl hR.main (Nat.le_of_ble_eq_true rfl) (fun v1 w1 hp => ?_)
  obtain ⟨rfl, hw9⟩ := hp
  replace hw9 := hw9.symm
  subst hw9
  rw [verAt_some hR hi hk]
  refine x_astore F dX6_isCompatible_6 (by decide) ?_
  refine x_aload_n F dX6_isCompatible_8 rfl rfl ?_
  refine x_iload_n F dX6_isCompatible_9 rfl rfl ?_
  refine x_iload_n F dX6_isCompatible_10 rfl rfl ?_
  refine x_cVi2 (ci := 6) (C := RX6) (T := TX6) (N := 12) F dX6_isCompatible_11 (x_gV q177 q178 q449 q1 q179) rfl (c_versionAt hR (nI f) (nI k2)) ⟨rfl, rfl, rfl, xd_X6_versionAt, ⟨Nat.le_of_ble_eq_true rfl, Nat.le_of_ble_eq_true rfl⟩, Nat.le_of_ble_eq_true rfl, Nat.le_of_ble_eq_true rfl⟩ rfl hR.main (Nat.le_of_ble_eq_true rfl) (fun v1 w1 hp => ?_)
  obtain ⟨rfl, hw9⟩ := hp
  replace hw9 := hw9.symm
  subst hw9
  rw [verAt_some hR hi2 hk2]
  refine x_astore F dX6_isCompatible_14 (by decide) ?_
  refine x_aload F dX6_isCompatible_16 rfl ?_
  refine x_ifnull F dX6_isCompatible_18 ?_
  refine x_aload F dX6_isCompatible_21 rfl ?_
  refine x_ifnonnull F dX6_isCompatible_23 rfl ?_
  refine x_aload F dX6_isCompatible_36 rfl ?_
  refine x_aload F dX6_isCompatible_38 rfl ?_
  refine x_cVi1 (ci := 5) (C := RX5) (T := TX5) (N := 9) F dX6_isCompatible_40 (x_gV q169 q170 q171 q12 q172) rfl (c_suits (hR.ver hi) (hR.ver hi2)) ⟨rfl, rfl, rfl, xd_X5_suits, ⟨Nat.le_of_ble_eq_true rfl, Nat.le_of_ble_eq_true rfl⟩, Nat.le_of_ble_eq_true rfl, Nat.le_of_ble_eq_true rfl⟩ rfl (hR.ver hi) (Nat.le_of_ble_eq_true rfl) (fun v1 w1 hp => ?_)
  obtain ⟨rfl, hw9⟩ := hp
  replace hw9 := hw9.symm
  subst hw9
  refine x_iret F rfl x_b_nar dX6_isCompatible_43 (Nat.le_refl _) (Nat.le_refl _) ?_
  exact ⟨_, rfl, rfl, rfl⟩
set_option maxRecDepth 100000 in
set_option maxHeartbeats 4000000 in
theorem c_ofClient (hR : Rep Z K J w) {k t : Nat} (hk : k < nc K) (ht : t ≤ 8) : Ci l D dA B yX6_ofClient wX6_ofClient 8 [.ref (Z 0 0), .int (nI k), .int (nI t)] w (QP Z K w (f_cfact K k t)) := by
  refine x_Ct.of (cc := cX6_ofClient) (maxL := 4) (by decide) rfl (Nat.le_of_ble_eq_true rfl) ?_
  intro p e s m below meth c F
  refine x_aload_n F dX6_ofClient_0 rfl rfl ?_
  refine x_iload_n F dX6_ofClient_1 rfl rfl ?_
  refine x_cVi1 (ci := 6) (C := RX6) (T := TX6) (N := 12) F dX6_ofClient_2 (x_gV q272 q273 q456 q1 q274) rfl (c_clientAt hR (nI k)) ⟨rfl, rfl, rfl, xd_X6_clientAt, ⟨Nat.le_of_ble_eq_true rfl, Nat.le_of_ble_eq_true rfl⟩, Nat.le_of_ble_eq_true rfl, Nat.le_of_ble_eq_true rfl⟩ rfl hR.main (Nat.le_of_ble_eq_true rfl) (fun v1 w1 hp => ?_)
  obtain ⟨rfl, hw9⟩ := hp
  replace hw9 := hw9.symm
  subst hw9
  rw [cliAt_some hR hk]
  refine x_astore_n F dX6_ofClient_5 rfl (by decide) ?_
  refine x_aload_n F dX6_ofClient_6 rfl rfl ?_
  refine x_ifnonnull F dX6_ofClient_7 rfl ?_
  refine x_iload_n F dX6_ofClient_20 rfl rfl ?_
  refine x_if_lt F dX6_ofClient_21 rfl (fun hc => absurd hc (nI_pos (by omega))) (fun h21 => ?_)
  refine x_iload_n F dX6_ofClient_24 rfl rfl ?_
  refine x_bipush (v := 8) F dX6_ofClient_25 (by decide) ?_
  refine x_icmp_le F dX6_ofClient_27 rfl (fun h27 => ?_) (fun hc => absurd hc (fun q => q (nI_le (b := 8) (by omega) (by decide))))
  refine x_aload_n F dX6_ofClient_40 rfl rfl ?_
  refine x_aload_n F dX6_ofClient_41 rfl rfl ?_
  refine x_iload_n F dX6_ofClient_42 rfl rfl ?_
  refine x_cVi2 (ci := 6) (C := RX6) (T := TX6) (N := 12) F dX6_ofClient_43 (x_gV q302 q303 q457 q1 q304) rfl (c_clientFact hR hk ht) ⟨rfl, rfl, rfl, xd_X6_clientFact, ⟨Nat.le_of_ble_eq_true rfl, Nat.le_of_ble_eq_true rfl⟩, Nat.le_of_ble_eq_true rfl, Nat.le_of_ble_eq_true rfl⟩ rfl hR.main (Nat.le_of_ble_eq_true rfl) (fun v1 w1 hp => ?_)
  obtain ⟨J2, rfl, h5⟩ := hp
  refine x_iret F rfl rfl dX6_ofClient_46 (Nat.le_refl _) (Nat.le_refl _) ?_
  exact ⟨_, rfl, J2, rfl, h5⟩
set_option maxRecDepth 100000 in
set_option maxHeartbeats 4000000 in
theorem c_lastCall (hR : Rep Z K J w) {k n : Nat} (hk : k < nc K) (hi : vOk K (6 * (kCV K k / 6) + n)) (hn : n < 6) : Ci l D dA B yX6_lastCall wX6_lastCall 2 [.ref (Z 0 0), .int (nI k), .int (nI n)] w (fun v w1 => v = .int (f_since K k (6 * (kCV K k / 6) + n)) ∧ w1 = w) := by
  refine x_Ct.of (cc := cX6_lastCall) (maxL := 5) (by decide) rfl (Nat.le_of_ble_eq_true rfl) ?_
  intro p e s m below meth c F
  refine x_aload_n F dX6_lastCall_0 rfl rfl ?_
  refine x_iload_n F dX6_lastCall_1 rfl rfl ?_
  refine x_cVi1 (ci := 6) (C := RX6) (T := TX6) (N := 12) F dX6_lastCall_2 (x_gV q272 q273 q456 q1 q274) rfl (c_clientAt hR (nI k)) ⟨rfl, rfl, rfl, xd_X6_clientAt, ⟨Nat.le_of_ble_eq_true rfl, Nat.le_of_ble_eq_true rfl⟩, Nat.le_of_ble_eq_true rfl, Nat.le_of_ble_eq_true rfl⟩ rfl hR.main (Nat.le_of_ble_eq_true rfl) (fun v1 w1 hp => ?_)
  obtain ⟨rfl, hw9⟩ := hp
  replace hw9 := hw9.symm
  subst hw9
  rw [cliAt_some hR hk]
  refine x_astore_n F dX6_lastCall_5 rfl (by decide) ?_
  refine x_aload_n F dX6_lastCall_6 rfl rfl ?_
  refine x_ifnonnull F dX6_lastCall_7 rfl ?_
  refine x_aload_n F dX6_lastCall_14 rfl rfl ?_
  refine x_get (ci := 1) (C := RX1) (T := TX1) (N := 8) (k := 1) F dX6_lastCall_15 rfl inX1 (by decide) q248 rfl (hR.cli hk) rfl ?_
  refine x_iload_n F dX6_lastCall_18 rfl rfl ?_
  refine x_cVi1 (ci := 2) (C := RX2) (T := TX2) (N := 3) F dX6_lastCall_19 (x_gV q165 q166 q167 q9 q168) rfl (c_fVersionAt hR (hR.cv hk).1 (nI n)) ⟨rfl, rfl, rfl, xd_X2_versionAt, ⟨Nat.le_of_ble_eq_true rfl, Nat.le_of_ble_eq_true rfl⟩, Nat.le_of_ble_eq_true rfl, Nat.le_of_ble_eq_true rfl⟩ rfl (hR.face (hR.cv hk).1) (Nat.le_of_ble_eq_true rfl) (fun v1 w1 hp => ?_)
  obtain ⟨rfl, hw9⟩ := hp
  replace hw9 := hw9.symm
  subst hw9
  rw [fverAt_some hi hn]
  refine x_astore F dX6_lastCall_22 (by decide) ?_
  refine x_aload_n F dX6_lastCall_24 rfl rfl ?_
  refine x_ifnull F dX6_lastCall_25 ?_
  refine x_aload F dX6_lastCall_28 rfl ?_
  refine x_ifnonnull F dX6_lastCall_30 rfl ?_
  refine x_aload_n F dX6_lastCall_43 rfl rfl ?_
  refine x_aload_n F dX6_lastCall_44 rfl rfl ?_
  refine x_aload F dX6_lastCall_45 rfl ?_
  refine x_cVi2 (ci := 6) (C := RX6) (T := TX6) (N := 12) F dX6_lastCall_47 (x_gV q345 q346 q461 q1 q347) rfl (c_hoursSinceCall hR hk hi) ⟨rfl, rfl, rfl, xd_X6_hoursSinceCall, ⟨Nat.le_of_ble_eq_true rfl, Nat.le_of_ble_eq_true rfl⟩, Nat.le_of_ble_eq_true rfl, Nat.le_of_ble_eq_true rfl⟩ rfl hR.main (Nat.le_of_ble_eq_true rfl) (fun v1 w1 hp => ?_)
  obtain ⟨rfl, hw9⟩ := hp
  replace hw9 := hw9.symm
  subst hw9
  refine x_iret F rfl rfl dX6_lastCall_50 (Nat.le_refl _) (Nat.le_refl _) ?_
  exact ⟨_, rfl, rfl, rfl⟩
set_option maxRecDepth 100000 in
set_option maxHeartbeats 4000000 in
theorem c_asked (hR : Rep Z K J w) {f k : Nat} (hi : vOk K (6 * f + k)) (hk : k < 6) {o : Int32} (ho : f_owner o = true) : Ci l D dA B yX6_asked wX6_asked 3 [.ref (Z 0 0), .int o, .int (nI f), .int (nI k)] w (fun v w1 => v = .int (f_askst K o (6 * f + k)) ∧ w1 = w) := by
  refine x_Ct.of (cc := cX6_asked) (maxL := 5) (by decide) rfl (Nat.le_of_ble_eq_true rfl) ?_
  intro p e s m below meth c F
  refine x_aload_n F dX6_asked_0 rfl rfl ?_
  refine x_iload_n F dX6_asked_1 rfl rfl ?_
  refine x_iload_n F dX6_asked_2 rfl rfl ?_
  refine x_cVi2 (ci := 6) (C := RX6) (T := TX6) (N := 12) F dX6_asked_3 (x_gV q177 q178 q449 q1 q179) rfl (c_versionAt hR (nI f) (nI k)) ⟨rfl, rfl, rfl, xd_X6_versionAt, ⟨Nat.le_of_ble_eq_true rfl, Nat.le_of_ble_eq_true rfl⟩, Nat.le_of_ble_eq_true rfl, Nat.le_of_ble_eq_true rfl⟩ rfl hR.main (Nat.le_of_ble_eq_true rfl) (fun v1 w1 hp => ?_)
  obtain ⟨rfl, hw9⟩ := hp
  replace hw9 := hw9.symm
  subst hw9
  rw [verAt_some hR hi hk]
  refine x_astore F dX6_asked_6 (by decide) ?_
  refine x_aload F dX6_asked_8 rfl ?_
  refine x_ifnull F dX6_asked_10 ?_
  refine x_iload_n F dX6_asked_13 rfl rfl ?_
  refine x_cSi1 F dX6_asked_14 (x_gS q236 q237 q1 q238) (c_isOwner o) ⟨rfl, rfl, rfl, xd_X6_isOwner, ⟨Nat.le_of_ble_eq_true rfl, Nat.le_of_ble_eq_true rfl⟩, Nat.le_of_ble_eq_true rfl, Nat.le_of_ble_eq_true rfl⟩ (Nat.le_of_ble_eq_true rfl) (fun v1 w1 hp => ?_)
  obtain ⟨rfl, hw9⟩ := hp
  replace hw9 := hw9.symm
  subst hw9
  refine x_if_ne F dX6_asked_17 rfl (fun h17 => ?_) (fun hc => absurd hc (by rw [ho]; decide))
  refine x_aload_n F dX6_asked_30 rfl rfl ?_
  refine x_iload_n F dX6_asked_31 rfl rfl ?_
  refine x_aload F dX6_asked_32 rfl ?_
  refine x_cVi2 (ci := 6) (C := RX6) (T := TX6) (N := 12) F dX6_asked_34 (x_gV q373 q374 q463 q1 q375) rfl (c_askedState hR hi o) ⟨rfl, rfl, rfl, xd_X6_askedState, ⟨Nat.le_of_ble_eq_true rfl, Nat.le_of_ble_eq_true rfl⟩, Nat.le_of_ble_eq_true rfl, Nat.le_of_ble_eq_true rfl⟩ rfl hR.main (Nat.le_of_ble_eq_true rfl) (fun v1 w1 hp => ?_)
  obtain ⟨rfl, hw9⟩ := hp
  replace hw9 := hw9.symm
  subst hw9
  refine x_iret F rfl rfl dX6_asked_37 (Nat.le_refl _) (Nat.le_refl _) ?_
  exact ⟨_, rfl, rfl, rfl⟩
set_option maxRecDepth 100000 in
set_option maxHeartbeats 4000000 in
theorem c_many (hR : Rep Z K J w) {t : Nat} (ht : t ≤ 10) : Ci l D dA B yX6_many wX6_many 5 [.ref (Z 0 0), .int (nI t)] w (fun v w1 => v = .int (f_count K t) ∧ w1 = w) := by
  refine x_Ct.of (cc := cX6_many) (maxL := 2) (by decide) rfl (Nat.le_of_ble_eq_true rfl) ?_
  intro p e s m below meth c F
  refine x_iload_n F dX6_many_0 rfl rfl ?_
  refine x_if_lt F dX6_many_1 rfl (fun hc => absurd hc (nI_pos (by omega))) (fun h1 => ?_)
  refine x_iload_n F dX6_many_4 rfl rfl ?_
  refine x_bipush (v := 10) F dX6_many_5 (by decide) ?_
  refine x_icmp_le F dX6_many_7 rfl (fun h7 => ?_) (fun hc => absurd hc (fun q => q (nI_le (b := 10) (by omega) (by decide))))
  refine x_aload_n F dX6_many_20 rfl rfl ?_
  refine x_iload_n F dX6_many_21 rfl rfl ?_
  refine x_cVi1 (ci := 6) (C := RX6) (T := TX6) (N := 12) F dX6_many_22 (x_gV q381 q382 q464 q1 q383) rfl (c_countOf hR ht) ⟨rfl, rfl, rfl, xd_X6_countOf, ⟨Nat.le_of_ble_eq_true rfl, Nat.le_of_ble_eq_true rfl⟩, Nat.le_of_ble_eq_true rfl, Nat.le_of_ble_eq_true rfl⟩ rfl hR.main (Nat.le_of_ble_eq_true rfl) (fun v1 w1 hp => ?_)
  obtain ⟨rfl, hw9⟩ := hp
  replace hw9 := hw9.symm
  subst hw9
  refine x_iret F rfl rfl dX6_many_25 (Nat.le_refl _) (Nat.le_refl _) ?_
  exact ⟨_, rfl, rfl, rfl⟩
set_option maxRecDepth 100000 in
set_option maxHeartbeats 4000000 in
theorem c_wouldCome (hR : Rep Z K J w) {k : Nat} (hk : k < nc K) {n : Nat} (hn : n ≤ 100) : Ci l D dA B yX6_wouldCome wX6_wouldCome 10 [.ref (Z 0 0), .int (nI k), .int (nI n)] w (QP Z K w (f_ocin K k (nI n))) := by
  refine x_Ct.of (cc := cX6_wouldCome) (maxL := 4) (by decide) rfl (Nat.le_of_ble_eq_true rfl) ?_
  intro p e s m below meth c F
  refine x_aload_n F dX6_wouldCome_0 rfl rfl ?_
  refine x_iload_n F dX6_wouldCome_1 rfl rfl ?_
  refine x_cVi1 (ci := 6) (C := RX6) (T := TX6) (N := 12) F dX6_wouldCome_2 (x_gV q272 q273 q456 q1 q274) rfl (c_clientAt hR (nI k)) ⟨rfl, rfl, rfl, xd_X6_clientAt, ⟨Nat.le_of_ble_eq_true rfl, Nat.le_of_ble_eq_true rfl⟩, Nat.le_of_ble_eq_true rfl, Nat.le_of_ble_eq_true rfl⟩ rfl hR.main (Nat.le_of_ble_eq_true rfl) (fun v1 w1 hp => ?_)
  obtain ⟨rfl, hw9⟩ := hp
  replace hw9 := hw9.symm
  subst hw9
  rw [cliAt_some hR hk]
  refine x_astore_n F dX6_wouldCome_5 rfl (by decide) ?_
  refine x_aload_n F dX6_wouldCome_6 rfl rfl ?_
  refine x_ifnonnull F dX6_wouldCome_7 rfl ?_
  refine x_iload_n F dX6_wouldCome_20 rfl rfl ?_
  refine x_if_lt F dX6_wouldCome_21 rfl (fun hc => absurd hc (nI_pos (by omega))) (fun h21 => ?_)
  refine x_iload_n F dX6_wouldCome_24 rfl rfl ?_
  refine x_bipush (v := 100) F dX6_wouldCome_25 (by decide) ?_
  refine x_icmp_le F dX6_wouldCome_27 rfl (fun h27 => ?_) (fun hc => absurd hc (fun q => q (nI_le (b := 100) (by omega) (by decide))))
  refine x_aload_n F dX6_wouldCome_40 rfl rfl ?_
  refine x_aload_n F dX6_wouldCome_41 rfl rfl ?_
  refine x_iload_n F dX6_wouldCome_42 rfl rfl ?_
  refine x_cVi2 (ci := 6) (C := RX6) (T := TX6) (N := 12) F dX6_wouldCome_43 (x_gV q391 q392 q466 q1 q393) rfl (c_outcomeIn hR hk (nI n)) ⟨rfl, rfl, rfl, xd_X6_outcomeIn, ⟨Nat.le_of_ble_eq_true rfl, Nat.le_of_ble_eq_true rfl⟩, Nat.le_of_ble_eq_true rfl, Nat.le_of_ble_eq_true rfl⟩ rfl hR.main (Nat.le_of_ble_eq_true rfl) (fun v1 w1 hp => ?_)
  obtain ⟨J2, rfl, h5⟩ := hp
  refine x_iret F rfl rfl dX6_wouldCome_46 (Nat.le_refl _) (Nat.le_refl _) ?_
  exact ⟨_, rfl, J2, rfl, h5⟩
set_option maxRecDepth 100000 in
set_option maxHeartbeats 4000000 in
theorem c_target (hR : Rep Z K J w) {k : Nat} (hk : k < nc K) : Ci l D dA B yX6_target wX6_target 2 [.ref (Z 0 0), .int (nI k)] w (fun v w1 => v = .int (f_near K k 6).1 ∧ w1 = w) := by
  refine x_Ct.of (cc := cX6_target) (maxL := 3) (by decide) rfl (Nat.le_of_ble_eq_true rfl) ?_
  intro p e s m below meth c F
  refine x_aload_n F dX6_target_0 rfl rfl ?_
  refine x_iload_n F dX6_target_1 rfl rfl ?_
  refine x_cVi1 (ci := 6) (C := RX6) (T := TX6) (N := 12) F dX6_target_2 (x_gV q272 q273 q456 q1 q274) rfl (c_clientAt hR (nI k)) ⟨rfl, rfl, rfl, xd_X6_clientAt, ⟨Nat.le_of_ble_eq_true rfl, Nat.le_of_ble_eq_true rfl⟩, Nat.le_of_ble_eq_true rfl, Nat.le_of_ble_eq_true rfl⟩ rfl hR.main (Nat.le_of_ble_eq_true rfl) (fun v1 w1 hp => ?_)
  obtain ⟨rfl, hw9⟩ := hp
  replace hw9 := hw9.symm
  subst hw9
  rw [cliAt_some hR hk]
  refine x_astore_n F dX6_target_5 rfl (by decide) ?_
  refine x_aload_n F dX6_target_6 rfl rfl ?_
  refine x_ifnonnull F dX6_target_7 rfl ?_
  refine x_aload_n F dX6_target_20 rfl rfl ?_
  refine x_aload_n F dX6_target_21 rfl rfl ?_
  refine x_cVi1 (ci := 6) (C := RX6) (T := TX6) (N := 12) F dX6_target_22 (x_gV q401 q402 q468 q1 q403) rfl (c_nearestOpen hR hk) ⟨rfl, rfl, rfl, xd_X6_nearestOpen, ⟨Nat.le_of_ble_eq_true rfl, Nat.le_of_ble_eq_true rfl⟩, Nat.le_of_ble_eq_true rfl, Nat.le_of_ble_eq_true rfl⟩ rfl hR.main (Nat.le_of_ble_eq_true rfl) (fun v1 w1 hp => ?_)
  obtain ⟨rfl, hw9⟩ := hp
  replace hw9 := hw9.symm
  subst hw9
  refine x_iret F rfl rfl dX6_target_25 (Nat.le_refl _) (Nat.le_refl _) ?_
  exact ⟨_, rfl, rfl, rfl⟩
end ASK
