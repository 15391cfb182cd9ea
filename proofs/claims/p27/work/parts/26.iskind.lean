/-! ===== isKind ===== -/
section KWK
variable {l : Launch} {D : va_G} {dA : Nat → ClassId} {B : Nat} {Z : Nat → Nat → Nat} {K : kT} {J : jT} {w : xW}
set_option maxRecDepth 100000 in
set_option maxHeartbeats 4000000 in
theorem c_isKind {K1 : kT} {h : Int32} {V C n : Nat} (hR : Rep Z K J w) (hI : Inv K V C n) (hn : n ≤ 800) (hK1 : (f_hour K).1 = K1) (hg : (f_hour K).2 = f_cnt (q_goes K h) V) (hF : KF K K1 V C n h) : x_Ci l D dA vwCl tyL0 B yL_isKind wL_isKind (rmd 11 10 60) [.ref (Z 0 0), .int (nI V), .int (nI C)] w (fun v w1 => v = .int 1 ∧ ∃ J1, Rep Z K1 J1 w1 ∧ ∀ b x, w b = some x → NL Z K b → w1 b = some x) 10 60 := by
  refine x_Ct.of (cc := cL_isKind) (maxL := 12) (by decide) rfl (Nat.le_of_ble_eq_true rfl) ?_
  intro p e s m below meth c F
  obtain ⟨t0, _, _, _, hG0, ht0, -, -, -, -, -, hIV⟩ := id hI
  have hV6 : V ≤ 6 := hIV.2.2.2.1
  have hC10 : C ≤ 10 := hIV.2.2.2.2.1
  obtain ⟨hh, hN1, hC1, hCV1, hI1, f1, f2, f3, f4, f5, f6⟩ := hF
  obtain ⟨t1, _, _, _, _, _, -, -, -, -, -, hIV1⟩ := id hI1
  have hv : ∀ i, i < V → vOk K i := fun i hi => hIV.vok hi
  have hv1 : ∀ i, i < V → vOk K1 i := fun i hi => hIV1.vok hi
  have hnc : ∀ k, k < C → k < nc K := fun k hk => by rw [hIV.2.2.1]; exact hk
  have hnc1 : ∀ k, k < C → k < nc K1 := fun k hk => by rw [hIV1.2.2.1]; exact hk
  refine x_iload_n F dL_isKind_0 rfl rfl ?_
  refine x_newa (t := 0) (N := V) F dL_isKind_1 rfl q44 (nI_pos (by omega)) (nI_clamp (by omega)) (by show V * 4 ≤ 536870912; omega) (Nat.le_of_ble_eq_true rfl) (by show 0 + V ≤ 60; omega) (fun a ha => ?_)
  refine x_wd (fun w1 hw1 => ?_)
  refine x_widen (n1 := 1) (n2 := 6) (by omega) (by omega) ?_
  refine x_astore_n F dL_isKind_3 rfl (by decide) ?_
  refine x_iload_n F dL_isKind_4 rfl rfl ?_
  refine x_iconst (v := 5) F dL_isKind_5 (by decide) ?_
  refine x_mna (t := 5) (t0 := 0) (K := 5) F dL_isKind_6 rfl rfl q436 (x6 (x_Fix.xt F)) q44 (nI_pos (by omega)) (by decide) (nI_clamp (n := V) (by omega)) rfl (by omega) (Nat.le_of_ble_eq_true rfl) (Nat.le_of_ble_eq_true rfl) (by show 1 + (1 + V) ≤ 10; omega) (by show 6 + (V + V * 5) ≤ 60; omega) (fun q hq => ?_)
  refine x_wd (fun w2 hw2 => ?_)
  refine x_widen (n1 := 8) (n2 := 42) (by omega) (by omega) ?_
  refine x_astore F dL_isKind_10 (by decide) ?_
  refine x_iload_n F dL_isKind_12 rfl rfl ?_
  refine x_newa (t := 0) (N := V) F dL_isKind_13 rfl q44 (nI_pos (by omega)) (nI_clamp (by omega)) (by show V * 4 ≤ 536870912; omega) (Nat.le_of_ble_eq_true rfl) (by show 42 + V ≤ 60; omega) (fun en hen => ?_)
  refine x_wd (fun w3 hw3 => ?_)
  refine x_widen (n1 := 9) (n2 := 48) (by omega) (by omega) ?_
  obtain ⟨hSA, hS, hR⟩ := SK.mk0 hR hV6 ha hw1 hq hw2 hen hw3
  obtain ⟨-, -, -, -, -, -, hNa, hNe, hNq, hNr⟩ := id hSA
  have hO : Oth Z K w3 w3 := Oth.rfl
  refine x_astore F dL_isKind_15 (by decide) ?_
  refine x_iconst (v := 0) F dL_isKind_17 (by decide) ?_
  refine x_istore F dL_isKind_18 (by decide) ?_
  have L1 : ∀ n1 k, k + n1 = V → ∀ J1 wz u fs fe fr, Rep Z K J1 wz → Oth Z K u wz → SK w u V a q en fs fe fr → (∀ i, i < k → fs i = kV K i 2 ∧ fe i = kV K i 7 ∧ ∀ o, o < 5 → fr i o = f_askst K (nI o) i) → X p l e (rmd 11 10 60) s m #[.ref (Z 0 0), .int (nI V), .int (nI C)] below meth c (MQ below (x_Q D dA vwCl tyL0 B (fun r w1 => ∃ v, r = some v ∧ (v = .int 1 ∧ ∃ J1, Rep Z K1 J1 w1 ∧ ∀ b x, w b = some x → NL Z K b → w1 b = some x))) #[.ref (Z 0 0), .int (nI V), .int (nI C)] s 10 60 (fun q => B ≤ q)) D dA vwCl B 12 9 48 20 [(0, .ref (Z 0 0)), (1, .int (nI V)), (2, .int (nI C)), (3, .ref a), (4, .ref q), (5, .ref en), (6, .int (nI k))] [] wz := by
    intro n1
    induction n1 with
    | zero =>
      intro k hk1 J1 wz u fs fe fr hR hO hS hA
      obtain rfl : V = k := by omega
      refine x_iload F dL_isKind_20 rfl ?_
      refine x_iload_n F dL_isKind_22 rfl rfl ?_
      refine x_icmp_ge F dL_isKind_23 rfl (fun h23 => ?_) (fun hc => absurd hc (fun q => q (Int32.le_refl _)))
      refine x_iload_n F dL_isKind_89 rfl rfl ?_
      refine x_newa (t := 0) (N := C) F dL_isKind_90 rfl q44 (nI_pos (by omega)) (nI_clamp (by omega)) (by show C * 4 ≤ 536870912; omega) (Nat.le_of_ble_eq_true rfl) (by show 48 + C ≤ 60; omega) (fun wd hwd => ?_)
      refine x_wd (fun w4 hw4 => ?_)
      refine x_widen (n1 := 10) (n2 := 60) (by omega) (by omega) ?_
      have hW := hS.more hSA hO hR hwd
      have hR : Rep Z K J1 w4 := by rw [hw4]; exact hR.side hW.1 _
      have hO : Oth Z K (x_set u wd (aI C (fun _ => 0))) w4 := by rw [hw4]; exact hO.side wd _
      refine x_astore F dL_isKind_92 (by decide) ?_
      refine x_iconst (v := 0) F dL_isKind_94 (by decide) ?_
      refine x_istore F dL_isKind_95 (by decide) ?_
      have L2 : ∀ n1 k, k + n1 = C → ∀ J1 wz u fw, Rep Z K J1 wz → Oth Z K u wz → SK w u V a q en fs fe fr → u wd = some (aI C fw) → (∀ i, i < k → fw i = f_ocin K i 1) → X p l e (rmd 11 10 60) s m #[.ref (Z 0 0), .int (nI V), .int (nI C)] below meth c (MQ below (x_Q D dA vwCl tyL0 B (fun r w1 => ∃ v, r = some v ∧ (v = .int 1 ∧ ∃ J1, Rep Z K1 J1 w1 ∧ ∀ b x, w b = some x → NL Z K b → w1 b = some x))) #[.ref (Z 0 0), .int (nI V), .int (nI C)] s 10 60 (fun q => B ≤ q)) D dA vwCl B 12 10 60 97 [(0, .ref (Z 0 0)), (1, .int (nI V)), (2, .int (nI C)), (3, .ref a), (4, .ref q), (5, .ref en), (6, .ref wd), (7, .int (nI k))] [] wz := by
        intro n1
        induction n1 with
        | zero =>
          intro k hk1 J1 wz u fw hR hO hS hUw hWf
          obtain rfl : C = k := by omega
          refine x_iload F dL_isKind_97 rfl ?_
          refine x_iload_n F dL_isKind_99 rfl rfl ?_
          refine x_icmp_ge F dL_isKind_100 rfl (fun h100 => ?_) (fun hc => absurd hc (fun q => q (Int32.le_refl _)))
          refine x_aload_n F dL_isKind_121 rfl rfl ?_
          refine x_iconst (v := 1) F dL_isKind_122 (by decide) ?_
          refine x_cVi1 (ci := 6) (C := RX6) (T := TX6) (N := 12) F dL_isKind_123 (x_gV q437 q438 q439 q1 q440) rfl (k_pass hR hK1 hg) ⟨rfl, rfl, rfl, xd_X6_pass, ⟨Nat.le_of_ble_eq_true rfl, Nat.le_of_ble_eq_true rfl⟩, Nat.le_of_ble_eq_true rfl, Nat.le_of_ble_eq_true rfl⟩ rfl hR.main (Nat.le_of_ble_eq_true rfl) (fun v1 w1 hp => ?_)
          obtain ⟨J2, rfl, hR, hO2⟩ := hp
          have hO := hO.trans hO2 rfl
          refine x_istore F dL_isKind_126 (by decide) ?_
          refine x_iconst (v := 0) F dL_isKind_128 (by decide) ?_
          refine x_istore F dL_isKind_129 (by decide) ?_
          have L3 : ∀ n1 k, k + n1 = C → ∀ J1 wz, Rep Z K1 J1 wz → Oth Z K u wz → X p l e (rmd 11 10 60) s m #[.ref (Z 0 0), .int (nI V), .int (nI C)] below meth c (MQ below (x_Q D dA vwCl tyL0 B (fun r w1 => ∃ v, r = some v ∧ (v = .int 1 ∧ ∃ J1, Rep Z K1 J1 w1 ∧ ∀ b x, w b = some x → NL Z K b → w1 b = some x))) #[.ref (Z 0 0), .int (nI V), .int (nI C)] s 10 60 (fun q => B ≤ q)) D dA vwCl B 12 10 60 131 [(0, .ref (Z 0 0)), (1, .int (nI V)), (2, .int (nI C)), (3, .ref a), (4, .ref q), (5, .ref en), (6, .ref wd), (7, .int (nI (f_cnt (q_goes K h) V))), (8, .int (nI k))] [] wz := by
            intro n1
            induction n1 with
            | zero =>
              intro k hk1 J1 wz hR hO
              obtain rfl : C = k := by omega
              refine x_iload F dL_isKind_131 rfl ?_
              refine x_iload_n F dL_isKind_133 rfl rfl ?_
              refine x_icmp_ge F dL_isKind_134 rfl (fun h134 => ?_) (fun hc => absurd hc (fun q => q (Int32.le_refl _)))
              refine x_iconst (v := 0) F dL_isKind_160 (by decide) ?_
              refine x_istore F dL_isKind_161 (by decide) ?_
              have L4 : ∀ n1 k, k + n1 = V → ∀ J1 wz, Rep Z K1 J1 wz → Oth Z K u wz → X p l e (rmd 11 10 60) s m #[.ref (Z 0 0), .int (nI V), .int (nI C)] below meth c (MQ below (x_Q D dA vwCl tyL0 B (fun r w1 => ∃ v, r = some v ∧ (v = .int 1 ∧ ∃ J1, Rep Z K1 J1 w1 ∧ ∀ b x, w b = some x → NL Z K b → w1 b = some x))) #[.ref (Z 0 0), .int (nI V), .int (nI C)] s 10 60 (fun q => B ≤ q)) D dA vwCl B 12 10 60 163 [(0, .ref (Z 0 0)), (1, .int (nI V)), (2, .int (nI C)), (3, .ref a), (4, .ref q), (5, .ref en), (6, .ref wd), (7, .int (nI (f_cnt (q_goes K h) V - f_cnt (q_goes K h) k))), (8, .int (nI k))] [] wz := by
                intro n1
                induction n1 with
                | zero =>
                  intro k hk1 J1 wz hR hO
                  obtain rfl : V = k := by omega
                  refine x_iload F dL_isKind_163 rfl ?_
                  refine x_iload_n F dL_isKind_165 rfl rfl ?_
                  refine x_icmp_ge F dL_isKind_166 rfl (fun h166 => ?_) (fun hc => absurd hc (fun q => q (Int32.le_refl _)))
                  refine x_iload F dL_isKind_343 rfl ?_
                  rw [Nat.sub_self]
                  refine x_if_ne F dL_isKind_345 rfl (fun hc => absurd hc (fun q => q rfl)) (fun h345 => ?_)
                  refine x_iconst (v := 1) F dL_isKind_348 (by decide) ?_
                  refine x_goto F dL_isKind_349 rfl ?_
                  refine x_iret F rfl rfl dL_isKind_353 (Nat.le_refl _) (Nat.le_refl _) ?_
                  exact ⟨_, rfl, rfl, J1, hR, fun b x hb hn0 => hO.at hn0 (hS.2.2.2.2 b x hb)⟩
                | succ n1 ih =>
                  intro k hk1 J1 wz hR hO
                  have hk : k < V := by omega
                  have next : ∀ J1 wz, Rep Z K1 J1 wz → Oth Z K u wz → X p l e (rmd 11 10 60) s m #[.ref (Z 0 0), .int (nI V), .int (nI C)] below meth c (MQ below (x_Q D dA vwCl tyL0 B (fun r w1 => ∃ v, r = some v ∧ (v = .int 1 ∧ ∃ J1, Rep Z K1 J1 w1 ∧ ∀ b x, w b = some x → NL Z K b → w1 b = some x))) #[.ref (Z 0 0), .int (nI V), .int (nI C)] s 10 60 (fun q => B ≤ q)) D dA vwCl B 12 10 60 337 [(0, .ref (Z 0 0)), (1, .int (nI V)), (2, .int (nI C)), (3, .ref a), (4, .ref q), (5, .ref en), (6, .ref wd), (7, .int (nI (f_cnt (q_goes K h) V - f_cnt (q_goes K h) (k + 1)))), (8, .int (nI k))] [] wz := by
                    intro J1 wz hR hO
                    refine x_iincN F dL_isKind_337 (by decide) rfl (by decide) ?_
                    refine x_goto F dL_isKind_340 rfl ?_
                    exact x_lk (ih (k + 1) (by omega) _ _ hR hO) ⟨rfl, rfl, rfl, rfl, rfl, rfl, rfl, rfl, rfl, trivial⟩
                  by_cases sv : kV K k 2 = 1
                  · have ecs : f_cnt (q_goes K h) (k + 1) = f_cnt (q_goes K h) k + (if q_goes K h k = true then 1 else 0) := rfl
                    by_cases sv1 : kV K1 k 2 = 1
                    · have ec : f_cnt (q_goes K h) (k + 1) = f_cnt (q_goes K h) k := f_cnt_f (by cases z : q_goes K h k; · rfl
                                                                                                 · exact absurd sv1 (f5 k hk z).2)
                      rw [ec] at next
                      refine x_iload F dL_isKind_163 rfl ?_
                      refine x_iload_n F dL_isKind_165 rfl rfl ?_
                      refine x_icmp_ge F dL_isKind_166 rfl (fun hc => absurd hc (nI_ge hk (by omega))) (fun h166 => ?_)
                      refine x_aload_n F dL_isKind_169 rfl rfl ?_
                      refine x_iconst (v := 0) F dL_isKind_170 (by decide) ?_
                      refine x_iload F dL_isKind_171 rfl ?_
                      refine x_iconst (v := 2) F dL_isKind_173 (by decide) ?_
                      refine x_cVi3 (ci := 6) (C := RX6) (T := TX6) (N := 12) F dL_isKind_174 (x_gV q173 q174 q175 q1 q176) rfl (k_ver2 hR (hv1 k hk) (by omega)) ⟨rfl, rfl, rfl, xd_X6_ofVersion, ⟨Nat.le_of_ble_eq_true rfl, Nat.le_of_ble_eq_true rfl⟩, Nat.le_of_ble_eq_true rfl, Nat.le_of_ble_eq_true rfl⟩ rfl hR.main (Nat.le_of_ble_eq_true rfl) (fun v1 w1 hp => ?_)
                      obtain ⟨J2, rfl, hR, hO2⟩ := hp
                      have hO := hO.trans hO2 hN1
                      refine x_istore F dL_isKind_177 (by decide) ?_
                      refine x_aload_n F dL_isKind_179 rfl rfl ?_
                      refine x_iload F dL_isKind_180 rfl ?_
                      refine x_ialdN F dL_isKind_182 rfl (hO.at hNa hS.1) hk (by omega) ?_
                      rw [(hA k hk).1]
                      refine x_iconst (v := 1) F dL_isKind_183 (by decide) ?_
                      refine x_icmp_eq F dL_isKind_184 rfl (fun h184 => ?_) (fun hc => absurd hc (fun q => q sv))
                      refine x_aload_n F dL_isKind_198 rfl rfl ?_
                      refine x_iload F dL_isKind_199 rfl ?_
                      refine x_ialdN F dL_isKind_201 rfl (hO.at hNa hS.1) hk (by omega) ?_
                      rw [(hA k hk).1]
                      refine x_iconst (v := 1) F dL_isKind_202 (by decide) ?_
                      refine x_icmp_ne F dL_isKind_203 rfl (fun hc => absurd hc (fun q => q sv)) (fun h203 => ?_)
                      refine x_iload F dL_isKind_206 rfl ?_
                      refine x_iconst (v := 1) F dL_isKind_208 (by decide) ?_
                      refine x_icmp_ne F dL_isKind_209 rfl (fun hc => absurd hc (fun q => q sv1)) (fun h209 => ?_)
                      refine x_iload F dL_isKind_212 rfl ?_
                      refine x_iconst (v := 1) F dL_isKind_214 (by decide) ?_
                      refine x_icmp_ne F dL_isKind_215 rfl (fun hc => absurd hc (fun q => q sv1)) (fun h215 => ?_)
                      refine x_aload_n F dL_isKind_218 rfl rfl ?_
                      refine x_iconst (v := 0) F dL_isKind_219 (by decide) ?_
                      refine x_iload F dL_isKind_220 rfl ?_
                      refine x_iconst (v := 4) F dL_isKind_222 (by decide) ?_
                      refine x_cVi3 (ci := 6) (C := RX6) (T := TX6) (N := 12) F dL_isKind_223 (x_gV q173 q174 q175 q1 q176) rfl (k_ver4 hR (hv1 k hk) (by omega)) ⟨rfl, rfl, rfl, xd_X6_ofVersion, ⟨Nat.le_of_ble_eq_true rfl, Nat.le_of_ble_eq_true rfl⟩, Nat.le_of_ble_eq_true rfl, Nat.le_of_ble_eq_true rfl⟩ rfl hR.main (Nat.le_of_ble_eq_true rfl) (fun v1 w1 hp => ?_)
                      obtain ⟨J2, rfl, hR, hO2⟩ := hp
                      have hO := hO.trans hO2 hN1
                      refine x_aload_n F dL_isKind_226 rfl rfl ?_
                      refine x_bipush (v := 10) F dL_isKind_227 (by decide) ?_
                      refine x_cVi1 (ci := 6) (C := RX6) (T := TX6) (N := 12) F dL_isKind_229 (x_gV q377 q378 q379 q1 q380) rfl (k_now hR) ⟨rfl, rfl, rfl, xd_X6_many, ⟨Nat.le_of_ble_eq_true rfl, Nat.le_of_ble_eq_true rfl⟩, Nat.le_of_ble_eq_true rfl, Nat.le_of_ble_eq_true rfl⟩ rfl hR.main (Nat.le_of_ble_eq_true rfl) (fun v1 w1 hp => ?_)
                      obtain ⟨rfl, hw9⟩ := hp
                      replace hw9 := hw9.symm
                      subst hw9
                      refine x_icmp_gt F dL_isKind_232 rfl (fun h232 => ?_) (fun hc => absurd hc (fun q => q (by rw [hh]; exact f3 k hk sv1)))
                      exact x_lk (next _ _ hR hO) ⟨rfl, rfl, rfl, rfl, rfl, rfl, rfl, rfl, rfl, trivial⟩
                    · have hq := (f4 k hk sv sv1).1
                      have ec : f_cnt (q_goes K h) (k + 1) = f_cnt (q_goes K h) k + 1 := f_cnt_t hq
                      have eg : nI (f_cnt (q_goes K h) V - f_cnt (q_goes K h) k) + (-1) = nI (f_cnt (q_goes K h) V - f_cnt (q_goes K h) (k + 1)) := by
                        have hm := f_cnt_mono (q_goes K h) (show k + 1 ≤ V from hk)
                        rw [show f_cnt (q_goes K h) V - f_cnt (q_goes K h) k = (f_cnt (q_goes K h) V - f_cnt (q_goes K h) (k + 1)) + 1 by omega, pk_m1]
                      refine x_iload F dL_isKind_163 rfl ?_
                      refine x_iload_n F dL_isKind_165 rfl rfl ?_
                      refine x_icmp_ge F dL_isKind_166 rfl (fun hc => absurd hc (nI_ge hk (by omega))) (fun h166 => ?_)
                      refine x_aload_n F dL_isKind_169 rfl rfl ?_
                      refine x_iconst (v := 0) F dL_isKind_170 (by decide) ?_
                      refine x_iload F dL_isKind_171 rfl ?_
                      refine x_iconst (v := 2) F dL_isKind_173 (by decide) ?_
                      refine x_cVi3 (ci := 6) (C := RX6) (T := TX6) (N := 12) F dL_isKind_174 (x_gV q173 q174 q175 q1 q176) rfl (k_ver2 hR (hv1 k hk) (by omega)) ⟨rfl, rfl, rfl, xd_X6_ofVersion, ⟨Nat.le_of_ble_eq_true rfl, Nat.le_of_ble_eq_true rfl⟩, Nat.le_of_ble_eq_true rfl, Nat.le_of_ble_eq_true rfl⟩ rfl hR.main (Nat.le_of_ble_eq_true rfl) (fun v1 w1 hp => ?_)
                      obtain ⟨J2, rfl, hR, hO2⟩ := hp
                      have hO := hO.trans hO2 hN1
                      refine x_istore F dL_isKind_177 (by decide) ?_
                      refine x_aload_n F dL_isKind_179 rfl rfl ?_
                      refine x_iload F dL_isKind_180 rfl ?_
                      refine x_ialdN F dL_isKind_182 rfl (hO.at hNa hS.1) hk (by omega) ?_
                      rw [(hA k hk).1]
                      refine x_iconst (v := 1) F dL_isKind_183 (by decide) ?_
                      refine x_icmp_eq F dL_isKind_184 rfl (fun h184 => ?_) (fun hc => absurd hc (fun q => q sv))
                      refine x_aload_n F dL_isKind_198 rfl rfl ?_
                      refine x_iload F dL_isKind_199 rfl ?_
                      refine x_ialdN F dL_isKind_201 rfl (hO.at hNa hS.1) hk (by omega) ?_
                      rw [(hA k hk).1]
                      refine x_iconst (v := 1) F dL_isKind_202 (by decide) ?_
                      refine x_icmp_ne F dL_isKind_203 rfl (fun hc => absurd hc (fun q => q sv)) (fun h203 => ?_)
                      refine x_iload F dL_isKind_206 rfl ?_
                      refine x_iconst (v := 1) F dL_isKind_208 (by decide) ?_
                      refine x_icmp_ne F dL_isKind_209 rfl (fun h209 => ?_) (fun hc => absurd hc sv1)
                      refine x_iinc (v := (-1)) F dL_isKind_237 (by decide) rfl (by decide) ?_
                      rw [eg]
                      refine x_aload F dL_isKind_240 rfl ?_
                      refine x_iload F dL_isKind_242 rfl ?_
                      refine x_ialdN F dL_isKind_244 rfl (hO.at hNe hS.2.1) hk (by omega) ?_
                      rw [(hA k hk).2.1]
                      refine x_aload_n F dL_isKind_245 rfl rfl ?_
                      refine x_bipush (v := 10) F dL_isKind_246 (by decide) ?_
                      refine x_cVi1 (ci := 6) (C := RX6) (T := TX6) (N := 12) F dL_isKind_248 (x_gV q377 q378 q379 q1 q380) rfl (k_now hR) ⟨rfl, rfl, rfl, xd_X6_many, ⟨Nat.le_of_ble_eq_true rfl, Nat.le_of_ble_eq_true rfl⟩, Nat.le_of_ble_eq_true rfl, Nat.le_of_ble_eq_true rfl⟩ rfl hR.main (Nat.le_of_ble_eq_true rfl) (fun v1 w1 hp => ?_)
                      obtain ⟨rfl, hw9⟩ := hp
                      replace hw9 := hw9.symm
                      subst hw9
                      refine x_icmp_eq F dL_isKind_251 rfl (fun h251 => ?_) (fun hc => absurd hc (fun q => q ((f4 k hk sv sv1).2.trans hh.symm)))
                      refine x_iconst (v := 0) F dL_isKind_256 (by decide) ?_
                      refine x_istore F dL_isKind_257 (by decide) ?_
                      have L5 : ∀ n2 j, j + n2 = C → ∀ J1 wz, Rep Z K1 J1 wz → Oth Z K u wz → X p l e (rmd 11 10 60) s m #[.ref (Z 0 0), .int (nI V), .int (nI C)] below meth c (MQ below (x_Q D dA vwCl tyL0 B (fun r w1 => ∃ v, r = some v ∧ (v = .int 1 ∧ ∃ J1, Rep Z K1 J1 w1 ∧ ∀ b x, w b = some x → NL Z K b → w1 b = some x))) #[.ref (Z 0 0), .int (nI V), .int (nI C)] s 10 60 (fun q => B ≤ q)) D dA vwCl B 12 10 60 259 [(0, .ref (Z 0 0)), (1, .int (nI V)), (2, .int (nI C)), (3, .ref a), (4, .ref q), (5, .ref en), (6, .ref wd), (7, .int (nI (f_cnt (q_goes K h) V - f_cnt (q_goes K h) (k + 1)))), (8, .int (nI k)), (10, .int (nI j))] [] wz := by
                        intro n2
                        induction n2 with
                        | zero =>
                          intro j hj1 J1 wz hR hO
                          obtain rfl : C = j := by omega
                          refine x_iload F dL_isKind_259 rfl ?_
                          refine x_iload_n F dL_isKind_261 rfl rfl ?_
                          refine x_icmp_ge F dL_isKind_262 rfl (fun h262 => ?_) (fun hc => absurd hc (fun q => q (Int32.le_refl _)))
                          exact x_lk (next _ _ hR hO) ⟨rfl, rfl, rfl, rfl, rfl, rfl, rfl, rfl, rfl, trivial⟩
                        | succ n2 ih2 =>
                          intro j hj1 J1 wz hR hO
                          have hj : j < C := by omega
                          have nx : ∀ J1 wz, Rep Z K1 J1 wz → Oth Z K u wz → X p l e (rmd 11 10 60) s m #[.ref (Z 0 0), .int (nI V), .int (nI C)] below meth c (MQ below (x_Q D dA vwCl tyL0 B (fun r w1 => ∃ v, r = some v ∧ (v = .int 1 ∧ ∃ J1, Rep Z K1 J1 w1 ∧ ∀ b x, w b = some x → NL Z K b → w1 b = some x))) #[.ref (Z 0 0), .int (nI V), .int (nI C)] s 10 60 (fun q => B ≤ q)) D dA vwCl B 12 10 60 331 [(0, .ref (Z 0 0)), (1, .int (nI V)), (2, .int (nI C)), (3, .ref a), (4, .ref q), (5, .ref en), (6, .ref wd), (7, .int (nI (f_cnt (q_goes K h) V - f_cnt (q_goes K h) (k + 1)))), (8, .int (nI k)), (10, .int (nI j))] [] wz := by
                            intro J1 wz hR hO
                            refine x_iincN F dL_isKind_331 (by decide) rfl (by decide) ?_
                            refine x_goto F dL_isKind_334 rfl ?_
                            exact x_lk (ih2 (j + 1) (by omega) _ _ hR hO) ⟨rfl, rfl, rfl, rfl, rfl, rfl, rfl, rfl, rfl, rfl, trivial⟩
                          refine x_iload F dL_isKind_259 rfl ?_
                          refine x_iload_n F dL_isKind_261 rfl rfl ?_
                          refine x_icmp_ge F dL_isKind_262 rfl (fun hc => absurd hc (nI_ge hj (by omega))) (fun h262 => ?_)
                          refine x_aload_n F dL_isKind_265 rfl rfl ?_
                          refine x_iload F dL_isKind_266 rfl ?_
                          refine x_iload F dL_isKind_268 rfl ?_
                          refine x_cVi2 (ci := 6) (C := RX6) (T := TX6) (N := 12) F dL_isKind_270 (x_gV q341 q342 q343 q1 q344) rfl (k_last hIV1 hR hj hk) ⟨rfl, rfl, rfl, xd_X6_lastCall, ⟨Nat.le_of_ble_eq_true rfl, Nat.le_of_ble_eq_true rfl⟩, Nat.le_of_ble_eq_true rfl, Nat.le_of_ble_eq_true rfl⟩ rfl hR.main (Nat.le_of_ble_eq_true rfl) (fun v1 w1 hp => ?_)
                          obtain ⟨rfl, hw9⟩ := hp
                          replace hw9 := hw9.symm
                          subst hw9
                          refine x_istore F dL_isKind_273 (by decide) ?_
                          refine x_iload F dL_isKind_275 rfl ?_
                          refine x_if_lt F dL_isKind_277 rfl (fun h277 => ?_) (fun h277 => ?_)
                          · exact x_lk (nx _ _ hR hO) ⟨rfl, rfl, rfl, rfl, rfl, rfl, rfl, rfl, rfl, rfl, trivial⟩
                          · refine x_iload F dL_isKind_280 rfl ?_
                            refine x_bipush (v := 24) F dL_isKind_282 (by decide) ?_
                            refine x_icmp_ge F dL_isKind_284 rfl (fun h284 => ?_) (fun h284 => ?_)
                            · exact x_lk (nx _ _ hR hO) ⟨rfl, rfl, rfl, rfl, rfl, rfl, rfl, rfl, rfl, rfl, trivial⟩
                            · refine x_aload_n F dL_isKind_287 rfl rfl ?_
                              refine x_iload F dL_isKind_288 rfl ?_
                              refine x_iconst (v := 2) F dL_isKind_290 (by decide) ?_
                              refine x_cVi2 (ci := 6) (C := RX6) (T := TX6) (N := 12) F dL_isKind_291 (x_gV q298 q299 q300 q1 q301) rfl (k_cli2 hIV1 hR hj) ⟨rfl, rfl, rfl, xd_X6_ofClient, ⟨Nat.le_of_ble_eq_true rfl, Nat.le_of_ble_eq_true rfl⟩, Nat.le_of_ble_eq_true rfl, Nat.le_of_ble_eq_true rfl⟩ rfl hR.main (Nat.le_of_ble_eq_true rfl) (fun v1 w1 hp => ?_)
                              obtain ⟨J2, rfl, hR, hO2⟩ := hp
                              have hO := hO.trans hO2 hN1
                              refine x_iload F dL_isKind_294 rfl ?_
                              refine x_icmp_ne F dL_isKind_296 rfl (fun h296 => ?_) (fun h296 => ?_)
                              · exact x_lk (nx _ _ hR hO) ⟨rfl, rfl, rfl, rfl, rfl, rfl, rfl, rfl, rfl, rfl, trivial⟩
                              · refine x_aload_n F dL_isKind_299 rfl rfl ?_
                                refine x_iload F dL_isKind_300 rfl ?_
                                refine x_iconst (v := 0) F dL_isKind_302 (by decide) ?_
                                refine x_cVi2 (ci := 6) (C := RX6) (T := TX6) (N := 12) F dL_isKind_303 (x_gV q387 q388 q389 q1 q390) rfl (k_come0 hR (hnc1 j hj)) ⟨rfl, rfl, rfl, xd_X6_wouldCome, ⟨Nat.le_of_ble_eq_true rfl, Nat.le_of_ble_eq_true rfl⟩, Nat.le_of_ble_eq_true rfl, Nat.le_of_ble_eq_true rfl⟩ rfl hR.main (Nat.le_of_ble_eq_true rfl) (fun v1 w1 hp => ?_)
                                obtain ⟨J2, rfl, hR, hO2⟩ := hp
                                have hO := hO.trans hO2 hN1
                                refine x_iconst (v := 4) F dL_isKind_306 (by decide) ?_
                                refine x_icmp_eq F dL_isKind_307 rfl (fun h307 => ?_) (fun h307 => ?_)
                                · refine x_aload F dL_isKind_313 rfl ?_
                                  refine x_iload F dL_isKind_315 rfl ?_
                                  refine x_aaldA F dL_isKind_317 rfl (hO.at hNq hS.2.2.1) hk (by omega) (if_pos hk) ?_
                                  refine x_aload_n F dL_isKind_318 rfl rfl ?_
                                  refine x_iload F dL_isKind_319 rfl ?_
                                  refine x_iconst (v := 0) F dL_isKind_321 (by decide) ?_
                                  refine x_cVi2 (ci := 6) (C := RX6) (T := TX6) (N := 12) F dL_isKind_322 (x_gV q298 q299 q300 q1 q301) rfl (k_cli0 hR (hnc1 j hj)) ⟨rfl, rfl, rfl, xd_X6_ofClient, ⟨Nat.le_of_ble_eq_true rfl, Nat.le_of_ble_eq_true rfl⟩, Nat.le_of_ble_eq_true rfl, Nat.le_of_ble_eq_true rfl⟩ rfl hR.main (Nat.le_of_ble_eq_true rfl) (fun v1 w1 hp => ?_)
                                  obtain ⟨J2, rfl, hR, hO2⟩ := hp
                                  have hO := hO.trans hO2 hN1
                                  obtain ⟨o, ho5, hko⟩ := (hIV1.2.2.2.2.2.1 j hj).2
                                  rw [hko]
                                  refine x_ialdN F dL_isKind_325 rfl (hO.at (hNr k hk) (hS.2.2.2.1 k hk)) ho5 (by decide) ?_
                                  rw [(hA k hk).2.2 o ho5]
                                  refine x_if_ne F dL_isKind_326 rfl (fun h326 => ?_) (fun hc => absurd hc (f6 k j o hk hj ho5 hq (by rw [← hC1]; exact hko) h277 h284 ((nI_eq (by have := (hIV1.2.2.2.2.2.1 j hj).1; omega) (by omega)).mp h296) h307))
                                  exact x_lk (nx _ _ hR hO) ⟨rfl, rfl, rfl, rfl, rfl, rfl, rfl, rfl, rfl, rfl, trivial⟩
                                · refine x_goto F dL_isKind_310 rfl ?_
                                  exact x_lk (nx _ _ hR hO) ⟨rfl, rfl, rfl, rfl, rfl, rfl, rfl, rfl, rfl, rfl, trivial⟩
                      exact x_lk (L5 C 0 (by omega) _ _ hR hO) ⟨rfl, rfl, rfl, rfl, rfl, rfl, rfl, rfl, rfl, rfl, trivial⟩
                  · have ec : f_cnt (q_goes K h) (k + 1) = f_cnt (q_goes K h) k := f_cnt_f (by cases z : q_goes K h k; · rfl
                                                                                               · exact absurd (f5 k hk z).1 sv)
                    rw [ec] at next
                    refine x_iload F dL_isKind_163 rfl ?_
                    refine x_iload_n F dL_isKind_165 rfl rfl ?_
                    refine x_icmp_ge F dL_isKind_166 rfl (fun hc => absurd hc (nI_ge hk (by omega))) (fun h166 => ?_)
                    refine x_aload_n F dL_isKind_169 rfl rfl ?_
                    refine x_iconst (v := 0) F dL_isKind_170 (by decide) ?_
                    refine x_iload F dL_isKind_171 rfl ?_
                    refine x_iconst (v := 2) F dL_isKind_173 (by decide) ?_
                    refine x_cVi3 (ci := 6) (C := RX6) (T := TX6) (N := 12) F dL_isKind_174 (x_gV q173 q174 q175 q1 q176) rfl (k_ver2 hR (hv1 k hk) (by omega)) ⟨rfl, rfl, rfl, xd_X6_ofVersion, ⟨Nat.le_of_ble_eq_true rfl, Nat.le_of_ble_eq_true rfl⟩, Nat.le_of_ble_eq_true rfl, Nat.le_of_ble_eq_true rfl⟩ rfl hR.main (Nat.le_of_ble_eq_true rfl) (fun v1 w1 hp => ?_)
                    obtain ⟨J2, rfl, hR, hO2⟩ := hp
                    have hO := hO.trans hO2 hN1
                    refine x_istore F dL_isKind_177 (by decide) ?_
                    refine x_aload_n F dL_isKind_179 rfl rfl ?_
                    refine x_iload F dL_isKind_180 rfl ?_
                    refine x_ialdN F dL_isKind_182 rfl (hO.at hNa hS.1) hk (by omega) ?_
                    rw [(hA k hk).1]
                    refine x_iconst (v := 1) F dL_isKind_183 (by decide) ?_
                    refine x_icmp_eq F dL_isKind_184 rfl (fun hc => absurd hc sv) (fun h184 => ?_)
                    refine x_iload F dL_isKind_187 rfl ?_
                    refine x_aload_n F dL_isKind_189 rfl rfl ?_
                    refine x_iload F dL_isKind_190 rfl ?_
                    refine x_ialdN F dL_isKind_192 rfl (hO.at hNa hS.1) hk (by omega) ?_
                    rw [(hA k hk).1]
                    refine x_icmp_eq F dL_isKind_193 rfl (fun h193 => ?_) (fun hc => absurd hc (fun q => q (f2 k hk sv)))
                    refine x_aload_n F dL_isKind_198 rfl rfl ?_
                    refine x_iload F dL_isKind_199 rfl ?_
                    refine x_ialdN F dL_isKind_201 rfl (hO.at hNa hS.1) hk (by omega) ?_
                    rw [(hA k hk).1]
                    refine x_iconst (v := 1) F dL_isKind_202 (by decide) ?_
                    refine x_icmp_ne F dL_isKind_203 rfl (fun h203 => ?_) (fun hc => absurd hc sv)
                    refine x_iload F dL_isKind_212 rfl ?_
                    refine x_iconst (v := 1) F dL_isKind_214 (by decide) ?_
                    refine x_icmp_ne F dL_isKind_215 rfl (fun h215 => ?_) (fun hc => absurd hc (fun q => sv ((f2 k hk sv).symm.trans q)))
                    exact x_lk (next _ _ hR hO) ⟨rfl, rfl, rfl, rfl, rfl, rfl, rfl, rfl, rfl, trivial⟩
              exact x_lk (L4 V 0 (by omega) _ _ hR hO) ⟨rfl, rfl, rfl, rfl, rfl, rfl, rfl, rfl, rfl, trivial⟩
            | succ n1 ih =>
              intro k hk1 J1 wz hR hO
              have hk : k < C := by omega
              refine x_iload F dL_isKind_131 rfl ?_
              refine x_iload_n F dL_isKind_133 rfl rfl ?_
              refine x_icmp_ge F dL_isKind_134 rfl (fun hc => absurd hc (nI_ge hk (by omega))) (fun h134 => ?_)
              refine x_aload_n F dL_isKind_137 rfl rfl ?_
              refine x_iload F dL_isKind_138 rfl ?_
              refine x_iconst (v := 0) F dL_isKind_140 (by decide) ?_
              refine x_cVi2 (ci := 6) (C := RX6) (T := TX6) (N := 12) F dL_isKind_141 (x_gV q387 q388 q389 q1 q390) rfl (k_come0 hR (hnc1 k hk)) ⟨rfl, rfl, rfl, xd_X6_wouldCome, ⟨Nat.le_of_ble_eq_true rfl, Nat.le_of_ble_eq_true rfl⟩, Nat.le_of_ble_eq_true rfl, Nat.le_of_ble_eq_true rfl⟩ rfl hR.main (Nat.le_of_ble_eq_true rfl) (fun v1 w1 hp => ?_)
              obtain ⟨J2, rfl, hR, hO2⟩ := hp
              have hO := hO.trans hO2 hN1
              refine x_aload F dL_isKind_144 rfl ?_
              refine x_iload F dL_isKind_146 rfl ?_
              refine x_ialdN F dL_isKind_148 rfl (hO.at hW.1 hUw) hk (by omega) ?_
              rw [hWf k hk]
              refine x_icmp_eq F dL_isKind_149 rfl (fun h149 => ?_) (fun hc => absurd hc (fun q => q (f1 k hk)))
              refine x_iincN F dL_isKind_154 (by decide) rfl (by decide) ?_
              refine x_goto F dL_isKind_157 rfl ?_
              exact x_lk (ih (k + 1) (by omega) _ _ hR hO) ⟨rfl, rfl, rfl, rfl, rfl, rfl, rfl, rfl, rfl, trivial⟩
          exact x_lk (L3 C 0 (by omega) _ _ hR hO) ⟨rfl, rfl, rfl, rfl, rfl, rfl, rfl, rfl, rfl, trivial⟩
        | succ n1 ih =>
          intro k hk1 J1 wz u fw hR hO hS hUw hWf
          have hk : k < C := by omega
          refine x_iload F dL_isKind_97 rfl ?_
          refine x_iload_n F dL_isKind_99 rfl rfl ?_
          refine x_icmp_ge F dL_isKind_100 rfl (fun hc => absurd hc (nI_ge hk (by omega))) (fun h100 => ?_)
          refine x_aload F dL_isKind_103 rfl ?_
          refine x_iload F dL_isKind_105 rfl ?_
          refine x_aload_n F dL_isKind_107 rfl rfl ?_
          refine x_iload F dL_isKind_108 rfl ?_
          refine x_iconst (v := 1) F dL_isKind_110 (by decide) ?_
          refine x_cVi2 (ci := 6) (C := RX6) (T := TX6) (N := 12) F dL_isKind_111 (x_gV q387 q388 q389 q1 q390) rfl (k_come1 hR (hnc k hk)) ⟨rfl, rfl, rfl, xd_X6_wouldCome, ⟨Nat.le_of_ble_eq_true rfl, Nat.le_of_ble_eq_true rfl⟩, Nat.le_of_ble_eq_true rfl, Nat.le_of_ble_eq_true rfl⟩ rfl hR.main (Nat.le_of_ble_eq_true rfl) (fun v1 w1 hp => ?_)
          obtain ⟨J2, rfl, hR, hO2⟩ := hp
          have hO := hO.trans hO2 rfl
          refine x_iastN F dL_isKind_114 rfl (hO.at hW.1 hUw) hk (by omega) ?_
          refine x_wd (fun w2 hw2 => ?_)
          have hR : Rep Z K J2 w2 := by rw [hw2]; exact hR.side hW.1 _
          have hO : Oth Z K (x_set u wd (aI C (upd fw k (f_ocin K k 1)))) w2 := by rw [hw2]; exact hO.side wd _
          refine x_iincN F dL_isKind_115 (by decide) rfl (by decide) ?_
          refine x_goto F dL_isKind_118 rfl ?_
          exact x_lk (ih (k + 1) (by omega) _ _ _ _ hR hO (hS.setW hW _) (x_set_eq _ _ _) (fun i hi => by
            by_cases e : i = k
            · rw [e, pk_us]
            · rw [pk_un e]; exact hWf i (by omega))) ⟨rfl, rfl, rfl, rfl, rfl, rfl, rfl, rfl, trivial⟩
      exact x_lk (L2 C 0 (by omega) _ _ _ _ hR hO (hS.setW hW _) (x_set_eq _ _ _) (fun i hi => absurd hi (Nat.not_lt_zero _))) ⟨rfl, rfl, rfl, rfl, rfl, rfl, rfl, rfl, trivial⟩
    | succ n1 ih =>
      intro k hk1 J1 wz u fs fe fr hR hO hS hA
      have hk : k < V := by omega
      refine x_iload F dL_isKind_20 rfl ?_
      refine x_iload_n F dL_isKind_22 rfl rfl ?_
      refine x_icmp_ge F dL_isKind_23 rfl (fun hc => absurd hc (nI_ge hk (by omega))) (fun h23 => ?_)
      refine x_aload_n F dL_isKind_26 rfl rfl ?_
      refine x_iload F dL_isKind_27 rfl ?_
      refine x_aload_n F dL_isKind_29 rfl rfl ?_
      refine x_iconst (v := 0) F dL_isKind_30 (by decide) ?_
      refine x_iload F dL_isKind_31 rfl ?_
      refine x_iconst (v := 2) F dL_isKind_33 (by decide) ?_
      refine x_cVi3 (ci := 6) (C := RX6) (T := TX6) (N := 12) F dL_isKind_34 (x_gV q173 q174 q175 q1 q176) rfl (k_ver2 hR (hv k hk) (by omega)) ⟨rfl, rfl, rfl, xd_X6_ofVersion, ⟨Nat.le_of_ble_eq_true rfl, Nat.le_of_ble_eq_true rfl⟩, Nat.le_of_ble_eq_true rfl, Nat.le_of_ble_eq_true rfl⟩ rfl hR.main (Nat.le_of_ble_eq_true rfl) (fun v1 w1 hp => ?_)
      obtain ⟨J2, rfl, hR, hO2⟩ := hp
      have hO := hO.trans hO2 rfl
      refine x_iastN F dL_isKind_37 rfl (hO.at hNa hS.1) hk (by omega) ?_
      refine x_wd (fun w2 hw2 => ?_)
      have hR : Rep Z K J2 w2 := by rw [hw2]; exact hR.side hNa _
      have hO : Oth Z K (x_set u a (aI V (upd fs k (kV K k 2)))) w2 := by rw [hw2]; exact hO.side _ _
      have hS := hS.setS hSA (upd fs k (kV K k 2))
      refine x_aload F dL_isKind_38 rfl ?_
      refine x_iload F dL_isKind_40 rfl ?_
      refine x_aload_n F dL_isKind_42 rfl rfl ?_
      refine x_iconst (v := 0) F dL_isKind_43 (by decide) ?_
      refine x_iload F dL_isKind_44 rfl ?_
      refine x_iconst (v := 4) F dL_isKind_46 (by decide) ?_
      refine x_cVi3 (ci := 6) (C := RX6) (T := TX6) (N := 12) F dL_isKind_47 (x_gV q173 q174 q175 q1 q176) rfl (k_ver4 hR (hv k hk) (by omega)) ⟨rfl, rfl, rfl, xd_X6_ofVersion, ⟨Nat.le_of_ble_eq_true rfl, Nat.le_of_ble_eq_true rfl⟩, Nat.le_of_ble_eq_true rfl, Nat.le_of_ble_eq_true rfl⟩ rfl hR.main (Nat.le_of_ble_eq_true rfl) (fun v1 w1 hp => ?_)
      obtain ⟨J2, rfl, hR, hO2⟩ := hp
      have hO := hO.trans hO2 rfl
      refine x_iastN F dL_isKind_50 rfl (hO.at hNe hS.2.1) hk (by omega) ?_
      refine x_wd (fun w3 hw3 => ?_)
      have hR : Rep Z K J2 w3 := by rw [hw3]; exact hR.side hNe _
      have hO : Oth Z K (x_set (x_set u a (aI V (upd fs k (kV K k 2)))) en (aI V (upd fe k (kV K k 7)))) w3 := by rw [hw3]; exact hO.side _ _
      have hS := hS.setE hSA (upd fe k (kV K k 7))
      refine x_iconst (v := 0) F dL_isKind_51 (by decide) ?_
      refine x_istore F dL_isKind_52 (by decide) ?_
      have L1b : ∀ n2 o, o + n2 = 5 → ∀ J1 wz u fr, Rep Z K J1 wz → Oth Z K u wz → SK w u V a q en (upd fs k (kV K k 2)) (upd fe k (kV K k 7)) fr → (∀ i, i < k → ∀ o, o < 5 → fr i o = f_askst K (nI o) i) → (∀ o2, o2 < o → fr k o2 = f_askst K (nI o2) k) → X p l e (rmd 11 10 60) s m #[.ref (Z 0 0), .int (nI V), .int (nI C)] below meth c (MQ below (x_Q D dA vwCl tyL0 B (fun r w1 => ∃ v, r = some v ∧ (v = .int 1 ∧ ∃ J1, Rep Z K1 J1 w1 ∧ ∀ b x, w b = some x → NL Z K b → w1 b = some x))) #[.ref (Z 0 0), .int (nI V), .int (nI C)] s 10 60 (fun q => B ≤ q)) D dA vwCl B 12 9 48 54 [(0, .ref (Z 0 0)), (1, .int (nI V)), (2, .int (nI C)), (3, .ref a), (4, .ref q), (5, .ref en), (6, .int (nI k)), (7, .int (nI o))] [] wz := by
        intro n2
        induction n2 with
        | zero =>
          intro o ho1 J1 wz u fr hR hO hS hF1 hF2
          obtain rfl : o = 5 := by omega
          refine x_iload F dL_isKind_54 rfl ?_
          refine x_iconst (v := 5) F dL_isKind_56 (by decide) ?_
          refine x_icmp_ge F dL_isKind_57 rfl (fun h57 => ?_) (fun hc => absurd hc (fun q => q (by decide)))
          refine x_iincN F dL_isKind_83 (by decide) rfl (by decide) ?_
          refine x_goto F dL_isKind_86 rfl ?_
          exact x_lk (ih (k + 1) (by omega) _ _ _ _ _ _ hR hO hS (fun i hi => by
            by_cases e : i = k
            · rw [e, pk_us, pk_us]; exact ⟨rfl, rfl, hF2⟩
            · rw [pk_un e, pk_un e]; exact ⟨(hA i (by omega)).1, (hA i (by omega)).2.1, hF1 i (by omega)⟩)) ⟨rfl, rfl, rfl, rfl, rfl, rfl, rfl, trivial⟩
        | succ n2 ih2 =>
          intro o ho1 J1 wz u fr hR hO hS hF1 hF2
          have ho : o < 5 := by omega
          refine x_iload F dL_isKind_54 rfl ?_
          refine x_iconst (v := 5) F dL_isKind_56 (by decide) ?_
          refine x_icmp_ge F dL_isKind_57 rfl (fun hc => absurd hc (nI_ge (b := 5) ho (by decide))) (fun h57 => ?_)
          refine x_aload F dL_isKind_60 rfl ?_
          refine x_iload F dL_isKind_62 rfl ?_
          refine x_aaldA F dL_isKind_64 rfl (hO.at hNq hS.2.2.1) hk (by omega) (if_pos hk) ?_
          refine x_iload F dL_isKind_65 rfl ?_
          refine x_aload_n F dL_isKind_67 rfl rfl ?_
          refine x_iload F dL_isKind_68 rfl ?_
          refine x_iconst (v := 0) F dL_isKind_70 (by decide) ?_
          refine x_iload F dL_isKind_71 rfl ?_
          refine x_cVi3 (ci := 6) (C := RX6) (T := TX6) (N := 12) F dL_isKind_73 (x_gV q369 q370 q371 q1 q372) rfl (k_asked hR (hv k hk) (by omega) ho) ⟨rfl, rfl, rfl, xd_X6_asked, ⟨Nat.le_of_ble_eq_true rfl, Nat.le_of_ble_eq_true rfl⟩, Nat.le_of_ble_eq_true rfl, Nat.le_of_ble_eq_true rfl⟩ rfl hR.main (Nat.le_of_ble_eq_true rfl) (fun v1 w1 hp => ?_)
          obtain ⟨rfl, hw9⟩ := hp
          replace hw9 := hw9.symm
          subst hw9
          refine x_iastN F dL_isKind_76 rfl (hO.at (hNr k hk) (hS.2.2.2.1 k hk)) ho (by decide) ?_
          refine x_wd (fun w2 hw2 => ?_)
          have hR : Rep Z K J1 w2 := by rw [hw2]; exact hR.side (hNr k hk) _
          have hO : Oth Z K (x_set u (q + 1 + k) (aI 5 (upd (fr k) o (f_askst K (nI o) k)))) w2 := by rw [hw2]; exact hO.side _ _
          have hS := hS.setR hSA hk (upd (fr k) o (f_askst K (nI o) k))
          refine x_iincN F dL_isKind_77 (by decide) rfl (by decide) ?_
          refine x_goto F dL_isKind_80 rfl ?_
          exact x_lk (ih2 (o + 1) (by omega) _ _ _ _ hR hO hS (fun i hi o2 ho2 => by
            show (if i = k then _ else fr i) o2 = _
            rw [if_neg (by omega)]
            exact hF1 i hi o2 ho2) (fun o2 ho2 => by
            show (if k = k then _ else fr k) o2 = _
            rw [if_pos rfl]
            by_cases e : o2 = o
            · rw [e, pk_us]
            · rw [pk_un e]; exact hF2 o2 (by omega))) ⟨rfl, rfl, rfl, rfl, rfl, rfl, rfl, rfl, trivial⟩
      exact x_lk (L1b 5 0 (by omega) _ _ _ _ hR hO hS (fun i hi => (hA i hi).2.2) (fun o2 ho2 => absurd ho2 (Nat.not_lt_zero _))) ⟨rfl, rfl, rfl, rfl, rfl, rfl, rfl, rfl, trivial⟩
  exact x_lk (L1 V 0 (by omega) _ _ _ _ _ _ hR hO hS (fun i hi => absurd hi (Nat.not_lt_zero _))) ⟨rfl, rfl, rfl, rfl, rfl, rfl, rfl, trivial⟩
end KWK
