theorem dL_law_1813 : decode cL_law 1813 = .ok (.iinc 4 6, 3) := by decide +kernel
theorem dL_law_1816 : decode cL_law 1816 = .ok (.goto (-1793), 3) := by decide +kernel
theorem dL_law_23 : decode cL_law 23 = .ok (.iload 4, 2) := by decide +kernel
theorem dL_law_25 : decode cL_law 25 = .ok (.aload_n 0, 1) := by decide +kernel
theorem dL_law_26 : decode cL_law 26 = .ok (.arraylength, 1) := by decide +kernel
theorem dL_law_27 : decode cL_law 27 = .ok (.bipush 6, 2) := by decide +kernel
theorem dL_law_29 : decode cL_law 29 = .ok (.isub, 1) := by decide +kernel
theorem dL_law_30 : decode cL_law 30 = .ok (.if_icmp .gt 1789, 3) := by decide +kernel
theorem dL_law_1819 : decode cL_law 1819 = .ok (.iconst 1, 1) := by decide +kernel
theorem dL_law_33 : decode cL_law 33 = .ok (.aload_n 0, 1) := by decide +kernel
theorem dL_law_34 : decode cL_law 34 = .ok (.iload 4, 2) := by decide +kernel
theorem dL_law_36 : decode cL_law 36 = .ok (.iaload, 1) := by decide +kernel
theorem dL_law_37 : decode cL_law 37 = .ok (.bipush 31, 2) := by decide +kernel
theorem dL_law_39 : decode cL_law 39 = .ok (.iand, 1) := by decide +kernel
theorem dL_law_40 : decode cL_law 40 = .ok (.tableswitch 1773 0 23 #[112, 156, 236, 316, 403, 495, 563, 667, 735, 803, 871, 927, 995, 1075, 1162, 1230, 1310, 1366, 1407, 1475, 1543, 1623, 1679, 1759], 112) := by decide +kernel
theorem dL_law_0 : decode cL_law 0 = .ok (.new 8, 3) := by decide +kernel
theorem dL_law_3 : decode cL_law 3 = .ok (.dup, 1) := by decide +kernel
theorem dL_law_4 : decode cL_law 4 = .ok (.invokespecial 88, 3) := by decide +kernel
theorem dL_law_7 : decode cL_law 7 = .ok (.astore_n 1, 1) := by decide +kernel
theorem dL_law_8 : decode cL_law 8 = .ok (.new 89, 3) := by decide +kernel
theorem dL_law_11 : decode cL_law 11 = .ok (.dup, 1) := by decide +kernel
theorem dL_law_12 : decode cL_law 12 = .ok (.invokespecial 91, 3) := by decide +kernel
theorem dL_law_15 : decode cL_law 15 = .ok (.astore_n 2, 1) := by decide +kernel
theorem dL_law_16 : decode cL_law 16 = .ok (.iconst 1, 1) := by decide +kernel
theorem dL_law_17 : decode cL_law 17 = .ok (.newarray .long, 2) := by decide +kernel
theorem dL_law_19 : decode cL_law 19 = .ok (.astore_n 3, 1) := by decide +kernel
theorem dL_law_20 : decode cL_law 20 = .ok (.iconst 0, 1) := by decide +kernel
theorem dL_law_21 : decode cL_law 21 = .ok (.istore 4, 2) := by decide +kernel
/-! ===== the law: its start, its one step, its end ===== -/
section STA
variable {p : Program} {l : Launch} {e : Env} {s : State} {m : MethodId} {below : List Frame} {meth : Method} {c : Code} {Q : State → Prop}
variable {D : va_G} {dA : Nat → ClassId} {B : Nat} {w : xW} {rt : Option FieldType} {nm : String} {b L : Nat} {xs : Nat → Int32} {M Fa Ca Aa Ro Tr mo re fa cl ad ca o : Nat} {f : Nat → Int64} {n : Int32}
theorem FR.keep {w1 : xW} (hF : FR w M Fa Ca Aa Ro Tr n) {y : List Value} (ho : w o = some (.inr (7, y))) (hk : ∀ b x, w b = some x → ¬ b = o → w1 b = some x) : FR w1 M Fa Ca Aa Ro Tr n :=
  ⟨hk _ _ hF.1 (w_ne hF.1 ho (fun z => by cases z)), hk _ _ hF.2.1 (w_ne hF.2.1 ho (fun z => by cases z)), hk _ _ hF.2.2 (w_ne hF.2.2 ho (fun z => by cases z))⟩
theorem FR.fresh {a : Nat} (hF : FR w M Fa Ca Aa Ro Tr n) (ha : w a = none) (y : xE) : FR (x_set w a y) M Fa Ca Aa Ro Tr n :=
  ⟨by rw [x_set_ne _ _ (w_neN hF.1 ha)]; exact hF.1, by rw [x_set_ne _ _ (w_neN hF.2.1 ha)]; exact hF.2.1, by rw [x_set_ne _ _ (w_neN hF.2.2 ha)]; exact hF.2.2⟩
set_option maxRecDepth 100000 in
set_option maxHeartbeats 4000000 in
theorem law_next (F : x_Fix p s m #[.ref b] meth c cL_law 9 RL xTs rt nm D dA vwC1 tyL1 B) (hX : va_X b 6 xs s s.heap) (hbB : b < B) (HRET : ∀ lv w1, X p l e room_1 s m #[.ref b] below meth c Q D dA vwC1 B 9 40 200 1820 lv [.int 1] w1) : ∀ w1, X p l e room_1 s m #[.ref b] below meth c Q D dA vwC1 B 9 40 200 1813 [(0, .ref b), (1, .ref M), (2, .ref mo), (3, .ref o), (4, .int 0)] [] w1 := by
  intro w1
  refine x_iinc (v := 6) F dL_law_1813 (by decide) rfl (by decide) ?_
  refine x_goto F dL_law_1816 rfl ?_
  refine x_iload F dL_law_23 rfl ?_
  refine x_aload_n F dL_law_25 rfl rfl ?_
  refine x_slen F hX hbB dL_law_26 ?_
  refine x_bipush (v := 6) F dL_law_27 (by decide) ?_
  refine x_isub F dL_law_29 ?_
  refine x_icmp_gt F dL_law_30 rfl (fun h30 => ?_) (fun hc => absurd hc (fun q => q (by decide)))
  refine x_iconst (v := 1) F dL_law_1819 (by decide) ?_
  exact HRET _ _
set_option maxRecDepth 100000 in
set_option maxHeartbeats 4000000 in
theorem law_step (F : x_Fix p s m #[.ref b] meth c cL_law 9 RL xTs rt nm D dA vwC1 tyL1 B) (hX : va_X b 6 xs s s.heap) (hbB : b < B) (hl : l.stackTraces = false) (hF : FR w M Fa Ca Aa Ro Tr 0) (hM : MR w (dA 99) mo re fa cl ad ca 0 0) (ho : w o = some (aL 1 f)) (HRET : ∀ lv w1, X p l e room_1 s m #[.ref b] below meth c Q D dA vwC1 B 9 40 200 1820 lv [.int 1] w1) : X p l e room_1 s m #[.ref b] below meth c Q D dA vwC1 B 9 15 73 23 [(0, .ref b), (1, .ref M), (2, .ref mo), (3, .ref o), (4, .int 0)] [] w := by
  refine x_iload F dL_law_23 rfl ?_
  refine x_aload_n F dL_law_25 rfl rfl ?_
  refine x_slen F hX hbB dL_law_26 ?_
  refine x_bipush (v := 6) F dL_law_27 (by decide) ?_
  refine x_isub F dL_law_29 ?_
  refine x_icmp_gt F dL_law_30 rfl (fun hc => absurd hc (by decide)) (fun h30 => ?_)
  refine x_aload_n F dL_law_33 rfl rfl ?_
  refine x_iload F dL_law_34 rfl ?_
  refine x_sld F hX hbB (by unfold vp_in; decide) dL_law_36 ?_
  refine x_bipush (v := 31) F dL_law_37 (by decide) ?_
  refine x_iand F dL_law_39 ?_
  obtain ⟨j, hj, ej⟩ := pk_andE (xs (0 : Int32).toNatClampNeg) (m := 31) 5 (by decide)
  rw [ej]
  have NEXT := law_next (M := M) (mo := mo) (o := o) F hX hbB HRET
  rcases (show j = 0 ∨ j = 1 ∨ j = 2 ∨ j = 3 ∨ j = 4 ∨ j = 5 ∨ j = 6 ∨ j = 7 ∨ j = 8 ∨ j = 9 ∨ j = 10 ∨ j = 11 ∨ j = 12 ∨ j = 13 ∨ j = 14 ∨ j = 15 ∨ j = 16 ∨ j = 17 ∨ j = 18 ∨ j = 19 ∨ j = 20 ∨ j = 21 ∨ j = 22 ∨ j = 23 ∨ j = 24 ∨ j = 25 ∨ j = 26 ∨ j = 27 ∨ j = 28 ∨ j = 29 ∨ j = 30 ∨ j = 31 by omega) with rfl | rfl | rfl | rfl | rfl | rfl | rfl | rfl | rfl | rfl | rfl | rfl | rfl | rfl | rfl | rfl | rfl | rfl | rfl | rfl | rfl | rfl | rfl | rfl | rfl | rfl | rfl | rfl | rfl | rfl | rfl | rfl
  · refine x_tableIn (off := 112) (tgt := 152) F dL_law_40 (by decide) (by decide) rfl rfl ?_
    exact x_lk (law_open F hX hbB hl hF hM ho NEXT) ⟨rfl, rfl, rfl, rfl, rfl, trivial⟩
  · refine x_tableIn (off := 156) (tgt := 196) F dL_law_40 (by decide) (by decide) rfl rfl ?_
    exact x_lk (law_publish F hX hbB hl hF hM ho NEXT) ⟨rfl, rfl, rfl, rfl, rfl, trivial⟩
  · refine x_tableIn (off := 236) (tgt := 276) F dL_law_40 (by decide) (by decide) rfl rfl ?_
    exact x_lk (law_ofVersion F hX hbB hl hF hM ho NEXT) ⟨rfl, rfl, rfl, rfl, rfl, trivial⟩
  · refine x_tableIn (off := 316) (tgt := 356) F dL_law_40 (by decide) (by decide) rfl rfl ?_
    exact x_lk (law_isCompatible F hX hbB hl hF hM ho NEXT) ⟨rfl, rfl, rfl, rfl, rfl, trivial⟩
  · refine x_tableIn (off := 403) (tgt := 443) F dL_law_40 (by decide) (by decide) rfl rfl ?_
    exact x_lk (law_client F hX hbB hl hF hM ho NEXT) ⟨rfl, rfl, rfl, rfl, rfl, trivial⟩
  · refine x_tableIn (off := 495) (tgt := 535) F dL_law_40 (by decide) (by decide) rfl rfl ?_
    exact x_lk (law_again F hX hbB hl hF hM ho NEXT) ⟨rfl, rfl, rfl, rfl, rfl, trivial⟩
  · refine x_tableIn (off := 563) (tgt := 603) F dL_law_40 (by decide) (by decide) rfl rfl ?_
    exact x_lk (law_adapter F hX hbB hl hF hM ho NEXT) ⟨rfl, rfl, rfl, rfl, rfl, trivial⟩
  · refine x_tableIn (off := 667) (tgt := 707) F dL_law_40 (by decide) (by decide) rfl rfl ?_
    exact x_lk (law_ofClient F hX hbB hl hF hM ho NEXT) ⟨rfl, rfl, rfl, rfl, rfl, trivial⟩
  · refine x_tableIn (off := 735) (tgt := 775) F dL_law_40 (by decide) (by decide) rfl rfl ?_
    exact x_lk (law_routed F hX hbB hl hF hM ho NEXT) ⟨rfl, rfl, rfl, rfl, rfl, trivial⟩
  · refine x_tableIn (off := 803) (tgt := 843) F dL_law_40 (by decide) (by decide) rfl rfl ?_
    exact x_lk (law_call F hX hbB hl hF hM ho NEXT) ⟨rfl, rfl, rfl, rfl, rfl, trivial⟩
  · refine x_tableIn (off := 871) (tgt := 911) F dL_law_40 (by decide) (by decide) rfl rfl ?_
    exact x_lk (law_pass F hX hbB hl hF hM ho NEXT) ⟨rfl, rfl, rfl, rfl, rfl, trivial⟩
  · refine x_tableIn (off := 927) (tgt := 967) F dL_law_40 (by decide) (by decide) rfl rfl ?_
    exact x_lk (law_lastCall F hX hbB hl hF hM ho NEXT) ⟨rfl, rfl, rfl, rfl, rfl, trivial⟩
  · refine x_tableIn (off := 995) (tgt := 1035) F dL_law_40 (by decide) (by decide) rfl rfl ?_
    exact x_lk (law_retire F hX hbB hl hF hM ho NEXT) ⟨rfl, rfl, rfl, rfl, rfl, trivial⟩
  · refine x_tableIn (off := 1075) (tgt := 1115) F dL_law_40 (by decide) (by decide) rfl rfl ?_
    exact x_lk (law_answer F hX hbB hl hF hM ho NEXT) ⟨rfl, rfl, rfl, rfl, rfl, trivial⟩
  · refine x_tableIn (off := 1162) (tgt := 1202) F dL_law_40 (by decide) (by decide) rfl rfl ?_
    exact x_lk (law_recall F hX hbB hl hF hM ho NEXT) ⟨rfl, rfl, rfl, rfl, rfl, trivial⟩
  · refine x_tableIn (off := 1230) (tgt := 1270) F dL_law_40 (by decide) (by decide) rfl rfl ?_
    exact x_lk (law_asked F hX hbB hl hF hM ho NEXT) ⟨rfl, rfl, rfl, rfl, rfl, trivial⟩
  · refine x_tableIn (off := 1310) (tgt := 1350) F dL_law_40 (by decide) (by decide) rfl rfl ?_
    exact x_lk (law_many F hX hbB hl hF hM ho NEXT) ⟨rfl, rfl, rfl, rfl, rfl, trivial⟩
  · refine x_tableIn (off := 1366) (tgt := 1406) F dL_law_40 (by decide) (by decide) rfl rfl ?_
    exact x_lk (law_servedShare F hX hbB hl hF hM ho NEXT) ⟨rfl, rfl, rfl, rfl, rfl, trivial⟩
  · refine x_tableIn (off := 1407) (tgt := 1447) F dL_law_40 (by decide) (by decide) rfl rfl ?_
    exact x_lk (law_wouldCome F hX hbB hl hF hM ho NEXT) ⟨rfl, rfl, rfl, rfl, rfl, trivial⟩
  · refine x_tableIn (off := 1475) (tgt := 1515) F dL_law_40 (by decide) (by decide) rfl rfl ?_
    exact x_lk (law_goneIn F hX hbB hl hF hM ho NEXT) ⟨rfl, rfl, rfl, rfl, rfl, trivial⟩
  · refine x_tableIn (off := 1543) (tgt := 1583) F dL_law_40 (by decide) (by decide) rfl rfl ?_
    exact x_lk (law_wouldBreak F hX hbB hl hF hM ho NEXT) ⟨rfl, rfl, rfl, rfl, rfl, trivial⟩
  · refine x_tableIn (off := 1623) (tgt := 1663) F dL_law_40 (by decide) (by decide) rfl rfl ?_
    exact x_lk (law_target F hX hbB hl hF hM ho NEXT) ⟨rfl, rfl, rfl, rfl, rfl, trivial⟩
  · refine x_tableIn (off := 1679) (tgt := 1719) F dL_law_40 (by decide) (by decide) rfl rfl ?_
    exact x_lk (law_goneBy F hX hbB hl hF hM ho NEXT) ⟨rfl, rfl, rfl, rfl, rfl, trivial⟩
  · refine x_tableIn (off := 1759) (tgt := 1799) F dL_law_40 (by decide) (by decide) rfl rfl ?_
    exact x_lk (law_digest F hX hbB hl hF hM ho NEXT) ⟨rfl, rfl, rfl, rfl, rfl, trivial⟩
  · refine x_tableOut (tgt := 1813) F dL_law_40 (by decide) rfl ?_
    exact x_widen (Nat.le_of_ble_eq_true rfl) (Nat.le_of_ble_eq_true rfl) (x_lk (NEXT _) ⟨rfl, rfl, rfl, rfl, rfl, trivial⟩)
  · refine x_tableOut (tgt := 1813) F dL_law_40 (by decide) rfl ?_
    exact x_widen (Nat.le_of_ble_eq_true rfl) (Nat.le_of_ble_eq_true rfl) (x_lk (NEXT _) ⟨rfl, rfl, rfl, rfl, rfl, trivial⟩)
  · refine x_tableOut (tgt := 1813) F dL_law_40 (by decide) rfl ?_
    exact x_widen (Nat.le_of_ble_eq_true rfl) (Nat.le_of_ble_eq_true rfl) (x_lk (NEXT _) ⟨rfl, rfl, rfl, rfl, rfl, trivial⟩)
  · refine x_tableOut (tgt := 1813) F dL_law_40 (by decide) rfl ?_
    exact x_widen (Nat.le_of_ble_eq_true rfl) (Nat.le_of_ble_eq_true rfl) (x_lk (NEXT _) ⟨rfl, rfl, rfl, rfl, rfl, trivial⟩)
  · refine x_tableOut (tgt := 1813) F dL_law_40 (by decide) rfl ?_
    exact x_widen (Nat.le_of_ble_eq_true rfl) (Nat.le_of_ble_eq_true rfl) (x_lk (NEXT _) ⟨rfl, rfl, rfl, rfl, rfl, trivial⟩)
  · refine x_tableOut (tgt := 1813) F dL_law_40 (by decide) rfl ?_
    exact x_widen (Nat.le_of_ble_eq_true rfl) (Nat.le_of_ble_eq_true rfl) (x_lk (NEXT _) ⟨rfl, rfl, rfl, rfl, rfl, trivial⟩)
  · refine x_tableOut (tgt := 1813) F dL_law_40 (by decide) rfl ?_
    exact x_widen (Nat.le_of_ble_eq_true rfl) (Nat.le_of_ble_eq_true rfl) (x_lk (NEXT _) ⟨rfl, rfl, rfl, rfl, rfl, trivial⟩)
  · refine x_tableOut (tgt := 1813) F dL_law_40 (by decide) rfl ?_
    exact x_widen (Nat.le_of_ble_eq_true rfl) (Nat.le_of_ble_eq_true rfl) (x_lk (NEXT _) ⟨rfl, rfl, rfl, rfl, rfl, trivial⟩)
set_option maxRecDepth 100000 in
set_option maxHeartbeats 4000000 in
theorem law_none (F : x_Fix p s m #[.ref b] meth c cL_law 9 RL xTs rt nm D dA vwC1 tyL1 B) (hX : va_X b L xs s s.heap) (hbB : b < B) (hL : L < 6) (HRET : ∀ lv w1, X p l e room_1 s m #[.ref b] below meth c Q D dA vwC1 B 9 40 200 1820 lv [.int 1] w1) : X p l e room_1 s m #[.ref b] below meth c Q D dA vwC1 B 9 15 73 23 [(0, .ref b), (1, .ref M), (2, .ref mo), (3, .ref o), (4, .int 0)] [] w := by
  refine x_iload F dL_law_23 rfl ?_
  refine x_aload_n F dL_law_25 rfl rfl ?_
  refine x_slen F hX hbB dL_law_26 ?_
  refine x_bipush (v := 6) F dL_law_27 (by decide) ?_
  refine x_isub F dL_law_29 ?_
  refine x_icmp_gt F dL_law_30 rfl (fun h30 => ?_) (fun hc => absurd hc (fun q => q (by rcases (show L = 0 ∨ L = 1 ∨ L = 2 ∨ L = 3 ∨ L = 4 ∨ L = 5 by omega) with rfl | rfl | rfl | rfl | rfl | rfl <;> decide)))
  refine x_iconst (v := 1) F dL_law_1819 (by decide) ?_
  exact x_widen (Nat.le_of_ble_eq_true rfl) (Nat.le_of_ble_eq_true rfl) (HRET _ _)
set_option maxRecDepth 100000 in
set_option maxHeartbeats 4000000 in
theorem law_X (F : x_Fix p s m #[.ref b] meth c cL_law 9 RL xTs rt nm D dA vwC1 tyL1 B) (hX : va_X b L xs s s.heap) (hbB : b < B) (hL : L ≤ 6) (hl : l.stackTraces = false) (HRET : ∀ lv w1, X p l e room_1 s m #[.ref b] below meth c Q D dA vwC1 B 9 40 200 1820 lv [.int 1] w1) : X p l e room_1 s m #[.ref b] below meth c Q D dA vwC1 B 9 0 0 0 [(0, .ref b)] [] (fun _ => none) := by
  refine x_new (ci := 5) (C := RX6) (T := TX6) (N := 12) (fs := [.null, .null, .null, .int 0, .int 0, .int 0, .int 0, .int 0, .int 0, .int 0, .null, .null]) F dL_law_0 rfl inX6 tyX6 tyX6_ok q31 q32 q1 (fun j hj => by rcases (show j = 0 ∨ j = 1 ∨ j = 2 ∨ j = 3 ∨ j = 4 ∨ j = 5 ∨ j = 6 ∨ j = 7 ∨ j = 8 ∨ j = 9 ∨ j = 10 ∨ j = 11 by omega) with rfl | rfl | rfl | rfl | rfl | rfl | rfl | rfl | rfl | rfl | rfl | rfl <;> rfl) (Nat.le_of_ble_eq_true rfl) (Nat.le_of_ble_eq_true rfl) (fun r hr => ?_)
  refine x_wd (fun w1 hw1 => ?_)
  have h_r : w1 r = some (.inr (5, [.null, .null, .null, .int 0, .int 0, .int 0, .int 0, .int 0, .int 0, .int 0, .null, .null])) := by rw [hw1]; exact x_set_eq _ _ _
  refine x_dup F dL_law_3 rfl ?_
  refine x_cI0 F dL_law_4 (x_gI q35) q1 q33 q34 rfl (c_init h_r) ⟨rfl, rfl, rfl, xd_X6_init, ⟨Nat.le_of_ble_eq_true rfl, Nat.le_of_ble_eq_true rfl⟩, Nat.le_of_ble_eq_true rfl, Nat.le_of_ble_eq_true rfl⟩ (Nat.le_of_ble_eq_true rfl) (fun w1 hp => ?_)
  obtain ⟨Fa, Ca, Aa, Ro, Tr, hF, -⟩ := hp
  refine x_astore_n F dL_law_7 rfl (by decide) ?_
  refine x_new (ci := 7) (C := RX12) (T := TX12) (N := 2) (fs := [.int 0, .null]) F dL_law_8 rfl inX12 tyX12 tyX12_ok q336 q337 q5 (fun j hj => by rcases (show j = 0 ∨ j = 1 by omega) with rfl | rfl <;> rfl) (Nat.le_of_ble_eq_true rfl) (Nat.le_of_ble_eq_true rfl) (fun mo hmo => ?_)
  refine x_wd (fun w2 hw2 => ?_)
  have h_mo : w2 mo = some (.inr (7, [.int 0, .null])) := by rw [hw2]; exact x_set_eq _ _ _
  replace hF : FR w2 r Fa Ca Aa Ro Tr 0 := by rw [hw2]; exact hF.fresh hmo _
  refine x_dup F dL_law_11 rfl ?_
  refine x_cI0 F dL_law_12 (x_gI q340) q5 q338 q339 rfl (m_init h_mo) ⟨rfl, rfl, rfl, xd_X12_init, ⟨Nat.le_of_ble_eq_true rfl, Nat.le_of_ble_eq_true rfl⟩, Nat.le_of_ble_eq_true rfl, Nat.le_of_ble_eq_true rfl⟩ (Nat.le_of_ble_eq_true rfl) (fun w1 hp => ?_)
  obtain ⟨re, fa, cl, ad, ca, hM, hk2⟩ := hp
  replace hF := hF.keep h_mo hk2
  refine x_astore_n F dL_law_15 rfl (by decide) ?_
  refine x_iconst (v := 1) F dL_law_16 (by decide) ?_
  refine x_newaL (t := 5) (N := 1) F dL_law_17 rfl q633 (by decide) rfl (Nat.le_of_ble_eq_true rfl) (Nat.le_of_ble_eq_true rfl) (Nat.le_of_ble_eq_true rfl) (fun o ho => ?_)
  refine x_wd (fun w4 hw4 => ?_)
  have ho1 : w4 o = some (aL 1 (fun _ => 0)) := by rw [hw4]; exact x_set_eq _ _ _
  replace hF : FR w4 r Fa Ca Aa Ro Tr 0 := by rw [hw4]; exact hF.fresh ho _
  replace hM : MR w4 (dA 99) mo re fa cl ad ca 0 0 := by rw [hw4]; exact hM.fresh ho _
  refine x_astore_n F dL_law_19 rfl (by decide) ?_
  refine x_iconst (v := 0) F dL_law_20 (by decide) ?_
  refine x_istore F dL_law_21 (by decide) ?_
  rcases Nat.lt_or_ge L 6 with h6 | h6
  · exact x_lk (law_none F hX hbB h6 HRET) ⟨rfl, rfl, rfl, rfl, rfl, trivial⟩
  · obtain rfl : L = 6 := by omega
    exact x_lk (law_step F hX hbB hl hF hM ho1 HRET) ⟨rfl, rfl, rfl, rfl, rfl, trivial⟩
end STA
