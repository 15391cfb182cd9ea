/-! ===== the law: its beginning ===== -/
section BEG
variable {p : Program} {l : Launch} {e : Env} {s : State} {m : MethodId} {below : List Frame} {meth : Method} {c : Code} {Q : State → Prop}
variable {D : va_G} {dA : Nat → ClassId} {B : Nat} {Z : Nat → Nat → Nat} {K : kT} {J : jT} {w : xW} {rt : Option FieldType} {nm : String} {b L : Nat} {xs : Nat → Int32} {V C A ha nd : Nat} {H N : Nat → Int32}
theorem SU.congr {H2 N2 : Nat → Int32} (h : SU K V C A H N) (g : ∀ i, i < V → H2 i = H i ∧ N2 i = N i) : SU K V C A H2 N2 := by
  obtain ⟨b0, b1, b2, b3, b4⟩ := h
  exact ⟨b0, b1, b2, b3, fun i hi => ⟨(b4 i hi).1.trans (g i hi).1.symm, (b4 i hi).2.trans (g i hi).2.symm⟩⟩
theorem HN.more {k a y : Nat} (h : HN k H N) (ha : a < 256) : HN (k + 1) (upd H k (nI a)) (upd N k (nI (a &&& y))) := by
  intro i hi
  by_cases e : i = k
  · subst e
    exact ⟨a, y, ha, pk_us, pk_us⟩
  · obtain ⟨a2, c2, h1, h2, h3⟩ := h i (by omega)
    exact ⟨a2, c2, h1, (pk_un e).trans h2, (pk_un e).trans h3⟩
theorem mod_ne {V f g : Nat} (hf : f < V) (hg : g < V - 1) : (f + 1 + g) % V < V ∧ ¬ f = (f + 1 + g) % V := by
  refine ⟨Nat.mod_lt _ (by omega), fun e => ?_⟩
  by_cases h : f + 1 + g < V
  · rw [Nat.mod_eq_of_lt h] at e; omega
  · rw [Nat.mod_eq_sub_mod (by omega), Nat.mod_eq_of_lt (by omega)] at e; omega
theorem SD.side {x : xE} {a : Nat} (h : SD Z K w V ha nd H N) (h1 : ¬ ha = a) (h2 : ¬ nd = a) : SD Z K (x_set w a x) V ha nd H N := ⟨by rw [x_set_ne _ _ h1]; exact h.1, by rw [x_set_ne _ _ h2]; exact h.2.1, h.2.2⟩
set_option maxRecDepth 100000 in
set_option maxHeartbeats 4000000 in
theorem law_adapters (F : x_Fix p s m #[.ref b] meth c cL_law 15 RL xTs rt nm D dA vwCl tyL0 B) (hX : va_X b L xs s s.heap) (hbB : b < B) (hL : L ≤ 260) (hHN : HN V H N) (hV2 : 2 ≤ V) (hV6 : V ≤ 6) (EXIT : ∀ Z K J w, SU K V C 6 H N → Rep Z K J w → SD Z K w V ha nd H N → X p l e room_1 s m #[.ref b] below meth c Q D dA vwCl B 15 66 406 379 [(0, .ref b), (1, .ref (Z 0 0)), (2, .int (nI V)), (3, .ref ha), (4, .ref nd), (5, .int (nI C)), (6, .int (nI 0))] [] w) : ∀ n1 k, k + n1 = 6 → ∀ Z K J w, SU K V C k H N → Rep Z K J w → SD Z K w V ha nd H N → X p l e room_1 s m #[.ref b] below meth c Q D dA vwCl B 15 (60 + k) (382 + 4 * k) 297 [(0, .ref b), (1, .ref (Z 0 0)), (2, .int (nI V)), (3, .ref ha), (4, .ref nd), (5, .int (nI C)), (6, .int (nI k))] [] w := by
  intro n1
  induction n1 with
  | zero =>
    intro k hk1 Z K J w hU hR hS
    obtain rfl : k = 6 := by omega
    refine x_iload F dL_law_297 rfl ?_
    refine x_bipush (v := 6) F dL_law_299 (by decide) ?_
    refine x_icmp_ge F dL_law_301 rfl (fun h301 => ?_) (fun hc => absurd hc (fun q => q (by decide)))
    refine x_iconst (v := 0) F dL_law_376 (by decide) ?_
    refine x_istore F dL_law_377 (by decide) ?_
    exact x_widen (by omega) (by omega) (x_lk (EXIT _ _ _ _ hU hR hS) ⟨rfl, rfl, rfl, rfl, rfl, rfl, rfl, trivial⟩)
  | succ n1 ih =>
    intro k hk1 Z K J w hU hR hS
    have hk : k < 6 := by omega
    refine x_iload F dL_law_297 rfl ?_
    refine x_bipush (v := 6) F dL_law_299 (by decide) ?_
    refine x_icmp_ge F dL_law_301 rfl (fun hc => absurd hc (nI_ge (b := 6) hk (by decide))) (fun h301 => ?_)
    refine x_aload_n F dL_law_304 rfl rfl ?_
    refine x_iload F dL_law_305 rfl ?_
    refine x_iconst (v := 3) F dL_law_307 (by decide) ?_
    refine x_iadd F dL_law_308 ?_
    rw [show nI k + 3 = nI (k + 3) from nI_add k 3]
    refine x_cCell F dL_law_309 (x_gS q429 q430 q0 q431) hX hbB (c_cell hbB hL (by omega)) ⟨rfl, rfl, rfl, xd_L_cell, ⟨Nat.le_of_ble_eq_true rfl, Nat.le_of_ble_eq_true rfl⟩, (by show 60 + k + 0 ≤ 684551; omega), (by show 382 + 4 * k + 0 ≤ 7048046; omega)⟩ (Nat.le_of_ble_eq_true rfl) (fun v1 w1 hp => ?_)
    obtain ⟨⟨c1, rfl⟩, hw9⟩ := hp
    replace hw9 := hw9.symm
    subst hw9
    refine x_iload_n F dL_law_312 rfl rfl ?_
    refine x_cSi2 F dL_law_313 (x_gS q425 q426 q0 q427) (c_below _ (d := V) (by omega) (by omega)) ⟨rfl, rfl, rfl, xd_L_below, ⟨Nat.le_of_ble_eq_true rfl, Nat.le_of_ble_eq_true rfl⟩, (by show 60 + k + 0 ≤ 684551; omega), (by show 382 + 4 * k + 0 ≤ 7048046; omega)⟩ (Nat.le_of_ble_eq_true rfl) (fun v1 w1 hp => ?_)
    obtain ⟨⟨f, hf, rfl⟩, hw9⟩ := hp
    replace hw9 := hw9.symm
    subst hw9
    refine x_istore F dL_law_316 (by decide) ?_
    refine x_iload F dL_law_318 rfl ?_
    refine x_iconst (v := 1) F dL_law_320 (by decide) ?_
    refine x_iadd F dL_law_321 ?_
    rw [nI_1]
    refine x_aload_n F dL_law_322 rfl rfl ?_
    refine x_iload F dL_law_323 rfl ?_
    refine x_iconst (v := 4) F dL_law_325 (by decide) ?_
    refine x_iadd F dL_law_326 ?_
    rw [show nI k + 4 = nI (k + 4) from nI_add k 4]
    refine x_cCell F dL_law_327 (x_gS q429 q430 q0 q431) hX hbB (c_cell hbB hL (by omega)) ⟨rfl, rfl, rfl, xd_L_cell, ⟨Nat.le_of_ble_eq_true rfl, Nat.le_of_ble_eq_true rfl⟩, (by show 60 + k + 0 ≤ 684551; omega), (by show 382 + 4 * k + 0 ≤ 7048046; omega)⟩ (Nat.le_of_ble_eq_true rfl) (fun v1 w1 hp => ?_)
    obtain ⟨⟨c2, rfl⟩, hw9⟩ := hp
    replace hw9 := hw9.symm
    subst hw9
    refine x_iload_n F dL_law_330 rfl rfl ?_
    refine x_iconst (v := 1) F dL_law_331 (by decide) ?_
    refine x_isub F dL_law_332 ?_
    rw [show nI V - 1 = nI (V - 1) from pk_sub (b := 1) (by omega)]
    refine x_cSi2 F dL_law_333 (x_gS q425 q426 q0 q427) (c_below _ (d := (V - 1)) (by omega) (by omega)) ⟨rfl, rfl, rfl, xd_L_below, ⟨Nat.le_of_ble_eq_true rfl, Nat.le_of_ble_eq_true rfl⟩, (by show 60 + k + 0 ≤ 684551; omega), (by show 382 + 4 * k + 0 ≤ 7048046; omega)⟩ (Nat.le_of_ble_eq_true rfl) (fun v1 w1 hp => ?_)
    obtain ⟨⟨g, hg, rfl⟩, hw9⟩ := hp
    replace hw9 := hw9.symm
    subst hw9
    refine x_iadd F dL_law_336 ?_
    rw [nI_add]
    refine x_iload_n F dL_law_337 rfl rfl ?_
    refine x_irem F dL_law_338 (nI_ne0 (by omega) (by omega)) ?_
    rw [pk_rem (a := f + 1 + g) (d := V) (by omega) (by omega) (by omega)]
    obtain ⟨ht, hft⟩ := mod_ne hf hg
    obtain ⟨t, ht9⟩ : ∃ t, t = (f + 1 + g) % V := ⟨_, rfl⟩
    rw [← ht9] at ht hft ⊢
    refine x_istore F dL_law_339 (by decide) ?_
    refine x_aload_n F dL_law_341 rfl rfl ?_
    refine x_iconst (v := 0) F dL_law_342 (by decide) ?_
    refine x_iload F dL_law_343 rfl ?_
    refine x_iload F dL_law_345 rfl ?_
    refine x_aload F dL_law_347 rfl ?_
    refine x_iload F dL_law_349 rfl ?_
    refine x_ialdN F dL_law_351 rfl hS.2.1 ht (by omega) ?_
    refine x_sipush (v := 255) F dL_law_352 (by decide) ?_
    refine x_aload_n F dL_law_355 rfl rfl ?_
    refine x_iload F dL_law_356 rfl ?_
    refine x_ialdN F dL_law_358 rfl hS.1 ht (by omega) ?_
    refine x_isub F dL_law_359 ?_
    refine x_cVi5 (ci := 6) (C := RX6) (T := TX6) (N := 12) F dL_law_360 (x_gV q279 q280 q281 q1 q282) rfl (k_adapter hU hHN hR (by omega) hf ht hft) ⟨rfl, rfl, rfl, xd_X6_adapter, ⟨Nat.le_of_ble_eq_true rfl, Nat.le_of_ble_eq_true rfl⟩, (by show 60 + k + 1 ≤ 684551; omega), (by show 382 + 4 * k + 4 ≤ 7048046; omega)⟩ rfl hR.main (Nat.le_of_ble_eq_true rfl) (fun v1 w1 hp => ?_)
    obtain ⟨rfl, Z2, J2, hZ2, hR2, hKp⟩ := hp
    replace hS := hS.keep hKp
    rw [← hZ2]
    refine x_iload F dL_law_363 rfl ?_
    refine x_icmp_eq F dL_law_365 rfl (fun h365 => ?_) (fun hc => absurd hc (fun q => q rfl))
    refine x_iincN F dL_law_370 (by decide) rfl (by decide) ?_
    refine x_goto F dL_law_373 rfl ?_
    exact x_widen (by omega) (by omega) (x_lk (ih (k + 1) (by omega) _ _ _ _ (hU.ada _ _ _ _) hR2 hS) ⟨rfl, rfl, rfl, rfl, rfl, rfl, rfl, trivial⟩)
set_option maxRecDepth 100000 in
set_option maxHeartbeats 4000000 in
theorem law_clients (F : x_Fix p s m #[.ref b] meth c cL_law 15 RL xTs rt nm D dA vwCl tyL0 B) (hX : va_X b L xs s s.heap) (hbB : b < B) (hL : L ≤ 260) (hHN : HN V H N) (hV2 : 2 ≤ V) (hV6 : V ≤ 6) (hC : C ≤ 7) (EXIT : ∀ Z K J w, SU K V C 6 H N → Rep Z K J w → SD Z K w V ha nd H N → X p l e room_1 s m #[.ref b] below meth c Q D dA vwCl B 15 66 406 379 [(0, .ref b), (1, .ref (Z 0 0)), (2, .int (nI V)), (3, .ref ha), (4, .ref nd), (5, .int (nI C)), (6, .int (nI 0))] [] w) : ∀ n1 k, k + n1 = C → ∀ Z K J w, SU K V k 0 H N → Rep Z K J w → SD Z K w V ha nd H N → X p l e room_1 s m #[.ref b] below meth c Q D dA vwCl B 15 (30 + 3 * k) (182 + 20 * k) 218 [(0, .ref b), (1, .ref (Z 0 0)), (2, .int (nI V)), (3, .ref ha), (4, .ref nd), (5, .int (nI C)), (6, .int (nI k))] [] w := by
  intro n1
  induction n1 with
  | zero =>
    intro k hk1 Z K J w hU hR hS
    obtain rfl : C = k := by omega
    refine x_iload F dL_law_218 rfl ?_
    refine x_iload F dL_law_220 rfl ?_
    refine x_icmp_ge F dL_law_222 rfl (fun h222 => ?_) (fun hc => absurd hc (fun q => q (Int32.le_refl _)))
    refine x_iconst (v := 0) F dL_law_294 (by decide) ?_
    refine x_istore F dL_law_295 (by decide) ?_
    exact x_widen (by omega) (by omega) (x_lk (law_adapters F hX hbB hL hHN hV2 hV6 EXIT 6 0 (by omega) _ _ _ _ hU hR hS) ⟨rfl, rfl, rfl, rfl, rfl, rfl, rfl, trivial⟩)
  | succ n1 ih =>
    intro k hk1 Z K J w hU hR hS
    have hk : k < C := by omega
    refine x_iload F dL_law_218 rfl ?_
    refine x_iload F dL_law_220 rfl ?_
    refine x_icmp_ge F dL_law_222 rfl (fun hc => absurd hc (nI_ge hk (by omega))) (fun h222 => ?_)
    refine x_aload_n F dL_law_225 rfl rfl ?_
    refine x_iload F dL_law_226 rfl ?_
    refine x_cCell F dL_law_228 (x_gS q429 q430 q0 q431) hX hbB (c_cell hbB hL (by omega)) ⟨rfl, rfl, rfl, xd_L_cell, ⟨Nat.le_of_ble_eq_true rfl, Nat.le_of_ble_eq_true rfl⟩, (by show 30 + 3 * k + 0 ≤ 684551; omega), (by show 182 + 20 * k + 0 ≤ 7048046; omega)⟩ (Nat.le_of_ble_eq_true rfl) (fun v1 w1 hp => ?_)
    obtain ⟨⟨c1, rfl⟩, hw9⟩ := hp
    replace hw9 := hw9.symm
    subst hw9
    refine x_iconst (v := 4) F dL_law_231 (by decide) ?_
    refine x_ishr F dL_law_232 ?_
    refine x_iload_n F dL_law_233 rfl rfl ?_
    refine x_cSi2 F dL_law_234 (x_gS q425 q426 q0 q427) (c_below _ (d := V) (by omega) (by omega)) ⟨rfl, rfl, rfl, xd_L_below, ⟨Nat.le_of_ble_eq_true rfl, Nat.le_of_ble_eq_true rfl⟩, (by show 30 + 3 * k + 0 ≤ 684551; omega), (by show 182 + 20 * k + 0 ≤ 7048046; omega)⟩ (Nat.le_of_ble_eq_true rfl) (fun v1 w1 hp => ?_)
    obtain ⟨⟨v, hv, rfl⟩, hw9⟩ := hp
    replace hw9 := hw9.symm
    subst hw9
    refine x_istore F dL_law_237 (by decide) ?_
    refine x_aload_n F dL_law_239 rfl rfl ?_
    refine x_aload_n F dL_law_240 rfl rfl ?_
    refine x_iload F dL_law_241 rfl ?_
    refine x_cCell F dL_law_243 (x_gS q429 q430 q0 q431) hX hbB (c_cell hbB hL (by omega)) ⟨rfl, rfl, rfl, xd_L_cell, ⟨Nat.le_of_ble_eq_true rfl, Nat.le_of_ble_eq_true rfl⟩, (by show 30 + 3 * k + 0 ≤ 684551; omega), (by show 182 + 20 * k + 0 ≤ 7048046; omega)⟩ (Nat.le_of_ble_eq_true rfl) (fun v1 w1 hp => ?_)
    obtain ⟨⟨c2, rfl⟩, hw9⟩ := hp
    replace hw9 := hw9.symm
    subst hw9
    refine x_iconst (v := 5) F dL_law_246 (by decide) ?_
    refine x_cSi2 F dL_law_247 (x_gS q425 q426 q0 q427) (c_below _ (d := 5) (by decide) (by decide)) ⟨rfl, rfl, rfl, xd_L_below, ⟨Nat.le_of_ble_eq_true rfl, Nat.le_of_ble_eq_true rfl⟩, (by show 30 + 3 * k + 0 ≤ 684551; omega), (by show 182 + 20 * k + 0 ≤ 7048046; omega)⟩ (Nat.le_of_ble_eq_true rfl) (fun v1 w1 hp => ?_)
    obtain ⟨⟨o, ho, rfl⟩, hw9⟩ := hp
    replace hw9 := hw9.symm
    subst hw9
    refine x_iconst (v := 0) F dL_law_250 (by decide) ?_
    refine x_iload F dL_law_251 rfl ?_
    refine x_aload_n F dL_law_253 rfl rfl ?_
    refine x_iload F dL_law_254 rfl ?_
    refine x_cCell F dL_law_256 (x_gS q429 q430 q0 q431) hX hbB (c_cell hbB hL (by omega)) ⟨rfl, rfl, rfl, xd_L_cell, ⟨Nat.le_of_ble_eq_true rfl, Nat.le_of_ble_eq_true rfl⟩, (by show 30 + 3 * k + 0 ≤ 684551; omega), (by show 182 + 20 * k + 0 ≤ 7048046; omega)⟩ (Nat.le_of_ble_eq_true rfl) (fun v1 w1 hp => ?_)
    obtain ⟨⟨c3, rfl⟩, hw9⟩ := hp
    replace hw9 := hw9.symm
    subst hw9
    refine x_iconst (v := 2) F dL_law_259 (by decide) ?_
    refine x_ishr F dL_law_260 ?_
    refine x_sipush (v := 256) F dL_law_261 (by decide) ?_
    refine x_cSi2 F dL_law_264 (x_gS q425 q426 q0 q427) (c_below _ (d := 256) (by decide) (by decide)) ⟨rfl, rfl, rfl, xd_L_below, ⟨Nat.le_of_ble_eq_true rfl, Nat.le_of_ble_eq_true rfl⟩, (by show 30 + 3 * k + 0 ≤ 684551; omega), (by show 182 + 20 * k + 0 ≤ 7048046; omega)⟩ (Nat.le_of_ble_eq_true rfl) (fun v1 w1 hp => ?_)
    obtain ⟨⟨x, hx, rfl⟩, hw9⟩ := hp
    replace hw9 := hw9.symm
    subst hw9
    refine x_aload_n F dL_law_267 rfl rfl ?_
    refine x_iload F dL_law_268 rfl ?_
    refine x_ialdN F dL_law_270 rfl hS.1 hv (by omega) ?_
    refine x_iand F dL_law_271 ?_
    refine x_aload F dL_law_272 rfl ?_
    refine x_iload F dL_law_274 rfl ?_
    refine x_ialdN F dL_law_276 rfl hS.2.1 hv (by omega) ?_
    refine x_ior F dL_law_277 ?_
    refine x_cVi4 (ci := 6) (C := RX6) (T := TX6) (N := 12) F dL_law_278 (x_gV q232 q233 q234 q1 q235) rfl (k_client hU hHN hR (by omega) ho hv) ⟨rfl, rfl, rfl, xd_X6_client, ⟨Nat.le_of_ble_eq_true rfl, Nat.le_of_ble_eq_true rfl⟩, (by show 30 + 3 * k + 3 ≤ 684551; omega), (by show 182 + 20 * k + 20 ≤ 7048046; omega)⟩ rfl hR.main (Nat.le_of_ble_eq_true rfl) (fun v1 w1 hp => ?_)
    obtain ⟨rfl, Z2, J2, hZ2, hR2, hKp⟩ := hp
    replace hS := hS.keep hKp
    rw [← hZ2]
    refine x_iload F dL_law_281 rfl ?_
    refine x_icmp_eq F dL_law_283 rfl (fun h283 => ?_) (fun hc => absurd hc (fun q => q rfl))
    refine x_iincN F dL_law_288 (by decide) rfl (by decide) ?_
    refine x_goto F dL_law_291 rfl ?_
    exact x_widen (by omega) (by omega) (x_lk (ih (k + 1) (by omega) _ _ _ _ (hU.cli (by omega) ho hv _) hR2 hS) ⟨rfl, rfl, rfl, rfl, rfl, rfl, rfl, trivial⟩)
end BEG
