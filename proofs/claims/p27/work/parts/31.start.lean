/-! ===== the law: its versions, and its start ===== -/
section STA
variable {p : Program} {l : Launch} {e : Env} {s : State} {m : MethodId} {below : List Frame} {meth : Method} {c : Code} {Q : State → Prop}
variable {D : va_G} {dA : Nat → ClassId} {B : Nat} {Z : Nat → Nat → Nat} {K : kT} {J : jT} {w : xW} {rt : Option FieldType} {nm : String} {b L : Nat} {xs : Nat → Int32} {V ha nd : Nat} {H N : Nat → Int32}
theorem suits_t {h n h2 n2 : Int32} (a : h2 &&& (h ^^^ -1) = 0) (b : n &&& (n2 ^^^ -1) = 0) : f_suits h n h2 n2 = true := by
  unfold f_suits
  rw [decide_eq_true a, decide_eq_true b]
  rfl
theorem suits_f1 {h n h2 n2 : Int32} (a : ¬ h2 &&& (h ^^^ -1) = 0) : f_suits h n h2 n2 = false := by
  unfold f_suits
  rw [decide_eq_false a]
  rfl
theorem suits_f2 {h n h2 n2 : Int32} (b : ¬ n &&& (n2 ^^^ -1) = 0) : f_suits h n h2 n2 = false := by
  unfold f_suits
  rw [decide_eq_false b, Bool.and_false]
set_option maxRecDepth 100000 in
set_option maxHeartbeats 4000000 in
theorem law_versions (F : x_Fix p s m #[.ref b] meth c cL_law 15 RL xTs rt nm D dA vwCl tyL0 B) (hX : va_X b L xs s s.heap) (hbB : b < B) (hL : L ≤ 260) (hV2 : 2 ≤ V) (hV6 : V ≤ 6) (EXIT : ∀ H N Z K J w, HN V H N → SU K V 0 0 H N → Rep Z K J w → SD Z K w V ha nd H N → X p l e room_1 s m #[.ref b] below meth c Q D dA vwCl B 15 30 182 201 [(0, .ref b), (1, .ref (Z 0 0)), (2, .int (nI V)), (3, .ref ha), (4, .ref nd)] [] w) : ∀ n1 k, k + n1 = V → ∀ Z K J w H N, SU K k 0 0 H N → HN k H N → Rep Z K J w → SD Z K w V ha nd H N → X p l e room_1 s m #[.ref b] below meth c Q D dA vwCl B 15 (12 + 3 * k) (74 + 18 * k) 41 [(0, .ref b), (1, .ref (Z 0 0)), (2, .int (nI V)), (3, .ref ha), (4, .ref nd), (5, .int (nI k))] [] w := by
  intro n1
  induction n1 with
  | zero =>
    intro k hk1 Z K J w H N hU hHN hR hS
    obtain rfl : V = k := by omega
    refine x_iload F dL_law_41 rfl ?_
    refine x_iload_n F dL_law_43 rfl rfl ?_
    refine x_icmp_ge F dL_law_44 rfl (fun h44 => ?_) (fun hc => absurd hc (fun q => q (Int32.le_refl _)))
    exact x_widen (by omega) (by omega) (x_lk (EXIT _ _ _ _ _ _ hHN hU hR hS) ⟨rfl, rfl, rfl, rfl, rfl, trivial⟩)
  | succ n1 ih =>
    intro k hk1 Z K J w H N hU hHN hR hS
    have hk : k < V := by omega
    have m75 : ∀ a, a < 256 → X p l e room_1 s m #[.ref b] below meth c Q D dA vwCl B 15 (12 + 3 * k) (74 + 18 * k) 75 [(0, .ref b), (1, .ref (Z 0 0)), (2, .int (nI V)), (3, .ref ha), (4, .ref nd), (5, .int (nI k))] [.int (nI a), .int (nI k), .ref ha] w := by
      intro a ha1
      refine x_iastN F dL_law_75 rfl hS.1 hk (by omega) ?_
      refine x_wd (fun w2 hw2 => ?_)
      replace hR : Rep Z K J w2 := by rw [hw2]; exact hR.side hS.2.2.1 _
      replace hS : SD Z K w2 V ha nd (upd H k (nI a)) N := by rw [hw2]; exact hS.setH _
      refine x_aload F dL_law_76 rfl ?_
      refine x_iload F dL_law_78 rfl ?_
      refine x_aload_n F dL_law_80 rfl rfl ?_
      refine x_iload F dL_law_81 rfl ?_
      refine x_ialdN F dL_law_83 rfl hS.1 hk (by omega) ?_
      rw [pk_us]
      refine x_aload_n F dL_law_84 rfl rfl ?_
      refine x_iload F dL_law_85 rfl ?_
      refine x_cCell F dL_law_87 (x_gS q429 q430 q0 q431) hX hbB (c_cell hbB hL (by omega)) ⟨rfl, rfl, rfl, xd_L_cell, ⟨Nat.le_of_ble_eq_true rfl, Nat.le_of_ble_eq_true rfl⟩, (by show 12 + 3 * k + 0 ≤ 684551; omega), (by show 74 + 18 * k + 0 ≤ 7048046; omega)⟩ (Nat.le_of_ble_eq_true rfl) (fun v1 w1 hp => ?_)
      obtain ⟨⟨c1, rfl⟩, hw9⟩ := hp
      replace hw9 := hw9.symm
      subst hw9
      refine x_iconst (v := 3) F dL_law_90 (by decide) ?_
      refine x_ishr F dL_law_91 ?_
      refine x_sipush (v := 256) F dL_law_92 (by decide) ?_
      refine x_cSi2 F dL_law_95 (x_gS q425 q426 q0 q427) (c_below _ (d := 256) (by decide) (by decide)) ⟨rfl, rfl, rfl, xd_L_below, ⟨Nat.le_of_ble_eq_true rfl, Nat.le_of_ble_eq_true rfl⟩, (by show 12 + 3 * k + 0 ≤ 684551; omega), (by show 74 + 18 * k + 0 ≤ 7048046; omega)⟩ (Nat.le_of_ble_eq_true rfl) (fun v1 w1 hp => ?_)
      obtain ⟨⟨a2, ha2, rfl⟩, hw9⟩ := hp
      replace hw9 := hw9.symm
      subst hw9
      refine x_iand F dL_law_98 ?_
      refine x_aload_n F dL_law_99 rfl rfl ?_
      refine x_iload F dL_law_100 rfl ?_
      refine x_iconst (v := 1) F dL_law_102 (by decide) ?_
      refine x_iadd F dL_law_103 ?_
      rw [nI_1]
      refine x_cCell F dL_law_104 (x_gS q429 q430 q0 q431) hX hbB (c_cell hbB hL (by omega)) ⟨rfl, rfl, rfl, xd_L_cell, ⟨Nat.le_of_ble_eq_true rfl, Nat.le_of_ble_eq_true rfl⟩, (by show 12 + 3 * k + 0 ≤ 684551; omega), (by show 74 + 18 * k + 0 ≤ 7048046; omega)⟩ (Nat.le_of_ble_eq_true rfl) (fun v1 w1 hp => ?_)
      obtain ⟨⟨c2, rfl⟩, hw9⟩ := hp
      replace hw9 := hw9.symm
      subst hw9
      refine x_sipush (v := 256) F dL_law_107 (by decide) ?_
      refine x_cSi2 F dL_law_110 (x_gS q425 q426 q0 q427) (c_below _ (d := 256) (by decide) (by decide)) ⟨rfl, rfl, rfl, xd_L_below, ⟨Nat.le_of_ble_eq_true rfl, Nat.le_of_ble_eq_true rfl⟩, (by show 12 + 3 * k + 0 ≤ 684551; omega), (by show 74 + 18 * k + 0 ≤ 7048046; omega)⟩ (Nat.le_of_ble_eq_true rfl) (fun v1 w1 hp => ?_)
      obtain ⟨⟨a3, ha3, rfl⟩, hw9⟩ := hp
      replace hw9 := hw9.symm
      subst hw9
      refine x_iand F dL_law_113 ?_
      rw [show nI a &&& nI a2 &&& nI a3 = nI (a &&& (a2 &&& a3)) from by rw [n_and, n_and, Nat.and_assoc]]
      refine x_iastN F dL_law_114 rfl hS.2.1 hk (by omega) ?_
      refine x_wd (fun w3 hw3 => ?_)
      replace hR : Rep Z K J w3 := by rw [hw3]; exact hR.side hS.2.2.2.1 _
      replace hS : SD Z K w3 V ha nd (upd H k (nI a)) (upd N k (nI (a &&& (a2 &&& a3)))) := by rw [hw3]; exact hS.setN _
      refine x_iconst (v := 0) F dL_law_115 (by decide) ?_
      refine x_istore F dL_law_116 (by decide) ?_
      refine x_iconst (v := 0) F dL_law_118 (by decide) ?_
      refine x_istore F dL_law_119 (by decide) ?_
      have hU2 := hU.congr (H2 := upd H k (nI a)) (N2 := upd N k (nI (a &&& (a2 &&& a3)))) (fun i hi => ⟨pk_un (by omega), pk_un (by omega)⟩)
      have hHN2 := hHN.more (y := a2 &&& a3) ha1
      generalize upd H k (nI a) = H2 at hS hU2 hHN2
      generalize upd N k (nI (a &&& (a2 &&& a3))) = N2 at hS hU2 hHN2
      obtain ⟨g, hg⟩ : ∃ g : Nat → Bool, g = fun i => f_suits (H2 k) (N2 k) (H2 i) (N2 i) := ⟨_, rfl⟩
      have L2 : ∀ n2 j, j + n2 = k → X p l e room_1 s m #[.ref b] below meth c Q D dA vwCl B 15 (12 + 3 * k) (74 + 18 * k) 121 [(0, .ref b), (1, .ref (Z 0 0)), (2, .int (nI V)), (3, .ref ha), (4, .ref nd), (5, .int (nI k)), (6, .int (nI (f_cnt g j))), (7, .int (nI j))] [] w3 := by
        intro n2
        induction n2 with
        | zero =>
          intro j hj1
          obtain rfl : k = j := by omega
          refine x_iload F dL_law_121 rfl ?_
          refine x_iload F dL_law_123 rfl ?_
          refine x_icmp_ge F dL_law_125 rfl (fun h125 => ?_) (fun hc => absurd hc (fun q => q (Int32.le_refl _)))
          refine x_aload_n F dL_law_174 rfl rfl ?_
          refine x_iconst (v := 0) F dL_law_175 (by decide) ?_
          refine x_aload_n F dL_law_176 rfl rfl ?_
          refine x_iload F dL_law_177 rfl ?_
          refine x_ialdN F dL_law_179 rfl hS.1 hk (by omega) ?_
          refine x_aload F dL_law_180 rfl ?_
          refine x_iload F dL_law_182 rfl ?_
          refine x_ialdN F dL_law_184 rfl hS.2.1 hk (by omega) ?_
          refine x_cVi3 (ci := 6) (C := RX6) (T := TX6) (N := 12) F dL_law_185 (x_gV q111 q112 q113 q1 q114) rfl (k_publish hU2 hR (by omega) (hHN2.shape (Nat.lt_succ_self k))) ⟨rfl, rfl, rfl, xd_X6_publish, ⟨Nat.le_of_ble_eq_true rfl, Nat.le_of_ble_eq_true rfl⟩, (by show 12 + 3 * k + 3 ≤ 684551; omega), (by show 74 + 18 * k + 18 ≤ 7048046; omega)⟩ rfl hR.main (Nat.le_of_ble_eq_true rfl) (fun v1 w1 hp => ?_)
          obtain ⟨rfl, Z2, J2, hZ2, hR2, hKp⟩ := hp
          replace hS := hS.keep hKp
          rw [← hZ2]
          refine x_iload F dL_law_188 rfl ?_
          refine x_icmp_eq F dL_law_190 rfl (fun h190 => ?_) (fun hc => absurd hc (fun q => q (by rw [hg])))
          refine x_iincN F dL_law_195 (by decide) rfl (by decide) ?_
          refine x_goto F dL_law_198 rfl ?_
          exact x_widen (by omega) (by omega) (x_lk (ih (k + 1) (by omega) _ _ _ _ _ _ (hU2.pub (by omega) _ _ rfl rfl) hHN2 hR2 hS) ⟨rfl, rfl, rfl, rfl, rfl, rfl, trivial⟩)
        | succ n2 ih2 =>
          intro j hj1
          have hj : j < k := by omega
          refine x_iload F dL_law_121 rfl ?_
          refine x_iload F dL_law_123 rfl ?_
          refine x_icmp_ge F dL_law_125 rfl (fun hc => absurd hc (nI_ge hj (by omega))) (fun h125 => ?_)
          refine x_iload F dL_law_128 rfl ?_
          refine x_aload_n F dL_law_130 rfl rfl ?_
          refine x_iload F dL_law_131 rfl ?_
          refine x_ialdN F dL_law_133 rfl hS.1 (Nat.lt_trans hj hk) (by omega) ?_
          refine x_aload_n F dL_law_134 rfl rfl ?_
          refine x_iload F dL_law_135 rfl ?_
          refine x_ialdN F dL_law_137 rfl hS.1 hk (by omega) ?_
          refine x_iconst (v := (-1)) F dL_law_138 (by decide) ?_
          refine x_ixor F dL_law_139 ?_
          refine x_iand F dL_law_140 ?_
          refine x_if_ne F dL_law_141 rfl (fun h141 => ?_) (fun h141 => ?_)
          · refine x_iconst (v := 0) F dL_law_164 (by decide) ?_
            refine x_iadd F dL_law_165 ?_
            refine x_istore F dL_law_166 (by decide) ?_
            refine x_iincN F dL_law_168 (by decide) rfl (by decide) ?_
            refine x_goto F dL_law_171 rfl ?_
            first
            | (have eg : g j = true := by rw [hg]; exact suits_t h141 h157
               rw [show nI (f_cnt g j) + 1 = nI (f_cnt g (j + 1)) from by rw [f_cnt_t eg, nI_1]]
               exact x_lk (ih2 (j + 1) (by omega)) ⟨rfl, rfl, rfl, rfl, rfl, rfl, rfl, rfl, trivial⟩)
            | (have eg : g j = false := by rw [hg]; exact suits_f2 h157
               rw [show nI (f_cnt g j) + 0 = nI (f_cnt g (j + 1)) from by rw [f_cnt_f eg, Int32.add_zero]]
               exact x_lk (ih2 (j + 1) (by omega)) ⟨rfl, rfl, rfl, rfl, rfl, rfl, rfl, rfl, trivial⟩)
            | (have eg : g j = false := by rw [hg]; exact suits_f1 h141
               rw [show nI (f_cnt g j) + 0 = nI (f_cnt g (j + 1)) from by rw [f_cnt_f eg, Int32.add_zero]]
               exact x_lk (ih2 (j + 1) (by omega)) ⟨rfl, rfl, rfl, rfl, rfl, rfl, rfl, rfl, trivial⟩)
          · refine x_aload F dL_law_144 rfl ?_
            refine x_iload F dL_law_146 rfl ?_
            refine x_ialdN F dL_law_148 rfl hS.2.1 hk (by omega) ?_
            refine x_aload F dL_law_149 rfl ?_
            refine x_iload F dL_law_151 rfl ?_
            refine x_ialdN F dL_law_153 rfl hS.2.1 (Nat.lt_trans hj hk) (by omega) ?_
            refine x_iconst (v := (-1)) F dL_law_154 (by decide) ?_
            refine x_ixor F dL_law_155 ?_
            refine x_iand F dL_law_156 ?_
            refine x_if_ne F dL_law_157 rfl (fun h157 => ?_) (fun h157 => ?_)
            · refine x_iconst (v := 0) F dL_law_164 (by decide) ?_
              refine x_iadd F dL_law_165 ?_
              refine x_istore F dL_law_166 (by decide) ?_
              refine x_iincN F dL_law_168 (by decide) rfl (by decide) ?_
              refine x_goto F dL_law_171 rfl ?_
              first
              | (have eg : g j = true := by rw [hg]; exact suits_t h141 h157
                 rw [show nI (f_cnt g j) + 1 = nI (f_cnt g (j + 1)) from by rw [f_cnt_t eg, nI_1]]
                 exact x_lk (ih2 (j + 1) (by omega)) ⟨rfl, rfl, rfl, rfl, rfl, rfl, rfl, rfl, trivial⟩)
              | (have eg : g j = false := by rw [hg]; exact suits_f2 h157
                 rw [show nI (f_cnt g j) + 0 = nI (f_cnt g (j + 1)) from by rw [f_cnt_f eg, Int32.add_zero]]
                 exact x_lk (ih2 (j + 1) (by omega)) ⟨rfl, rfl, rfl, rfl, rfl, rfl, rfl, rfl, trivial⟩)
              | (have eg : g j = false := by rw [hg]; exact suits_f1 h141
                 rw [show nI (f_cnt g j) + 0 = nI (f_cnt g (j + 1)) from by rw [f_cnt_f eg, Int32.add_zero]]
                 exact x_lk (ih2 (j + 1) (by omega)) ⟨rfl, rfl, rfl, rfl, rfl, rfl, rfl, rfl, trivial⟩)
            · refine x_iconst (v := 1) F dL_law_160 (by decide) ?_
              refine x_goto F dL_law_161 rfl ?_
              refine x_iadd F dL_law_165 ?_
              refine x_istore F dL_law_166 (by decide) ?_
              refine x_iincN F dL_law_168 (by decide) rfl (by decide) ?_
              refine x_goto F dL_law_171 rfl ?_
              first
              | (have eg : g j = true := by rw [hg]; exact suits_t h141 h157
                 rw [show nI (f_cnt g j) + 1 = nI (f_cnt g (j + 1)) from by rw [f_cnt_t eg, nI_1]]
                 exact x_lk (ih2 (j + 1) (by omega)) ⟨rfl, rfl, rfl, rfl, rfl, rfl, rfl, rfl, trivial⟩)
              | (have eg : g j = false := by rw [hg]; exact suits_f2 h157
                 rw [show nI (f_cnt g j) + 0 = nI (f_cnt g (j + 1)) from by rw [f_cnt_f eg, Int32.add_zero]]
                 exact x_lk (ih2 (j + 1) (by omega)) ⟨rfl, rfl, rfl, rfl, rfl, rfl, rfl, rfl, trivial⟩)
              | (have eg : g j = false := by rw [hg]; exact suits_f1 h141
                 rw [show nI (f_cnt g j) + 0 = nI (f_cnt g (j + 1)) from by rw [f_cnt_f eg, Int32.add_zero]]
                 exact x_lk (ih2 (j + 1) (by omega)) ⟨rfl, rfl, rfl, rfl, rfl, rfl, rfl, rfl, trivial⟩)
      exact x_lk (L2 k 0 (by omega)) ⟨rfl, rfl, rfl, rfl, rfl, rfl, rfl, rfl, trivial⟩
    refine x_iload F dL_law_41 rfl ?_
    refine x_iload_n F dL_law_43 rfl rfl ?_
    refine x_icmp_ge F dL_law_44 rfl (fun hc => absurd hc (nI_ge hk (by omega))) (fun h44 => ?_)
    refine x_aload_n F dL_law_47 rfl rfl ?_
    refine x_iload F dL_law_48 rfl ?_
    refine x_aload_n F dL_law_50 rfl rfl ?_
    refine x_iload F dL_law_51 rfl ?_
    refine x_cCell F dL_law_53 (x_gS q429 q430 q0 q431) hX hbB (c_cell hbB hL (by omega)) ⟨rfl, rfl, rfl, xd_L_cell, ⟨Nat.le_of_ble_eq_true rfl, Nat.le_of_ble_eq_true rfl⟩, (by show 12 + 3 * k + 0 ≤ 684551; omega), (by show 74 + 18 * k + 0 ≤ 7048046; omega)⟩ (Nat.le_of_ble_eq_true rfl) (fun v1 w1 hp => ?_)
    obtain ⟨⟨c0, rfl⟩, hw9⟩ := hp
    replace hw9 := hw9.symm
    subst hw9
    refine x_sipush (v := 256) F dL_law_56 (by decide) ?_
    refine x_cSi2 F dL_law_59 (x_gS q425 q426 q0 q427) (c_below _ (d := 256) (by decide) (by decide)) ⟨rfl, rfl, rfl, xd_L_below, ⟨Nat.le_of_ble_eq_true rfl, Nat.le_of_ble_eq_true rfl⟩, (by show 12 + 3 * k + 0 ≤ 684551; omega), (by show 74 + 18 * k + 0 ≤ 7048046; omega)⟩ (Nat.le_of_ble_eq_true rfl) (fun v1 w1 hp => ?_)
    obtain ⟨⟨a1, ha1, rfl⟩, hw9⟩ := hp
    replace hw9 := hw9.symm
    subst hw9
    refine x_iload F dL_law_62 rfl ?_
    refine x_if_ne F dL_law_64 rfl (fun h64 => ?_) (fun h64 => ?_)
    · refine x_iconst (v := 1) F dL_law_73 (by decide) ?_
      refine x_ior F dL_law_74 ?_
      first
      | (rw [show nI a1 ||| 255 = nI (a1 ||| 255) from n_or a1 255]
         exact x_lk (m75 _ (or_256 ha1 (by decide))) ⟨rfl, rfl, rfl, rfl, rfl, rfl, trivial⟩)
      | (rw [show nI a1 ||| 1 = nI (a1 ||| 1) from n_or a1 1]
         exact x_lk (m75 _ (or_256 ha1 (by decide))) ⟨rfl, rfl, rfl, rfl, rfl, rfl, trivial⟩)
    · refine x_sipush (v := 255) F dL_law_67 (by decide) ?_
      refine x_goto F dL_law_70 rfl ?_
      refine x_ior F dL_law_74 ?_
      first
      | (rw [show nI a1 ||| 255 = nI (a1 ||| 255) from n_or a1 255]
         exact x_lk (m75 _ (or_256 ha1 (by decide))) ⟨rfl, rfl, rfl, rfl, rfl, rfl, trivial⟩)
      | (rw [show nI a1 ||| 1 = nI (a1 ||| 1) from n_or a1 1]
         exact x_lk (m75 _ (or_256 ha1 (by decide))) ⟨rfl, rfl, rfl, rfl, rfl, rfl, trivial⟩)
set_option maxRecDepth 100000 in
set_option maxHeartbeats 4000000 in
theorem law_rest (F : x_Fix p s m #[.ref b] meth c cL_law 15 RL xTs rt nm D dA vwCl tyL0 B) (hX : va_X b L xs s s.heap) (hbB : b < B) (hL : L ≤ 260) (HRET : ∀ lv w1, X p l e room_1 s m #[.ref b] below meth c Q D dA vwCl B 15 666 4006 937 lv [.int 1] w1) (hV2 : 2 ≤ V) (hV6 : V ≤ 6) (hHN : HN V H N) (hU : SU K V 0 0 H N) (hR : Rep Z K J w) (hS : SD Z K w V ha nd H N) : X p l e room_1 s m #[.ref b] below meth c Q D dA vwCl B 15 30 182 201 [(0, .ref b), (1, .ref (Z 0 0)), (2, .int (nI V)), (3, .ref ha), (4, .ref nd)] [] w := by
  refine x_iconst (v := 2) F dL_law_201 (by decide) ?_
  refine x_aload_n F dL_law_202 rfl rfl ?_
  refine x_iconst (v := 1) F dL_law_203 (by decide) ?_
  refine x_cCell F dL_law_204 (x_gS q429 q430 q0 q431) hX hbB (c_cell hbB hL (j := 1) (by decide)) ⟨rfl, rfl, rfl, xd_L_cell, ⟨Nat.le_of_ble_eq_true rfl, Nat.le_of_ble_eq_true rfl⟩, Nat.le_of_ble_eq_true rfl, Nat.le_of_ble_eq_true rfl⟩ (Nat.le_of_ble_eq_true rfl) (fun v1 w1 hp => ?_)
  obtain ⟨⟨c0, rfl⟩, hw9⟩ := hp
  replace hw9 := hw9.symm
  subst hw9
  refine x_bipush (v := 6) F dL_law_207 (by decide) ?_
  refine x_cSi2 F dL_law_209 (x_gS q425 q426 q0 q427) (c_below _ (d := 6) (by decide) (by decide)) ⟨rfl, rfl, rfl, xd_L_below, ⟨Nat.le_of_ble_eq_true rfl, Nat.le_of_ble_eq_true rfl⟩, Nat.le_of_ble_eq_true rfl, Nat.le_of_ble_eq_true rfl⟩ (Nat.le_of_ble_eq_true rfl) (fun v1 w1 hp => ?_)
  obtain ⟨⟨d, hd, rfl⟩, hw9⟩ := hp
  replace hw9 := hw9.symm
  subst hw9
  refine x_iadd F dL_law_212 ?_
  rw [show (2 : Int32) + nI d = nI (d + 2) from (Int32.add_comm _ _).trans (nI_add d 2)]
  obtain ⟨C, hCd⟩ : ∃ C, C = d + 2 := ⟨_, rfl⟩
  rw [← hCd]
  refine x_istore F dL_law_213 (by decide) ?_
  refine x_iconst (v := 0) F dL_law_215 (by decide) ?_
  refine x_istore F dL_law_216 (by decide) ?_
  exact x_widen (by omega) (by omega) (x_lk (law_clients F hX hbB hL hHN hV2 hV6 (by omega) (fun Z K J w hU hR hS => x_widen (by omega) (by omega) (law_loop F hX hbB hL (by omega) (by omega) (fun K1 J1 w1 hI hK hR hS => law_end F HRET hI hK hR hS) 60 0 (by omega) _ _ _ hU.inv hU.2.2.2.2 hR hS)) C 0 (by omega) _ _ _ _ hU hR hS) ⟨rfl, rfl, rfl, rfl, rfl, rfl, rfl, trivial⟩)
set_option maxRecDepth 100000 in
set_option maxHeartbeats 4000000 in
theorem law_X (F : x_Fix p s m #[.ref b] meth c cL_law 15 RL xTs rt nm D dA vwCl tyL0 B) (hX : va_X b L xs s s.heap) (hbB : b < B) (hL : L ≤ 260) (HRET : ∀ lv w1, X p l e room_1 s m #[.ref b] below meth c Q D dA vwCl B 15 666 4006 937 lv [.int 1] w1) : X p l e room_1 s m #[.ref b] below meth c Q D dA vwCl B 15 0 0 0 [(0, .ref b)] [] (fun _ => none) := by
  refine x_new (ci := 6) (C := RX6) (T := TX6) (N := 12) (fs := [.null, .null, .null, .int 0, .int 0, .int 0, .int 0, .int 0, .int 0, .int 0, .null, .null]) F dL_law_0 rfl inX6 tyX6 tyX6_ok q17 q18 q1 (fun j hj => by rcases (show j = 0 ∨ j = 1 ∨ j = 2 ∨ j = 3 ∨ j = 4 ∨ j = 5 ∨ j = 6 ∨ j = 7 ∨ j = 8 ∨ j = 9 ∨ j = 10 ∨ j = 11 by omega) with rfl | rfl | rfl | rfl | rfl | rfl | rfl | rfl | rfl | rfl | rfl | rfl <;> rfl) (Nat.le_of_ble_eq_true rfl) (Nat.le_of_ble_eq_true rfl) (fun r hr => ?_)
  refine x_wd (fun w1 hw1 => ?_)
  have h_r : w1 r = some (.inr (6, [.null, .null, .null, .int 0, .int 0, .int 0, .int 0, .int 0, .int 0, .int 0, .null, .null])) := by rw [hw1]; exact x_set_eq _ _ _
  refine x_dup F dL_law_3 rfl ?_
  refine x_cI0 F dL_law_4 (x_gI q21) q1 q19 q20 rfl (c_init h_r) ⟨rfl, rfl, rfl, xd_X6_init, ⟨Nat.le_of_ble_eq_true rfl, Nat.le_of_ble_eq_true rfl⟩, Nat.le_of_ble_eq_true rfl, Nat.le_of_ble_eq_true rfl⟩ (Nat.le_of_ble_eq_true rfl) (fun w1 hp => ?_)
  obtain ⟨Z, hZ, hR, -⟩ := hp
  subst hZ
  refine x_astore_n F dL_law_7 rfl (by decide) ?_
  refine x_aload_n F dL_law_8 rfl rfl ?_
  refine x_cVi0 (ci := 6) (C := RX6) (T := TX6) (N := 12) F dL_law_9 (x_gV q89 q90 q91 q1 q92) rfl (k_open hR) ⟨rfl, rfl, rfl, xd_X6_open, ⟨Nat.le_of_ble_eq_true rfl, Nat.le_of_ble_eq_true rfl⟩, Nat.le_of_ble_eq_true rfl, Nat.le_of_ble_eq_true rfl⟩ rfl hR.main (Nat.le_of_ble_eq_true rfl) (fun v1 w1 hp => ?_)
  obtain ⟨rfl, Z2, J2, hZ2, hR, -⟩ := hp
  rw [← hZ2]
  refine x_if_eq F dL_law_12 rfl (fun _ => ?_) (fun hc => absurd hc (by decide))
  refine x_iconst (v := 2) F dL_law_17 (by decide) ?_
  refine x_aload_n F dL_law_18 rfl rfl ?_
  refine x_iconst (v := 0) F dL_law_19 (by decide) ?_
  refine x_cCell F dL_law_20 (x_gS q429 q430 q0 q431) hX hbB (c_cell hbB hL (j := 0) (by decide)) ⟨rfl, rfl, rfl, xd_L_cell, ⟨Nat.le_of_ble_eq_true rfl, Nat.le_of_ble_eq_true rfl⟩, Nat.le_of_ble_eq_true rfl, Nat.le_of_ble_eq_true rfl⟩ (Nat.le_of_ble_eq_true rfl) (fun v1 w1 hp => ?_)
  obtain ⟨⟨c0, rfl⟩, hw9⟩ := hp
  replace hw9 := hw9.symm
  subst hw9
  refine x_iconst (v := 4) F dL_law_23 (by decide) ?_
  refine x_cSi2 F dL_law_24 (x_gS q425 q426 q0 q427) (c_below _ (d := 4) (by decide) (by decide)) ⟨rfl, rfl, rfl, xd_L_below, ⟨Nat.le_of_ble_eq_true rfl, Nat.le_of_ble_eq_true rfl⟩, Nat.le_of_ble_eq_true rfl, Nat.le_of_ble_eq_true rfl⟩ (Nat.le_of_ble_eq_true rfl) (fun v1 w1 hp => ?_)
  obtain ⟨⟨d, hd, rfl⟩, hw9⟩ := hp
  replace hw9 := hw9.symm
  subst hw9
  refine x_iadd F dL_law_27 ?_
  rw [show (2 : Int32) + nI d = nI (d + 2) from (Int32.add_comm _ _).trans (nI_add d 2)]
  obtain ⟨V, hVd⟩ : ∃ V, V = d + 2 := ⟨_, rfl⟩
  rw [← hVd]
  refine x_istore_n F dL_law_28 rfl (by decide) ?_
  refine x_iload_n F dL_law_29 rfl rfl ?_
  refine x_newa (t := 0) (N := V) F dL_law_30 rfl q44 (nI_pos (by omega)) (nI_clamp (by omega)) (by show V * 4 ≤ 536870912; omega) (Nat.le_of_ble_eq_true rfl) (by show 0 + 12 + 41 + 9 + V ≤ 7048046; omega) (fun ha hha => ?_)
  refine x_wd (fun w2 hw2 => ?_)
  have hNa : NL Z2 (kOpen K0) ha := NL.of hR hha
  replace hR : Rep Z2 (kOpen K0) J2 w2 := by rw [hw2]; exact hR.fresh hha _
  have h_ha : w2 ha = some (aI V (fun _ => 0)) := by rw [hw2]; exact x_set_eq _ _ _
  refine x_widen (n1 := 11) (n2 := 68) (by omega) (by omega) ?_
  refine x_astore_n F dL_law_32 rfl (by decide) ?_
  refine x_iload_n F dL_law_33 rfl rfl ?_
  refine x_newa (t := 0) (N := V) F dL_law_34 rfl q44 (nI_pos (by omega)) (nI_clamp (by omega)) (by show V * 4 ≤ 536870912; omega) (Nat.le_of_ble_eq_true rfl) (by show 68 + V ≤ 7048046; omega) (fun nd hnd => ?_)
  refine x_wd (fun w3 hw3 => ?_)
  have hNd : NL Z2 (kOpen K0) nd := NL.of hR hnd
  have hne : ¬ ha = nd := fun e => by rw [e, hnd] at h_ha; cases h_ha
  have hS : SD Z2 (kOpen K0) w3 V ha nd (fun _ => 0) (fun _ => 0) := ⟨by rw [hw3, x_set_ne _ _ hne]; exact h_ha, by rw [hw3]; exact x_set_eq _ _ _, hNa, hNd, hne⟩
  replace hR : Rep Z2 (kOpen K0) J2 w3 := by rw [hw3]; exact hR.fresh hnd _
  refine x_widen (n1 := 12) (n2 := 74) (by omega) (by omega) ?_
  refine x_astore F dL_law_36 (by decide) ?_
  refine x_iconst (v := 0) F dL_law_38 (by decide) ?_
  refine x_istore F dL_law_39 (by decide) ?_
  exact x_widen (by omega) (by omega) (x_lk (law_versions F hX hbB hL (by omega) (by omega) (fun H N Z K J w hHN hU hR hS => law_rest F hX hbB hL HRET (by omega) (by omega) hHN hU hR hS) V 0 (by omega) _ _ _ _ _ _ (SU.start _ _) (fun i hi => absurd hi (Nat.not_lt_zero _)) hR hS) ⟨rfl, rfl, rfl, rfl, rfl, rfl, trivial⟩)
end STA
