theorem dJxa1e45_init_da8c8_0 : decode cJxa1e45_init_da8c8 0 = .ok (.aload_n 0, 1) := by decide +kernel
theorem dJxa1e45_init_da8c8_1 : decode cJxa1e45_init_da8c8 1 = .ok (.invokespecial 1, 3) := by decide +kernel
theorem dJxa1e45_init_da8c8_4 : decode cJxa1e45_init_da8c8 4 = .ok (.return_, 1) := by decide +kernel
theorem dJxc12de_init_da8c8_0 : decode cJxc12de_init_da8c8 0 = .ok (.aload_n 0, 1) := by decide +kernel
theorem dJxc12de_init_da8c8_1 : decode cJxc12de_init_da8c8 1 = .ok (.invokespecial 1, 3) := by decide +kernel
theorem dJxc12de_init_da8c8_4 : decode cJxc12de_init_da8c8 4 = .ok (.aload_n 0, 1) := by decide +kernel
theorem dJxc12de_init_da8c8_5 : decode cJxc12de_init_da8c8 5 = .ok (.iconst 0, 1) := by decide +kernel
theorem dJxc12de_init_da8c8_6 : decode cJxc12de_init_da8c8 6 = .ok (.putfield 7, 3) := by decide +kernel
theorem dJxc12de_init_da8c8_9 : decode cJxc12de_init_da8c8 9 = .ok (.return_, 1) := by decide +kernel
theorem dJx4a65c_init_da8c8_0 : decode cJx4a65c_init_da8c8 0 = .ok (.aload_n 0, 1) := by decide +kernel
theorem dJx4a65c_init_da8c8_1 : decode cJx4a65c_init_da8c8 1 = .ok (.invokespecial 1, 3) := by decide +kernel
theorem dJx4a65c_init_da8c8_4 : decode cJx4a65c_init_da8c8 4 = .ok (.aload_n 0, 1) := by decide +kernel
theorem dJx4a65c_init_da8c8_5 : decode cJx4a65c_init_da8c8 5 = .ok (.getstatic 39, 3) := by decide +kernel
theorem dJx4a65c_init_da8c8_8 : decode cJx4a65c_init_da8c8 8 = .ok (.putfield 9, 3) := by decide +kernel
theorem dJx4a65c_init_da8c8_11 : decode cJx4a65c_init_da8c8 11 = .ok (.return_, 1) := by decide +kernel
theorem dJx4a65c_size_8abf5_0 : decode cJx4a65c_size_8abf5 0 = .ok (.aload_n 0, 1) := by decide +kernel
theorem dJx4a65c_size_8abf5_1 : decode cJx4a65c_size_8abf5 1 = .ok (.getfield 48, 3) := by decide +kernel
theorem dJx4a65c_size_8abf5_4 : decode cJx4a65c_size_8abf5 4 = .ok (.ireturn, 1) := by decide +kernel
theorem dJx4a65c_isEmpty_aae02_0 : decode cJx4a65c_isEmpty_aae02 0 = .ok (.aload_n 0, 1) := by decide +kernel
theorem dJx4a65c_isEmpty_aae02_1 : decode cJx4a65c_isEmpty_aae02 1 = .ok (.getfield 48, 3) := by decide +kernel
theorem dJx4a65c_isEmpty_aae02_4 : decode cJx4a65c_isEmpty_aae02 4 = .ok (.ifCond .ne 7, 3) := by decide +kernel
theorem dJx4a65c_isEmpty_aae02_7 : decode cJx4a65c_isEmpty_aae02 7 = .ok (.iconst 1, 1) := by decide +kernel
theorem dJx4a65c_isEmpty_aae02_8 : decode cJx4a65c_isEmpty_aae02 8 = .ok (.goto 4, 3) := by decide +kernel
theorem dJx4a65c_isEmpty_aae02_12 : decode cJx4a65c_isEmpty_aae02 12 = .ok (.ireturn, 1) := by decide +kernel
theorem dJx35411_init_45d68_0 : decode cJx35411_init_45d68 0 = .ok (.aload_n 0, 1) := by decide +kernel
theorem dJx35411_init_45d68_1 : decode cJx35411_init_45d68 1 = .ok (.aload_n 1, 1) := by decide +kernel
theorem dJx35411_init_45d68_2 : decode cJx35411_init_45d68 2 = .ok (.putfield 1, 3) := by decide +kernel
theorem dJx35411_init_45d68_5 : decode cJx35411_init_45d68 5 = .ok (.aload_n 0, 1) := by decide +kernel
theorem dJx35411_init_45d68_6 : decode cJx35411_init_45d68 6 = .ok (.invokespecial 7, 3) := by decide +kernel
theorem dJx35411_init_45d68_9 : decode cJx35411_init_45d68 9 = .ok (.aload_n 0, 1) := by decide +kernel
theorem dJx35411_init_45d68_10 : decode cJx35411_init_45d68 10 = .ok (.iconst (-1), 1) := by decide +kernel
theorem dJx35411_init_45d68_11 : decode cJx35411_init_45d68 11 = .ok (.putfield 13, 3) := by decide +kernel
theorem dJx35411_init_45d68_14 : decode cJx35411_init_45d68 14 = .ok (.aload_n 0, 1) := by decide +kernel
theorem dJx35411_init_45d68_15 : decode cJx35411_init_45d68 15 = .ok (.aload_n 0, 1) := by decide +kernel
theorem dJx35411_init_45d68_16 : decode cJx35411_init_45d68 16 = .ok (.getfield 1, 3) := by decide +kernel
theorem dJx35411_init_45d68_19 : decode cJx35411_init_45d68 19 = .ok (.getfield 17, 3) := by decide +kernel
theorem dJx35411_init_45d68_22 : decode cJx35411_init_45d68 22 = .ok (.putfield 22, 3) := by decide +kernel
theorem dJx35411_init_45d68_25 : decode cJx35411_init_45d68 25 = .ok (.return_, 1) := by decide +kernel
theorem dJx4a65c_iterator_32c93_0 : decode cJx4a65c_iterator_32c93 0 = .ok (.new 267, 3) := by decide +kernel
theorem dJx4a65c_iterator_32c93_3 : decode cJx4a65c_iterator_32c93 3 = .ok (.dup, 1) := by decide +kernel
theorem dJx4a65c_iterator_32c93_4 : decode cJx4a65c_iterator_32c93 4 = .ok (.aload_n 0, 1) := by decide +kernel
theorem dJx4a65c_iterator_32c93_5 : decode cJx4a65c_iterator_32c93 5 = .ok (.invokespecial 269, 3) := by decide +kernel
theorem dJx4a65c_iterator_32c93_8 : decode cJx4a65c_iterator_32c93 8 = .ok (.areturn, 1) := by decide +kernel
theorem dJx35411_hasNext_aae02_0 : decode cJx35411_hasNext_aae02 0 = .ok (.aload_n 0, 1) := by decide +kernel
theorem dJx35411_hasNext_aae02_1 : decode cJx35411_hasNext_aae02 1 = .ok (.getfield 25, 3) := by decide +kernel
theorem dJx35411_hasNext_aae02_4 : decode cJx35411_hasNext_aae02 4 = .ok (.aload_n 0, 1) := by decide +kernel
theorem dJx35411_hasNext_aae02_5 : decode cJx35411_hasNext_aae02 5 = .ok (.getfield 1, 3) := by decide +kernel
theorem dJx35411_hasNext_aae02_8 : decode cJx35411_hasNext_aae02 8 = .ok (.getfield 28, 3) := by decide +kernel
theorem dJx35411_hasNext_aae02_11 : decode cJx35411_hasNext_aae02 11 = .ok (.if_icmp .eq 7, 3) := by decide +kernel
theorem dJx35411_hasNext_aae02_18 : decode cJx35411_hasNext_aae02 18 = .ok (.iconst 0, 1) := by decide +kernel
theorem dJx35411_hasNext_aae02_19 : decode cJx35411_hasNext_aae02 19 = .ok (.ireturn, 1) := by decide +kernel
theorem dJx4a65c_grow_92f84_0 : decode cJx4a65c_grow_92f84 0 = .ok (.aload_n 0, 1) := by decide +kernel
theorem dJx4a65c_grow_92f84_1 : decode cJx4a65c_grow_92f84 1 = .ok (.getfield 9, 3) := by decide +kernel
theorem dJx4a65c_grow_92f84_4 : decode cJx4a65c_grow_92f84 4 = .ok (.arraylength, 1) := by decide +kernel
theorem dJx4a65c_grow_92f84_5 : decode cJx4a65c_grow_92f84 5 = .ok (.istore_n 2, 1) := by decide +kernel
theorem dJx4a65c_grow_92f84_6 : decode cJx4a65c_grow_92f84 6 = .ok (.iload_n 2, 1) := by decide +kernel
theorem dJx4a65c_grow_92f84_7 : decode cJx4a65c_grow_92f84 7 = .ok (.ifCond .gt 13, 3) := by decide +kernel
theorem dJx4a65c_grow_92f84_10 : decode cJx4a65c_grow_92f84 10 = .ok (.aload_n 0, 1) := by decide +kernel
theorem dJx4a65c_grow_92f84_11 : decode cJx4a65c_grow_92f84 11 = .ok (.getfield 9, 3) := by decide +kernel
theorem dJx4a65c_grow_92f84_14 : decode cJx4a65c_grow_92f84 14 = .ok (.getstatic 39, 3) := by decide +kernel
theorem dJx4a65c_grow_92f84_17 : decode cJx4a65c_grow_92f84 17 = .ok (.if_acmp .eq 28, 3) := by decide +kernel
theorem dJx4a65c_grow_92f84_45 : decode cJx4a65c_grow_92f84 45 = .ok (.aload_n 0, 1) := by decide +kernel
theorem dJx4a65c_grow_92f84_46 : decode cJx4a65c_grow_92f84 46 = .ok (.bipush 10, 2) := by decide +kernel
theorem dJx4a65c_grow_92f84_48 : decode cJx4a65c_grow_92f84 48 = .ok (.iload_n 1, 1) := by decide +kernel
theorem dJx4a65c_grow_92f84_49 : decode cJx4a65c_grow_92f84 49 = .ok (.invokestatic 79, 3) := by decide +kernel
theorem dJx4a65c_grow_92f84_52 : decode cJx4a65c_grow_92f84 52 = .ok (.anewarray 7, 3) := by decide +kernel
theorem dJx4a65c_grow_92f84_55 : decode cJx4a65c_grow_92f84 55 = .ok (.dup_x1, 1) := by decide +kernel
theorem dJx4a65c_grow_92f84_56 : decode cJx4a65c_grow_92f84 56 = .ok (.putfield 9, 3) := by decide +kernel
theorem dJx4a65c_grow_92f84_59 : decode cJx4a65c_grow_92f84 59 = .ok (.areturn, 1) := by decide +kernel
theorem dJx4a65c_grow_d5877_0 : decode cJx4a65c_grow_d5877 0 = .ok (.aload_n 0, 1) := by decide +kernel
theorem dJx4a65c_grow_d5877_1 : decode cJx4a65c_grow_d5877 1 = .ok (.aload_n 0, 1) := by decide +kernel
theorem dJx4a65c_grow_d5877_2 : decode cJx4a65c_grow_d5877 2 = .ok (.getfield 48, 3) := by decide +kernel
theorem dJx4a65c_grow_d5877_5 : decode cJx4a65c_grow_d5877 5 = .ok (.iconst 1, 1) := by decide +kernel
theorem dJx4a65c_grow_d5877_6 : decode cJx4a65c_grow_d5877 6 = .ok (.iadd, 1) := by decide +kernel
theorem dJx4a65c_grow_d5877_7 : decode cJx4a65c_grow_d5877 7 = .ok (.invokevirtual 69, 3) := by decide +kernel
theorem dJx4a65c_grow_d5877_10 : decode cJx4a65c_grow_d5877 10 = .ok (.areturn, 1) := by decide +kernel
theorem dJx4a65c_add_72be8_0 : decode cJx4a65c_add_72be8 0 = .ok (.iload_n 3, 1) := by decide +kernel
theorem dJx4a65c_add_72be8_1 : decode cJx4a65c_add_72be8 1 = .ok (.aload_n 2, 1) := by decide +kernel
theorem dJx4a65c_add_72be8_2 : decode cJx4a65c_add_72be8 2 = .ok (.arraylength, 1) := by decide +kernel
theorem dJx4a65c_add_72be8_3 : decode cJx4a65c_add_72be8 3 = .ok (.if_icmp .ne 8, 3) := by decide +kernel
theorem dJx4a65c_add_72be8_6 : decode cJx4a65c_add_72be8 6 = .ok (.aload_n 0, 1) := by decide +kernel
theorem dJx4a65c_add_72be8_7 : decode cJx4a65c_add_72be8 7 = .ok (.invokevirtual 129, 3) := by decide +kernel
theorem dJx4a65c_add_72be8_10 : decode cJx4a65c_add_72be8 10 = .ok (.astore_n 2, 1) := by decide +kernel
theorem dJx4a65c_add_72be8_11 : decode cJx4a65c_add_72be8 11 = .ok (.aload_n 2, 1) := by decide +kernel
theorem dJx4a65c_add_72be8_12 : decode cJx4a65c_add_72be8 12 = .ok (.iload_n 3, 1) := by decide +kernel
theorem dJx4a65c_add_72be8_13 : decode cJx4a65c_add_72be8 13 = .ok (.aload_n 1, 1) := by decide +kernel
theorem dJx4a65c_add_72be8_14 : decode cJx4a65c_add_72be8 14 = .ok (.aastore, 1) := by decide +kernel
theorem dJx4a65c_add_72be8_15 : decode cJx4a65c_add_72be8 15 = .ok (.aload_n 0, 1) := by decide +kernel
theorem dJx4a65c_add_72be8_16 : decode cJx4a65c_add_72be8 16 = .ok (.iload_n 3, 1) := by decide +kernel
theorem dJx4a65c_add_72be8_17 : decode cJx4a65c_add_72be8 17 = .ok (.iconst 1, 1) := by decide +kernel
theorem dJx4a65c_add_72be8_18 : decode cJx4a65c_add_72be8 18 = .ok (.iadd, 1) := by decide +kernel
theorem dJx4a65c_add_72be8_19 : decode cJx4a65c_add_72be8 19 = .ok (.putfield 48, 3) := by decide +kernel
theorem dJx4a65c_add_72be8_22 : decode cJx4a65c_add_72be8 22 = .ok (.return_, 1) := by decide +kernel
theorem dJx4a65c_add_9ea2d_0 : decode cJx4a65c_add_9ea2d 0 = .ok (.aload_n 0, 1) := by decide +kernel
theorem dJx4a65c_add_9ea2d_1 : decode cJx4a65c_add_9ea2d 1 = .ok (.dup, 1) := by decide +kernel
theorem dJx4a65c_add_9ea2d_2 : decode cJx4a65c_add_9ea2d 2 = .ok (.getfield 63, 3) := by decide +kernel
theorem dJx4a65c_add_9ea2d_5 : decode cJx4a65c_add_9ea2d 5 = .ok (.iconst 1, 1) := by decide +kernel
theorem dJx4a65c_add_9ea2d_6 : decode cJx4a65c_add_9ea2d 6 = .ok (.iadd, 1) := by decide +kernel
theorem dJx4a65c_add_9ea2d_7 : decode cJx4a65c_add_9ea2d 7 = .ok (.putfield 63, 3) := by decide +kernel
theorem dJx4a65c_add_9ea2d_10 : decode cJx4a65c_add_9ea2d 10 = .ok (.aload_n 0, 1) := by decide +kernel
theorem dJx4a65c_add_9ea2d_11 : decode cJx4a65c_add_9ea2d 11 = .ok (.aload_n 1, 1) := by decide +kernel
theorem dJx4a65c_add_9ea2d_12 : decode cJx4a65c_add_9ea2d 12 = .ok (.aload_n 0, 1) := by decide +kernel
theorem dJx4a65c_add_9ea2d_13 : decode cJx4a65c_add_9ea2d 13 = .ok (.getfield 9, 3) := by decide +kernel
theorem dJx4a65c_add_9ea2d_16 : decode cJx4a65c_add_9ea2d 16 = .ok (.aload_n 0, 1) := by decide +kernel
theorem dJx4a65c_add_9ea2d_17 : decode cJx4a65c_add_9ea2d 17 = .ok (.getfield 48, 3) := by decide +kernel
theorem dJx4a65c_add_9ea2d_20 : decode cJx4a65c_add_9ea2d 20 = .ok (.invokevirtual 131, 3) := by decide +kernel
theorem dJx4a65c_add_9ea2d_23 : decode cJx4a65c_add_9ea2d 23 = .ok (.iconst 1, 1) := by decide +kernel
theorem dJx4a65c_add_9ea2d_24 : decode cJx4a65c_add_9ea2d 24 = .ok (.ireturn, 1) := by decide +kernel
/-! ===== lists without elements ===== -/
section LST
variable {l : Launch} {D : va_G} {dA : Nat → ClassId} {B : Nat} {w : xW}
set_option maxRecDepth 100000 in
set_option maxHeartbeats 4000000 in
theorem c_ac_init (a : Nat) : Cv l D dA B yJxa1e45_init_da8c8 wJxa1e45_init_da8c8 1 [.ref a] w (fun w1 => w1 = w) := by
  refine x_Ct.of (cc := cJxa1e45_init_da8c8) (maxL := 1) (by decide) rfl (Nat.le_of_ble_eq_true rfl) ?_
  intro p e s m below meth c F
  refine x_aload_n F dJxa1e45_init_da8c8_0 rfl rfl ?_
  refine x_objInit F dJxa1e45_init_da8c8_1 q358 q37 q38 (Nat.le_of_ble_eq_true rfl) (Nat.le_of_ble_eq_true rfl) ?_
  refine x_vret F rfl dJxa1e45_init_da8c8_4 (Nat.le_of_ble_eq_true rfl) (Nat.le_of_ble_eq_true rfl) ?_
  exact ⟨rfl, rfl⟩
set_option maxRecDepth 100000 in
set_option maxHeartbeats 4000000 in
theorem c_al_init {a : Nat} (h : w a = some (.inr (1, [.int 0, .null, .int 0]))) : Cv l D dA B yJxc12de_init_da8c8 wJxc12de_init_da8c8 2 [.ref a] w (fun w1 => w1 = w) := by
  refine x_Ct.of (cc := cJxc12de_init_da8c8) (maxL := 1) (by decide) rfl (Nat.le_of_ble_eq_true rfl) ?_
  intro p e s m below meth c F
  refine x_aload_n F dJxc12de_init_da8c8_0 rfl rfl ?_
  refine x_cI0 F dJxc12de_init_da8c8_1 (x_gI q357) q7 q355 q356 rfl (c_ac_init a) ⟨rfl, rfl, rfl, xd_Jxa1e45_init_da8c8, ⟨Nat.le_of_ble_eq_true rfl, Nat.le_of_ble_eq_true rfl⟩, Nat.le_of_ble_eq_true rfl, Nat.le_of_ble_eq_true rfl⟩ (Nat.le_of_ble_eq_true rfl) (fun w1 hp => ?_)
  replace hp := hp.symm
  subst hp
  refine x_aload_n F dJxc12de_init_da8c8_4 rfl rfl ?_
  refine x_iconst (v := 0) F dJxc12de_init_da8c8_5 (by decide) ?_
  refine x_put (ci := 1) (C := RJx4a65c) (T := TJx4a65c) (N := 3) (k := 0) F dJxc12de_init_da8c8_6 rfl inJx4a65c tyJx4a65c tyJx4a65c_ok nmJx4a65c (by decide) q363 rfl rfl h (Nat.le_of_ble_eq_true rfl) rfl rfl ?_
  refine x_wd (fun w2 hw2 => ?_)
  obtain rfl : w2 = w := by rw [hw2]; exact x_set_self h
  refine x_vret F rfl dJxc12de_init_da8c8_9 (Nat.le_of_ble_eq_true rfl) (Nat.le_of_ble_eq_true rfl) ?_
  exact ⟨rfl, rfl⟩
set_option maxRecDepth 100000 in
set_option maxHeartbeats 4000000 in
theorem c_li_init {a : Nat} (h : w a = some (.inr (1, [.int 0, .null, .int 0]))) : Cv l D dA B yJx4a65c_init_da8c8 wJx4a65c_init_da8c8 3 [.ref a] w (fun w1 => w1 = x_set w a (oE (dA 99))) := by
  refine x_Ct.of (cc := cJx4a65c_init_da8c8) (maxL := 1) (by decide) rfl (Nat.le_of_ble_eq_true rfl) ?_
  intro p e s m below meth c F
  refine x_aload_n F dJx4a65c_init_da8c8_0 rfl rfl ?_
  refine x_cI0 F dJx4a65c_init_da8c8_1 (x_gI q354) q8 q352 q353 rfl (c_al_init h) ⟨rfl, rfl, rfl, xd_Jxc12de_init_da8c8, ⟨Nat.le_of_ble_eq_true rfl, Nat.le_of_ble_eq_true rfl⟩, Nat.le_of_ble_eq_true rfl, Nat.le_of_ble_eq_true rfl⟩ (Nat.le_of_ble_eq_true rfl) (fun w1 hp => ?_)
  replace hp := hp.symm
  subst hp
  refine x_aload_n F dJx4a65c_init_da8c8_4 rfl rfl ?_
  refine x_getsE F dJx4a65c_init_da8c8_5 q359 ?_
  refine x_put (ci := 1) (C := RJx4a65c) (T := TJx4a65c) (N := 3) (k := 1) F dJx4a65c_init_da8c8_8 rfl inJx4a65c tyJx4a65c tyJx4a65c_ok nmJx4a65c (by decide) q360 rfl rfl h (Nat.le_of_ble_eq_true rfl) rfl rfl ?_
  refine x_vret F rfl dJx4a65c_init_da8c8_11 (Nat.le_of_ble_eq_true rfl) (Nat.le_of_ble_eq_true rfl) ?_
  exact ⟨rfl, rfl⟩
set_option maxRecDepth 100000 in
set_option maxHeartbeats 4000000 in
theorem c_size {a el : Nat} {pp z : Int32} (h : w a = some (.inr (1, [.int pp, .ref el, .int z]))) : Ci l D dA B yJx4a65c_size_8abf5 wJx4a65c_size_8abf5 0 [.ref a] w (fun v w1 => v = .int z ∧ w1 = w) := by
  refine x_Ct.of (cc := cJx4a65c_size_8abf5) (maxL := 1) (by decide) rfl (Nat.le_of_ble_eq_true rfl) ?_
  intro p e s m below meth c F
  refine x_aload_n F dJx4a65c_size_8abf5_0 rfl rfl ?_
  refine x_get (ci := 1) (C := RJx4a65c) (T := TJx4a65c) (N := 3) (k := 2) F dJx4a65c_size_8abf5_1 rfl inJx4a65c (by decide) q362 rfl h rfl ?_
  refine x_iret F rfl rfl dJx4a65c_size_8abf5_4 (Nat.le_of_ble_eq_true rfl) (Nat.le_of_ble_eq_true rfl) ?_
  exact ⟨_, rfl, rfl, rfl⟩
set_option maxRecDepth 100000 in
set_option maxHeartbeats 4000000 in
theorem c_isEmpty {a el : Nat} (h : w a = some (oE el)) : Ci l D dA B yJx4a65c_isEmpty_aae02 wJx4a65c_isEmpty_aae02 0 [.ref a] w (fun v w1 => v = .int 1 ∧ w1 = w) := by
  refine x_Ct.of (cc := cJx4a65c_isEmpty_aae02) (maxL := 1) (by decide) rfl (Nat.le_of_ble_eq_true rfl) ?_
  intro p e s m below meth c F
  refine x_aload_n F dJx4a65c_isEmpty_aae02_0 rfl rfl ?_
  refine x_get (ci := 1) (C := RJx4a65c) (T := TJx4a65c) (N := 3) (k := 2) F dJx4a65c_isEmpty_aae02_1 rfl inJx4a65c (by decide) q362 rfl h rfl ?_
  refine x_if_ne F dJx4a65c_isEmpty_aae02_4 rfl (fun hc => absurd hc (by decide)) (fun _ => ?_)
  refine x_iconst (v := 1) F dJx4a65c_isEmpty_aae02_7 (by decide) ?_
  refine x_goto F dJx4a65c_isEmpty_aae02_8 rfl ?_
  refine x_iret F rfl rfl dJx4a65c_isEmpty_aae02_12 (Nat.le_of_ble_eq_true rfl) (Nat.le_of_ble_eq_true rfl) ?_
  exact ⟨_, rfl, rfl, rfl⟩
set_option maxRecDepth 100000 in
set_option maxHeartbeats 4000000 in
theorem c_it_init {r a el : Nat} (h_r : w r = some (.inr (0, [.int 0, .int 0, .int 0, .null]))) (h_a : w a = some (oE el)) : Cv l D dA B yJx35411_init_45d68 wJx35411_init_45d68 1 [.ref r, .ref a] w (fun w1 => w1 = x_set w r (.inr (0, [.int 0, .int (-1), .int 0, .ref a]))) := by
  refine x_Ct.of (cc := cJx35411_init_45d68) (maxL := 2) (by decide) rfl (Nat.le_of_ble_eq_true rfl) ?_
  intro p e s m below meth c F
  have ne_a_r : ¬ a = r := w_ne h_a h_r (fun z => by cases z)
  have hf : ∀ b, ¬ b = r → w b = w b := fun b _ => rfl
  refine x_aload_n F dJx35411_init_45d68_0 rfl rfl ?_
  refine x_aload_n F dJx35411_init_45d68_1 rfl rfl ?_
  refine x_putF (ci := 0) (C := RJx35411) (T := TJx35411) (N := 4) (k := 3) F dJx35411_init_45d68_2 rfl inJx35411 tyJx35411 tyJx35411_ok nmJx35411 (by decide) q464 rfl rfl rfl rfl h_r (Nat.le_of_ble_eq_true rfl) rfl rfl ?_
  refine x_wd (fun w1 hw1 => ?_)
  have h_r : w1 r = some (.inr (0, [.int 0, .int 0, .int 0, .ref a])) := by rw [hw1]; exact x_set_eq _ _ _
  have h_a : w1 a = some (oE el) := by rw [hw1, x_set_ne _ _ ne_a_r]; exact h_a
  have hf : ∀ b, ¬ b = r → w1 b = w b := fun b g0 => by rw [hw1]; exact (x_set_ne _ _ g0).trans (hf b g0)
  refine x_aload_n F dJx35411_init_45d68_5 rfl rfl ?_
  refine x_objInit F dJx35411_init_45d68_6 q460 q37 q38 (Nat.le_of_ble_eq_true rfl) (Nat.le_of_ble_eq_true rfl) ?_
  refine x_aload_n F dJx35411_init_45d68_9 rfl rfl ?_
  refine x_iconst (v := (-1)) F dJx35411_init_45d68_10 (by decide) ?_
  refine x_put (ci := 0) (C := RJx35411) (T := TJx35411) (N := 4) (k := 1) F dJx35411_init_45d68_11 rfl inJx35411 tyJx35411 tyJx35411_ok nmJx35411 (by decide) q462 rfl rfl h_r (Nat.le_of_ble_eq_true rfl) rfl rfl ?_
  refine x_wd (fun w2 hw2 => ?_)
  have h_r : w2 r = some (.inr (0, [.int 0, .int (-1), .int 0, .ref a])) := by rw [hw2]; exact x_set_eq _ _ _
  have h_a : w2 a = some (oE el) := by rw [hw2, x_set_ne _ _ ne_a_r]; exact h_a
  have hf : ∀ b, ¬ b = r → w2 b = w b := fun b g0 => by rw [hw2]; exact (x_set_ne _ _ g0).trans (hf b g0)
  refine x_aload_n F dJx35411_init_45d68_14 rfl rfl ?_
  refine x_aload_n F dJx35411_init_45d68_15 rfl rfl ?_
  refine x_get (ci := 0) (C := RJx35411) (T := TJx35411) (N := 4) (k := 3) F dJx35411_init_45d68_16 rfl inJx35411 (by decide) q464 rfl h_r rfl ?_
  refine x_getS (ci := 1) (C := RJx4a65c) (T := TJx4a65c) (N := 3) (k := 0) F dJx35411_init_45d68_19 rfl inJx4a65c (by decide) q364 q365 h_a rfl ?_
  refine x_put (ci := 0) (C := RJx35411) (T := TJx35411) (N := 4) (k := 2) F dJx35411_init_45d68_22 rfl inJx35411 tyJx35411 tyJx35411_ok nmJx35411 (by decide) q463 rfl rfl h_r (Nat.le_of_ble_eq_true rfl) rfl rfl ?_
  refine x_wd (fun w3 hw3 => ?_)
  have h_r : w3 r = some (.inr (0, [.int 0, .int (-1), .int 0, .ref a])) := by rw [hw3]; exact x_set_eq _ _ _
  have h_a : w3 a = some (oE el) := by rw [hw3, x_set_ne _ _ ne_a_r]; exact h_a
  have hf : ∀ b, ¬ b = r → w3 b = w b := fun b g0 => by rw [hw3]; exact (x_set_ne _ _ g0).trans (hf b g0)
  refine x_vret F rfl dJx35411_init_45d68_25 (Nat.le_of_ble_eq_true rfl) (Nat.le_of_ble_eq_true rfl) ?_
  refine ⟨rfl, ?_⟩
  funext b
  by_cases hb : b = r
  · subst hb; rw [x_set_eq]; exact h_r
  · rw [x_set_ne _ _ hb]; exact hf b hb
set_option maxRecDepth 100000 in
set_option maxHeartbeats 4000000 in
theorem c_iter {a el : Nat} (h : w a = some (oE el)) : x_Ci l D dA vwC1 tyL1 B yJx4a65c_iterator_32c93 wJx4a65c_iterator_32c93 (rmd 2 1 4) [.ref a] w (fun v w1 => ∃ r, w r = none ∧ v = .ref r ∧ w1 = x_set w r (.inr (0, [.int 0, .int (-1), .int 0, .ref a]))) 1 4 := by
  refine x_Ct.of (cc := cJx4a65c_iterator_32c93) (maxL := 1) (by decide) rfl (Nat.le_of_ble_eq_true rfl) ?_
  intro p e s m below meth c F
  refine x_new (ci := 0) (C := RJx35411) (T := TJx35411) (N := 4) (fs := [.int 0, .int 0, .int 0, .null]) F dJx4a65c_iterator_32c93_0 rfl inJx35411 tyJx35411 tyJx35411_ok q455 q456 q24 (fun j hj => by rcases (show j = 0 ∨ j = 1 ∨ j = 2 ∨ j = 3 by omega) with rfl | rfl | rfl | rfl <;> rfl) (Nat.le_of_ble_eq_true rfl) (Nat.le_of_ble_eq_true rfl) (fun r hr => ?_)
  refine x_wd (fun w1 hw1 => ?_)
  have h_r : w1 r = some (.inr (0, [.int 0, .int 0, .int 0, .null])) := by rw [hw1]; exact x_set_eq _ _ _
  have h_a : w1 a = some (oE el) := by rw [hw1, x_set_ne _ _ (w_neN h hr)]; exact h
  refine x_dup F dJx4a65c_iterator_32c93_3 rfl ?_
  refine x_aload_n F dJx4a65c_iterator_32c93_4 rfl rfl ?_
  refine x_cI1 F dJx4a65c_iterator_32c93_5 (x_gI q459) q24 q457 q458 rfl (c_it_init h_r h_a) ⟨rfl, rfl, rfl, xd_Jx35411_init_45d68, ⟨Nat.le_of_ble_eq_true rfl, Nat.le_of_ble_eq_true rfl⟩, Nat.le_of_ble_eq_true rfl, Nat.le_of_ble_eq_true rfl⟩ (Nat.le_of_ble_eq_true rfl) (fun w1 hp => ?_)
  subst hp
  refine x_aretR F rfl dJx4a65c_iterator_32c93_8 (Nat.le_of_ble_eq_true rfl) (Nat.le_of_ble_eq_true rfl) ?_
  exact ⟨_, rfl, r, hr, rfl, by rw [hw1, x_set_set]⟩
set_option maxRecDepth 100000 in
set_option maxHeartbeats 4000000 in
theorem c_hasNext {r a el : Nat} (h : w r = some (.inr (0, [.int 0, .int (-1), .int 0, .ref a]))) (h_a : w a = some (oE el)) : Ci l D dA B yJx35411_hasNext_aae02 wJx35411_hasNext_aae02 0 [.ref r] w (fun v w1 => v = .int 0 ∧ w1 = w) := by
  refine x_Ct.of (cc := cJx35411_hasNext_aae02) (maxL := 1) (by decide) rfl (Nat.le_of_ble_eq_true rfl) ?_
  intro p e s m below meth c F
  refine x_aload_n F dJx35411_hasNext_aae02_0 rfl rfl ?_
  refine x_get (ci := 0) (C := RJx35411) (T := TJx35411) (N := 4) (k := 0) F dJx35411_hasNext_aae02_1 rfl inJx35411 (by decide) q461 rfl h rfl ?_
  refine x_aload_n F dJx35411_hasNext_aae02_4 rfl rfl ?_
  refine x_get (ci := 0) (C := RJx35411) (T := TJx35411) (N := 4) (k := 3) F dJx35411_hasNext_aae02_5 rfl inJx35411 (by decide) q464 rfl h rfl ?_
  refine x_getN (ci := 1) (C := RJx4a65c) (T := TJx4a65c) (N := 3) (k := 2) F dJx35411_hasNext_aae02_8 rfl inJx4a65c (by decide) (x12 (x_Fix.xt F)) rfl h_a rfl ?_
  refine x_icmp_eq F dJx35411_hasNext_aae02_11 rfl (fun _ => ?_) (fun hc => absurd hc (by decide))
  refine x_iconst (v := 0) F dJx35411_hasNext_aae02_18 (by decide) ?_
  refine x_iret F rfl rfl dJx35411_hasNext_aae02_19 (Nat.le_of_ble_eq_true rfl) (Nat.le_of_ble_eq_true rfl) ?_
  exact ⟨_, rfl, rfl, rfl⟩
set_option maxRecDepth 100000 in
set_option maxHeartbeats 4000000 in
theorem c_grow1 {a : Nat} {pp : Int32} (h : w a = some (.inr (1, [.int pp, .ref (dA 99), .int 0]))) : x_Ci l D dA vwC1 tyL1 B yJx4a65c_grow_92f84 wJx4a65c_grow_92f84 (rmd 2 1 10) [.ref a, .int 1] w (fun v w1 => ∃ k, w k = none ∧ v = .ref k ∧ w1 = x_set (x_set w k (aO 10 (fun _ => none))) a (.inr (1, [.int pp, .ref k, .int 0]))) 1 10 := by
  refine x_Ct.of (cc := cJx4a65c_grow_92f84) (maxL := 4) (by decide) rfl (Nat.le_of_ble_eq_true rfl) ?_
  intro p e s m below meth c F
  refine x_aload_n F dJx4a65c_grow_92f84_0 rfl rfl ?_
  refine x_get (ci := 1) (C := RJx4a65c) (T := TJx4a65c) (N := 3) (k := 1) F dJx4a65c_grow_92f84_1 rfl inJx4a65c (by decide) q360 rfl h rfl ?_
  refine x_alenE F dJx4a65c_grow_92f84_4 ?_
  refine x_istore_n F dJx4a65c_grow_92f84_5 rfl (by decide) ?_
  refine x_iload_n F dJx4a65c_grow_92f84_6 rfl rfl ?_
  refine x_if_gt F dJx4a65c_grow_92f84_7 rfl (fun hc => absurd hc (by decide)) (fun _ => ?_)
  refine x_aload_n F dJx4a65c_grow_92f84_10 rfl rfl ?_
  refine x_get (ci := 1) (C := RJx4a65c) (T := TJx4a65c) (N := 3) (k := 1) F dJx4a65c_grow_92f84_11 rfl inJx4a65c (by decide) q360 rfl h rfl ?_
  refine x_getsE F dJx4a65c_grow_92f84_14 q359 ?_
  refine x_acmp_eqR F dJx4a65c_grow_92f84_17 rfl (fun h17 => ?_) (fun hc => absurd hc (fun q => q rfl))
  refine x_aload_n F dJx4a65c_grow_92f84_45 rfl rfl ?_
  refine x_bipush (v := 10) F dJx4a65c_grow_92f84_46 (by decide) ?_
  refine x_iload_n F dJx4a65c_grow_92f84_48 rfl rfl ?_
  refine x_max F dJx4a65c_grow_92f84_49 q424 q126 q16 q127 (Nat.le_of_ble_eq_true rfl) (Nat.le_of_ble_eq_true rfl) (Nat.le_of_ble_eq_true rfl) (Nat.le_of_ble_eq_true rfl) ?_
  refine x_newq (t := 6) (N := 10) (C := "java/lang/Object") F dJx4a65c_grow_92f84_52 rfl q425 (x13 (x_Fix.xt F)) (by decide) rfl (Nat.le_of_ble_eq_true rfl) (Nat.le_of_ble_eq_true rfl) (Nat.le_of_ble_eq_true rfl) (fun k hk => ?_)
  refine x_wd (fun w1 hw1 => ?_)
  have ne_a_k : ¬ a = k := w_neN h hk
  have h_k : w1 k = some (aO 10 (fun _ => none)) := by rw [hw1]; exact x_set_eq _ _ _
  have h_a : w1 a = some (.inr (1, [.int pp, .ref (dA 99), .int 0])) := by rw [hw1, x_set_ne _ _ ne_a_k]; exact h
  refine x_dup_x1 F dJx4a65c_grow_92f84_55 rfl rfl ?_
  refine x_put (ci := 1) (C := RJx4a65c) (T := TJx4a65c) (N := 3) (k := 1) F dJx4a65c_grow_92f84_56 rfl inJx4a65c tyJx4a65c tyJx4a65c_ok nmJx4a65c (by decide) q360 rfl rfl h_a (Nat.le_of_ble_eq_true rfl) rfl rfl ?_
  refine x_wd (fun w2 hw2 => ?_)
  refine x_aretA F rfl dJx4a65c_grow_92f84_59 (Nat.le_of_ble_eq_true rfl) (Nat.le_of_ble_eq_true rfl) ?_
  exact ⟨_, rfl, k, hk, rfl, by rw [hw2, hw1]; rfl⟩
set_option maxRecDepth 100000 in
set_option maxHeartbeats 4000000 in
theorem c_grow {a : Nat} {pp : Int32} (h : w a = some (.inr (1, [.int pp, .ref (dA 99), .int 0]))) : x_Ci l D dA vwC1 tyL1 B yJx4a65c_grow_d5877 wJx4a65c_grow_d5877 (rmd 3 1 10) [.ref a] w (fun v w1 => ∃ k, w k = none ∧ v = .ref k ∧ w1 = x_set (x_set w k (aO 10 (fun _ => none))) a (.inr (1, [.int pp, .ref k, .int 0]))) 1 10 := by
  refine x_Ct.of (cc := cJx4a65c_grow_d5877) (maxL := 1) (by decide) rfl (Nat.le_of_ble_eq_true rfl) ?_
  intro p e s m below meth c F
  refine x_aload_n F dJx4a65c_grow_d5877_0 rfl rfl ?_
  refine x_aload_n F dJx4a65c_grow_d5877_1 rfl rfl ?_
  refine x_get (ci := 1) (C := RJx4a65c) (T := TJx4a65c) (N := 3) (k := 2) F dJx4a65c_grow_d5877_2 rfl inJx4a65c (by decide) q362 rfl h rfl ?_
  refine x_iconst (v := 1) F dJx4a65c_grow_d5877_5 (by decide) ?_
  refine x_iadd F dJx4a65c_grow_d5877_6 ?_
  refine x_cVi1 (ci := 1) (C := RJx4a65c) (T := TJx4a65c) (N := 3) F dJx4a65c_grow_d5877_7 (x_gV q419 q420 q644 q9 q421) rfl (c_grow1 h) ⟨rfl, rfl, rfl, xd_Jx4a65c_grow_92f84, ⟨Nat.le_of_ble_eq_true rfl, Nat.le_of_ble_eq_true rfl⟩, Nat.le_of_ble_eq_true rfl, Nat.le_of_ble_eq_true rfl⟩ rfl h (Nat.le_of_ble_eq_true rfl) (fun v1 w1 hp => ?_)
  obtain ⟨k, hk, rfl, hw9⟩ := hp
  refine x_aretA F rfl dJx4a65c_grow_d5877_10 (Nat.le_of_ble_eq_true rfl) (Nat.le_of_ble_eq_true rfl) ?_
  exact ⟨_, rfl, k, hk, rfl, hw9⟩
set_option maxRecDepth 100000 in
set_option maxHeartbeats 4000000 in
theorem c_add3 {a : Nat} {pp : Int32} (h : w a = some (.inr (1, [.int pp, .ref (dA 99), .int 0]))) {u e2 : Nat} (hv : w u = some (oE e2)) (hne : ¬ u = a) : x_Cv l D dA vwC1 tyL1 B yJx4a65c_add_72be8 wJx4a65c_add_72be8 (rmd 4 1 10) [.ref a, .ref u, .ref (dA 99), .int 0] w (fun w1 => (∃ k, w1 a = some (.inr (1, [.int pp, .ref k, .int 1]))) ∧ ∀ b x, w b = some x → ¬ b = a → w1 b = some x) 1 10 := by
  refine x_Ct.of (cc := cJx4a65c_add_72be8) (maxL := 4) (by decide) rfl (Nat.le_of_ble_eq_true rfl) ?_
  intro p e s m below meth c F
  refine x_iload_n F dJx4a65c_add_72be8_0 rfl rfl ?_
  refine x_aload_n F dJx4a65c_add_72be8_1 rfl rfl ?_
  refine x_alenE F dJx4a65c_add_72be8_2 ?_
  refine x_icmp_ne F dJx4a65c_add_72be8_3 rfl (fun hc => absurd hc (by decide)) (fun _ => ?_)
  refine x_aload_n F dJx4a65c_add_72be8_6 rfl rfl ?_
  refine x_cVi0 (ci := 1) (C := RJx4a65c) (T := TJx4a65c) (N := 3) F dJx4a65c_add_72be8_7 (x_gV q416 q417 q643 q9 q418) rfl (c_grow h) ⟨rfl, rfl, rfl, xd_Jx4a65c_grow_d5877, ⟨Nat.le_of_ble_eq_true rfl, Nat.le_of_ble_eq_true rfl⟩, Nat.le_of_ble_eq_true rfl, Nat.le_of_ble_eq_true rfl⟩ rfl h (Nat.le_of_ble_eq_true rfl) (fun v1 w1 hp => ?_)
  obtain ⟨k, hk, rfl, hw9⟩ := hp
  have ne_a_k : ¬ a = k := w_neN h hk
  have h_k : w1 k = some (aO 10 (fun _ => none)) := by rw [hw9, x_set_ne _ _ (fun q => ne_a_k q.symm)]; exact x_set_eq _ _ _
  have h_a : w1 a = some (.inr (1, [.int pp, .ref k, .int 0])) := by rw [hw9]; exact x_set_eq _ _ _
  have h_v : w1 u = some (oE e2) := by rw [hw9, x_set_ne _ _ hne, x_set_ne _ _ (w_neN hv hk)]; exact hv
  refine x_astore_n F dJx4a65c_add_72be8_10 rfl (by decide) ?_
  refine x_aload_n F dJx4a65c_add_72be8_11 rfl rfl ?_
  refine x_iload_n F dJx4a65c_add_72be8_12 rfl rfl ?_
  refine x_aload_n F dJx4a65c_add_72be8_13 rfl rfl ?_
  refine x_aastO (r := (RJx4a65c, TJx4a65c, 3)) F dJx4a65c_add_72be8_14 rfl rfl (x14 (x_Fix.xt F)) h_k h_v (by unfold vp_in; decide) ?_
  refine x_wd (fun w2 hw2 => ?_)
  have h_a : w2 a = some (.inr (1, [.int pp, .ref k, .int 0])) := by rw [hw2, x_set_ne _ _ ne_a_k]; exact h_a
  refine x_aload_n F dJx4a65c_add_72be8_15 rfl rfl ?_
  refine x_iload_n F dJx4a65c_add_72be8_16 rfl rfl ?_
  refine x_iconst (v := 1) F dJx4a65c_add_72be8_17 (by decide) ?_
  refine x_iadd F dJx4a65c_add_72be8_18 ?_
  refine x_put (ci := 1) (C := RJx4a65c) (T := TJx4a65c) (N := 3) (k := 2) F dJx4a65c_add_72be8_19 rfl inJx4a65c tyJx4a65c tyJx4a65c_ok nmJx4a65c (by decide) q362 rfl rfl h_a (Nat.le_of_ble_eq_true rfl) rfl rfl ?_
  refine x_wd (fun w3 hw3 => ?_)
  refine x_vret F rfl dJx4a65c_add_72be8_22 (Nat.le_of_ble_eq_true rfl) (Nat.le_of_ble_eq_true rfl) ?_
  refine ⟨rfl, ⟨k, by rw [hw3]; exact x_set_eq _ _ _⟩, fun b x hx hb => ?_⟩
  rw [hw3, x_set_ne _ _ hb, hw2, x_set_ne _ _ (w_neN hx hk), hw9, x_set_ne _ _ hb, x_set_ne _ _ (w_neN hx hk)]
  exact hx
set_option maxRecDepth 100000 in
set_option maxHeartbeats 4000000 in
theorem c_add {a : Nat} (h : w a = some (oE (dA 99))) {u e2 : Nat} (hv : w u = some (oE e2)) (hne : ¬ u = a) : x_Ci l D dA vwC1 tyL1 B yJx4a65c_add_9ea2d wJx4a65c_add_9ea2d (rmd 5 1 10) [.ref a, .ref u] w (fun v w1 => v = .int 1 ∧ (∃ k, w1 a = some (.inr (1, [.int 1, .ref k, .int 1]))) ∧ ∀ b x, w b = some x → ¬ b = a → w1 b = some x) 1 10 := by
  refine x_Ct.of (cc := cJx4a65c_add_9ea2d) (maxL := 2) (by decide) rfl (Nat.le_of_ble_eq_true rfl) ?_
  intro p e s m below meth c F
  refine x_aload_n F dJx4a65c_add_9ea2d_0 rfl rfl ?_
  refine x_dup F dJx4a65c_add_9ea2d_1 rfl ?_
  refine x_getS (ci := 1) (C := RJx4a65c) (T := TJx4a65c) (N := 3) (k := 0) F dJx4a65c_add_9ea2d_2 rfl inJx4a65c (by decide) q366 q365 h rfl ?_
  refine x_iconst (v := 1) F dJx4a65c_add_9ea2d_5 (by decide) ?_
  refine x_iadd F dJx4a65c_add_9ea2d_6 ?_
  refine x_putS (ci := 1) (C := RJx4a65c) (T := TJx4a65c) (N := 3) (k := 0) F dJx4a65c_add_9ea2d_7 rfl inJx4a65c tyJx4a65c tyJx4a65c_ok nmJx4a65c (by decide) q366 q365 rfl h (Nat.le_of_ble_eq_true rfl) rfl rfl ?_
  refine x_wd (fun w2 hw2 => ?_)
  have h_a : w2 a = some (.inr (1, [.int 1, .ref (dA 99), .int 0])) := by rw [hw2]; exact x_set_eq _ _ _
  have h_v : w2 u = some (oE e2) := by rw [hw2, x_set_ne _ _ hne]; exact hv
  refine x_aload_n F dJx4a65c_add_9ea2d_10 rfl rfl ?_
  refine x_aload_n F dJx4a65c_add_9ea2d_11 rfl rfl ?_
  refine x_aload_n F dJx4a65c_add_9ea2d_12 rfl rfl ?_
  refine x_get (ci := 1) (C := RJx4a65c) (T := TJx4a65c) (N := 3) (k := 1) F dJx4a65c_add_9ea2d_13 rfl inJx4a65c (by decide) q360 rfl h_a rfl ?_
  refine x_aload_n F dJx4a65c_add_9ea2d_16 rfl rfl ?_
  refine x_get (ci := 1) (C := RJx4a65c) (T := TJx4a65c) (N := 3) (k := 2) F dJx4a65c_add_9ea2d_17 rfl inJx4a65c (by decide) q362 rfl h_a rfl ?_
  refine x_cVv3 (ci := 1) (C := RJx4a65c) (T := TJx4a65c) (N := 3) F dJx4a65c_add_9ea2d_20 (x_gV q413 q414 q642 q9 q415) rfl (c_add3 h_a h_v hne) ⟨rfl, rfl, rfl, xd_Jx4a65c_add_72be8, ⟨Nat.le_of_ble_eq_true rfl, Nat.le_of_ble_eq_true rfl⟩, Nat.le_of_ble_eq_true rfl, Nat.le_of_ble_eq_true rfl⟩ rfl h_a (Nat.le_of_ble_eq_true rfl) (fun w1 hp => ?_)
  obtain ⟨h1, h2⟩ := hp
  refine x_iconst (v := 1) F dJx4a65c_add_9ea2d_23 (by decide) ?_
  refine x_iret F rfl rfl dJx4a65c_add_9ea2d_24 (Nat.le_of_ble_eq_true rfl) (Nat.le_of_ble_eq_true rfl) ?_
  refine ⟨_, rfl, rfl, h1, fun b x hx hb => h2 b x ?_ hb⟩
  rw [hw2, x_set_ne _ _ hb]
  exact hx
end LST
