def gB (G : rb_G) (n : Nat) : rb_G := sP (sN G (7, n, 0) 10) (6, n, 0) 0 (some (7, n, 0))
def wB (W : rb_I) (n : Nat) : rb_I := x_fill (zW W (7, n, 0)) n (-1)
def gNt (G : rb_G) (n : Nat) : rb_G := sP (gB (sN G (6, n, 0) 0) n) (5, n, 0) 0 (some (6, n, 0))
def wNt (W : rb_I) (n : Nat) : rb_I := up2 (up2 (up2 (up2 (wB (zW W (6, n, 0)) n) (5, n, 0) 2 (-1)) (5, n, 0) 3 10) (5, n, 0) 4 50) (5, n, 0) 5 20
set_option maxRecDepth 100000 in
set_option maxHeartbeats 4000000 in
theorem k_X2_init (l : Launch) (X : rb_X) (G : rb_G) (W : rb_I) (n : Nat) (hf : ¬ gD G (7, n, 0)) : rb_N l X yX2_init (.code yX2_init cX2_init 1 none) 2 35 1 10 [rbR (6, n, 0)] (wI G W) (fun v9 G9 => v9 = none ∧ G9 = wI (gB G n) (wB W n)) := by
  refine rb_startN RX2 rfl (by decide +kernel) rfl (Nat.le_of_ble_eq_true rfl) ?_
  intro Φ C E nm
  show rb_W Φ 0 0 0 [some (rbR (6, n, 0))] [] (wI G W)
  refine rb_aload_n C dX2_init_0 rfl ?_
  refine rb_objInit C M_X2_3 ts_oi ts_oc dX2_init_1 rfl (Nat.le_of_ble_eq_true rfl) (Nat.le_of_ble_eq_true rfl) ?_
  refine rb_aload_n C dX2_init_4 rfl ?_
  refine rb_bipush C dX2_init_5 (v := 10) (by decide) ?_
  refine rb_newaI C (7, n, 0) 10 ts_arr_int dX2_init_7 rfl hf (by decide) (by decide) (by decide) (Nat.le_of_ble_eq_true rfl) (Nat.le_of_ble_eq_true rfl) ?_
  refine rb_putFP C nm F_X2_9 dX2_init_9 rfl rfl ?_
  refine rb_aload_n C dX2_init_12 rfl ?_
  refine rb_getP C FR_X2_9 dX2_init_13 rfl (o := some (7, n, 0)) (up2_s _ _ _ _) ?_
  refine rb_iconst C dX2_init_16 (v := (-1)) (by decide) ?_
  refine rb_callS C M_X2_15 (fun l X => (k_J7_fill_53178 l X (gB G n) (zW W (7, n, 0)) n (-1) (if_pos rfl)).m) dX2_init_17 rfl rfl rfl (Nat.le_of_ble_eq_true rfl) ⟨(Nat.le_of_ble_eq_true rfl), (Nat.le_of_ble_eq_true rfl)⟩ (Nat.le_of_ble_eq_true rfl) (Nat.le_of_ble_eq_true rfl) (fun v G' hp => ?_) (fun _ _ hp => hp.elim)
  obtain ⟨rfl, e9⟩ := hp
  rw [e9]
  clear e9 G'
  exact rb_vret C E dX2_init_20 (Nat.le_of_ble_eq_true rfl) (Nat.le_of_ble_eq_true rfl) ⟨rfl, rfl⟩

set_option maxRecDepth 100000 in
set_option maxHeartbeats 4000000 in
theorem k_X5_init (l : Launch) (X : rb_X) (G : rb_G) (W : rb_I) (n : Nat) (hf : ¬ gD G (6, n, 0)) (hf7 : ¬ gD G (7, n, 0)) : rb_N l X yX5_init (.code yX5_init cX5_init 1 none) 3 55 2 11 [rbR (5, n, 0)] (wI G W) (fun v9 G9 => v9 = none ∧ G9 = wI (gNt G n) (wNt W n)) := by
  have hf2 : ¬ gD (sN G (6, n, 0) 0) (7, n, 0) := fun q => q.elim (fun e => absurd (congrArg Prod.fst e) (show ¬ ((7 : Nat) = 6) by decide)) hf7
  refine rb_startN RX5 rfl (by decide +kernel) rfl (Nat.le_of_ble_eq_true rfl) ?_
  intro Φ C E nm
  show rb_W Φ 0 0 0 [some (rbR (5, n, 0))] [] (wI G W)
  refine rb_aload_n C dX5_init_0 rfl ?_
  refine rb_objInit C M_X5_3 ts_oi ts_oc dX5_init_1 rfl (Nat.le_of_ble_eq_true rfl) (Nat.le_of_ble_eq_true rfl) ?_
  refine rb_aload_n C dX5_init_4 rfl ?_
  refine rw_new C (6, n, 0) K_X5_9 dX5_init_5 rfl hf (Nat.le_of_ble_eq_true rfl) (Nat.le_of_ble_eq_true rfl) ?_
  refine rb_dup C dX5_init_8 rfl ?_
  refine rb_callI C M_X5_11 (fun l X => k_X2_init l X (sN G (6, n, 0) 0) (zW W (6, n, 0)) n hf2) dX5_init_9 rfl rfl rfl (Nat.le_of_ble_eq_true rfl) ⟨(Nat.le_of_ble_eq_true rfl), (Nat.le_of_ble_eq_true rfl)⟩ (Nat.le_of_ble_eq_true rfl) (Nat.le_of_ble_eq_true rfl) (fun v G' hp => ?_)
  obtain ⟨rfl, e9⟩ := hp
  rw [e9]
  clear e9 G'
  refine rb_putFP C nm F_X5_12 dX5_init_12 rfl rfl ?_
  refine rb_aload_n C dX5_init_15 rfl ?_
  refine rb_iconst C dX5_init_16 (v := (-1)) (by decide) ?_
  refine rb_putI C F_X5_18 dX5_init_17 rfl ⟨rfl, rfl⟩ ?_
  refine rb_aload_n C dX5_init_20 rfl ?_
  refine rb_bipush C dX5_init_21 (v := 10) (by decide) ?_
  refine rb_putI C F_X5_22 dX5_init_23 rfl ⟨rfl, rfl⟩ ?_
  refine rb_aload_n C dX5_init_26 rfl ?_
  refine rb_bipush C dX5_init_27 (v := 50) (by decide) ?_
  refine rb_putI C F_X5_25 dX5_init_29 rfl ⟨rfl, rfl⟩ ?_
  refine rb_aload_n C dX5_init_32 rfl ?_
  refine rb_bipush C dX5_init_33 (v := 20) (by decide) ?_
  refine rb_putI C F_X5_28 dX5_init_35 rfl ⟨rfl, rfl⟩ ?_
  exact rb_vret C E dX5_init_38 (Nat.le_of_ble_eq_true rfl) (Nat.le_of_ble_eq_true rfl) ⟨rfl, rfl⟩

