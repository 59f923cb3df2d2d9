def x4_init (W : rb_I) (k j : Nat) (mi ma : Int32) : rb_I := up2 (up2 (up2 (up2 W (12, k, j) 3 0) (12, k, j) 4 (-1)) (12, k, j) 0 mi) (12, k, j) 1 ma
set_option maxRecDepth 100000 in
set_option maxHeartbeats 4000000 in
theorem k_X4_init (l : Launch) (X : rb_X) (G : rb_G) (W : rb_I) (k j : Nat) (mi ma : Int32) (o : Option rb_R) : rb_N l X yX4_init (.code yX4_init cX4_init 4 none) 1 12 0 0 [rbR (12, k, j), rbI mi, rbI ma, rbO o] (wI G W) (fun v9 G9 => v9 = none ∧ G9 = wI (sP G (12, k, j) 2 o) (x4_init W k j mi ma)) := by
  refine rb_startN RX4 rfl (by decide +kernel) rfl (Nat.le_of_ble_eq_true rfl) ?_
  intro Φ C E nm
  show rb_W Φ 0 0 0 [some (rbR (12, k, j)), some (rbI mi), some (rbI ma), some (rbO o)] [] (wI G W)
  refine rb_aload_n C dX4_init_0 rfl ?_
  refine rb_objInit C M_X4_3 ts_oi ts_oc dX4_init_1 rfl (Nat.le_of_ble_eq_true rfl) (Nat.le_of_ble_eq_true rfl) ?_
  refine rb_aload_n C dX4_init_4 rfl ?_
  refine rb_iconst C dX4_init_5 (v := 0) (by decide) ?_
  refine rb_putI C F_X4_9 dX4_init_6 rfl ⟨rfl, rfl⟩ ?_
  refine rb_aload_n C dX4_init_9 rfl ?_
  refine rb_iconst C dX4_init_10 (v := (-1)) (by decide) ?_
  refine rb_putI C F_X4_15 dX4_init_11 rfl ⟨rfl, rfl⟩ ?_
  refine rb_aload_n C dX4_init_14 rfl ?_
  refine rb_iload_n C dX4_init_15 rfl ?_
  refine rb_putFI C nm F_X4_18 dX4_init_16 rfl ⟨rfl, rfl⟩ ?_
  refine rb_aload_n C dX4_init_19 rfl ?_
  refine rb_iload_n C dX4_init_20 rfl ?_
  refine rb_putFI C nm F_X4_21 dX4_init_21 rfl ⟨rfl, rfl⟩ ?_
  refine rb_aload_n C dX4_init_24 rfl ?_
  refine rb_aload_n C dX4_init_25 rfl ?_
  refine rb_putFP C nm F_X4_24 dX4_init_26 rfl rfl ?_
  exact rb_vret C E dX4_init_29 (Nat.le_of_ble_eq_true rfl) (Nat.le_of_ble_eq_true rfl) (⟨rfl, rfl⟩)

