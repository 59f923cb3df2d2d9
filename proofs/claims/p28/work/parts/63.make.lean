def gLi (G : rb_G) (id : Nat) : rb_G := sP (sN G (4, id, 0) 0) (4, id, 0) 1 (some (19, 0, 0))
def wLi (W : rb_I) (id : Nat) : rb_I := up2 (zW W (4, id, 0)) (4, id, 0) 0 0
def gAc (G : rb_G) (k : Nat) : rb_G := sP (gLi G (10 + k)) (8, k, 0) 0 (some (4, 10 + k, 0))
theorem k_linit (l : Launch) (X : rb_X) (G : rb_G) (W : rb_I) (id : Nat) (hE : gD G (19, 0, 0)) : rb_N l X yJx4a65c_init_da8c8 (.code yJx4a65c_init_da8c8 cJx4a65c_init_da8c8 1 none) 3 52 0 0 [rbR (4, id, 0)] (wI (sN G (4, id, 0) 0) (zW W (4, id, 0))) (fun v9 G9 => v9 = none ∧ G9 = wI (gLi G id) (wLi W id)) :=
  c_linit l X (4, id, 0) (wI (sN G (4, id, 0) 0) (zW W (4, id, 0))) rfl (Or.inr hE)
set_option maxRecDepth 100000 in
set_option maxHeartbeats 4000000 in
theorem k_X0_init (l : Launch) (X : rb_X) (G : rb_G) (W : rb_I) (k : Nat) (hf : ¬ gD G (4, 10 + k, 0)) (hE : gD G (19, 0, 0)) : rb_N l X yX0_init (.code yX0_init cX0_init 1 none) 4 72 1 3 [rbR (8, k, 0)] (wI G W) (fun v9 G9 => v9 = none ∧ G9 = wI (gAc G k) (wLi W (10 + k))) := by
  refine rb_startN RX0 rfl (by decide +kernel) rfl (Nat.le_of_ble_eq_true rfl) ?_
  intro Φ C E nm
  show rb_W Φ 0 0 0 [some (rbR (8, k, 0))] [] (wI G W)
  refine rb_aload_n C dX0_init_0 rfl ?_
  refine rb_objInit C M_X0_3 ts_oi ts_oc dX0_init_1 rfl (Nat.le_of_ble_eq_true rfl) (Nat.le_of_ble_eq_true rfl) ?_
  refine rb_aload_n C dX0_init_4 rfl ?_
  refine rw_new C (4, 10 + k, 0) K_X0_9 dX0_init_5 rfl hf (Nat.le_of_ble_eq_true rfl) (Nat.le_of_ble_eq_true rfl) ?_
  refine rb_dup C dX0_init_8 rfl ?_
  refine rb_callI C M_X0_11 (fun l X => k_linit l X G W (10 + k) hE) dX0_init_9 rfl rfl rfl (Nat.le_of_ble_eq_true rfl) ⟨(Nat.le_of_ble_eq_true rfl), (Nat.le_of_ble_eq_true rfl)⟩ (Nat.le_of_ble_eq_true rfl) (Nat.le_of_ble_eq_true rfl) (fun v G' hp => ?_)
  obtain ⟨rfl, e9⟩ := hp
  rw [e9]
  clear e9 G'
  refine rb_putFP C nm F_X0_12 dX0_init_12 rfl rfl ?_
  exact rb_vret C E dX0_init_15 (Nat.le_of_ble_eq_true rfl) (Nat.le_of_ble_eq_true rfl) ⟨rfl, rfl⟩

