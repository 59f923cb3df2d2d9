theorem W_DE : Cond.fieldLink RJx4a65c 39 "java/util/ArrayList" "DEFAULTCAPACITY_EMPTY_ELEMENTDATA" "[Ljava/lang/Object;" ∈ TS := ts_mem 74 (by decide +kernel) rfl
set_option maxRecDepth 100000 in
set_option maxHeartbeats 4000000 in
theorem c_pchk (l : Launch) (X : rb_X) (i n : Int32) (o : Option rb_R) (G : rb_G) (h0 : ¬ i < 0) (h1 : i < n) : rb_N l X yJ3_checkIndex_8e157 (.code yJ3_checkIndex_8e157 cJ3_checkIndex_8e157 3 (some .int)) 1 12 0 0 [rbI i, rbI n, rbO o] G (fun v G' => v = some (rbI (i)) ∧ G' = G) := by
  refine rb_startN RJ3 rfl (by decide +kernel) rfl (Nat.le_of_ble_eq_true rfl) ?_
  intro Φ C E nm
  show rb_W Φ 0 0 0 [some (rbI i), some (rbI n), some (rbO o)] [] G
  refine rb_iload_n C dJ3_checkIndex_8e157_0 rfl ?_
  refine rb_if_lt C 9 dJ3_checkIndex_8e157_1 (by decide) (fun h9 => absurd h9 (h0)) (fun _ => ?_)
  refine rb_iload_n C dJ3_checkIndex_8e157_4 rfl ?_
  refine rb_iload_n C dJ3_checkIndex_8e157_5 rfl ?_
  refine rb_icmp_lt C 16 dJ3_checkIndex_8e157_6 (by decide) (fun _ => ?_) (fun h9 => absurd (h1) h9)
  refine rb_iload_n C dJ3_checkIndex_8e157_16 rfl ?_
  exact rb_iret C E dJ3_checkIndex_8e157_17 (Nat.le_of_ble_eq_true rfl) (Nat.le_of_ble_eq_true rfl) (⟨rfl, rfl⟩)
set_option maxRecDepth 100000 in
set_option maxHeartbeats 4000000 in
theorem c_ochk (l : Launch) (X : rb_X) (i n : Int32) (G : rb_G) (h0 : ¬ i < 0) (h1 : i < n) : rb_N l X yJ15_checkIndex_7cf53 (.code yJ15_checkIndex_7cf53 cJ15_checkIndex_7cf53 2 (some .int)) 2 34 0 0 [rbI i, rbI n] G (fun v G' => v = some (rbI (i)) ∧ G' = G) := by
  refine rb_startN RJ15 rfl (by decide +kernel) rfl (Nat.le_of_ble_eq_true rfl) ?_
  intro Φ C E nm
  show rb_W Φ 0 0 0 [some (rbI i), some (rbI n)] [] G
  refine rb_iload_n C dJ15_checkIndex_7cf53_0 rfl ?_
  refine rb_iload_n C dJ15_checkIndex_7cf53_1 rfl ?_
  refine rb_null C dJ15_checkIndex_7cf53_2 ?_
  refine rb_callS C M_J15_105 (fun l X => (c_pchk l X _ _ _ _ h0 h1).m) dJ15_checkIndex_7cf53_3 rfl rfl rfl (Nat.le_of_ble_eq_true rfl) ⟨(Nat.le_of_ble_eq_true rfl), (Nat.le_of_ble_eq_true rfl)⟩ (Nat.le_of_ble_eq_true rfl) (Nat.le_of_ble_eq_true rfl) (fun v G' hp => ?_) (fun _ _ hp => hp.elim)
  obtain ⟨rfl, e9⟩ := hp
  rw [e9]
  clear e9 G'
  exact rb_iret C E dJ15_checkIndex_7cf53_6 (Nat.le_of_ble_eq_true rfl) (Nat.le_of_ble_eq_true rfl) (⟨rfl, rfl⟩)
set_option maxRecDepth 100000 in
set_option maxHeartbeats 4000000 in
theorem c_size (l : Launch) (X : rb_X) (r : rb_R) (G : rb_G) (hk : rb_k r.1 = 0) : rb_N l X yJx4a65c_size_8abf5 (.code yJx4a65c_size_8abf5 cJx4a65c_size_8abf5 1 (some .int)) 1 12 0 0 [rbR r] G (fun v G' => v = some (rbI (gI G r 2)) ∧ G' = G) := by
  refine rb_startN RJx4a65c rfl (by decide +kernel) rfl (Nat.le_of_ble_eq_true rfl) ?_
  intro Φ C E nm
  show rb_W Φ 0 0 0 [some (rbR r)] [] G
  refine rb_aload_n C dJx4a65c_size_8abf5_0 rfl ?_
  refine rb_getI C FR_Jx4a65c_48 dJx4a65c_size_8abf5_1 hk ?_
  exact rb_iret C E dJx4a65c_size_8abf5_4 (Nat.le_of_ble_eq_true rfl) (Nat.le_of_ble_eq_true rfl) (⟨rfl, rfl⟩)
set_option maxRecDepth 100000 in
set_option maxHeartbeats 4000000 in
theorem c_elem (l : Launch) (X : rb_X) (r e : rb_R) (i : Int32) (o : Option rb_R) (G : rb_G) (hk : rb_k r.1 = 0) (he : gP G r 1 = some e) (hke : rb_k e.1 = 13) (hi : vp_in i (gN G e)) (ho : gP G e i.toNatClampNeg = o) : rb_N l X yJx4a65c_elementData_915e3 (.code yJx4a65c_elementData_915e3 cJx4a65c_elementData_915e3 2 (some (.object "java/lang/Object"))) 1 12 0 0 [rbR r, rbI i] G (fun v G' => v = some (rbO o) ∧ G' = G) := by
  refine rb_startN RJx4a65c rfl (by decide +kernel) rfl (Nat.le_of_ble_eq_true rfl) ?_
  intro Φ C E nm
  show rb_W Φ 0 0 0 [some (rbR r), some (rbI i)] [] G
  refine rb_aload_n C dJx4a65c_elementData_915e3_0 rfl ?_
  refine rb_getP C FR_Jx4a65c_9 dJx4a65c_elementData_915e3_1 hk (o := some e) he ?_
  refine rb_iload_n C dJx4a65c_elementData_915e3_4 rfl ?_
  refine rb_aald C dJx4a65c_elementData_915e3_5 hke (by decide) (by decide) hi ho ?_
  exact rb_aret C E (Or.inl ⟨_, rfl⟩) dJx4a65c_elementData_915e3_6 (Nat.le_of_ble_eq_true rfl) (Nat.le_of_ble_eq_true rfl) (⟨rfl, rfl⟩)
set_option maxRecDepth 100000 in
set_option maxHeartbeats 4000000 in
theorem c_get (l : Launch) (X : rb_X) (r e : rb_R) (i : Int32) (o : Option rb_R) (G : rb_G) (hk : rb_k r.1 = 0) (h0 : ¬ i < 0) (h1 : i < gI G r 2) (he : gP G r 1 = some e) (hke : rb_k e.1 = 13) (hi : vp_in i (gN G e)) (ho : gP G e i.toNatClampNeg = o) : rb_N l X yJx4a65c_get_915e3 (.code yJx4a65c_get_915e3 cJx4a65c_get_915e3 2 (some (.object "java/lang/Object"))) 3 55 0 0 [rbR r, rbI i] G (fun v G' => v = some (rbO o) ∧ G' = G) := by
  refine rb_startN RJx4a65c rfl (by decide +kernel) rfl (Nat.le_of_ble_eq_true rfl) ?_
  intro Φ C E nm
  show rb_W Φ 0 0 0 [some (rbR r), some (rbI i)] [] G
  refine rb_iload_n C dJx4a65c_get_915e3_0 rfl ?_
  refine rb_aload_n C dJx4a65c_get_915e3_1 rfl ?_
  refine rb_getI C FR_Jx4a65c_48 dJx4a65c_get_915e3_2 hk ?_
  refine rb_callS C M_Jx4a65c_118 (fun l X => (c_ochk l X _ _ _ h0 h1).m) dJx4a65c_get_915e3_5 rfl rfl rfl (Nat.le_of_ble_eq_true rfl) ⟨(Nat.le_of_ble_eq_true rfl), (Nat.le_of_ble_eq_true rfl)⟩ (Nat.le_of_ble_eq_true rfl) (Nat.le_of_ble_eq_true rfl) (fun v G' hp => ?_) (fun _ _ hp => hp.elim)
  obtain ⟨rfl, e9⟩ := hp
  rw [e9]
  clear e9 G'
  refine rb_pop C dJx4a65c_get_915e3_8 rfl ?_
  refine rb_aload_n C dJx4a65c_get_915e3_9 rfl ?_
  refine rb_iload_n C dJx4a65c_get_915e3_10 rfl ?_
  refine rb_callV C M_Jx4a65c_123 (fun l X => (c_elem l X _ _ _ _ _ hk he hke hi ho).m) rfl (Nat.le_of_ble_eq_true rfl) hk dJx4a65c_get_915e3_11 rfl rfl rfl (Nat.le_of_ble_eq_true rfl) ⟨(Nat.le_of_ble_eq_true rfl), (Nat.le_of_ble_eq_true rfl)⟩ (Nat.le_of_ble_eq_true rfl) (Nat.le_of_ble_eq_true rfl) (fun v G' hp => ?_) (fun _ _ hp => hp.elim)
  obtain ⟨rfl, e9⟩ := hp
  rw [e9]
  clear e9 G'
  exact rb_aret C E (Or.inl ⟨_, rfl⟩) dJx4a65c_get_915e3_14 (Nat.le_of_ble_eq_true rfl) (Nat.le_of_ble_eq_true rfl) (⟨rfl, rfl⟩)
set_option maxRecDepth 100000 in
set_option maxHeartbeats 4000000 in
theorem c_acinit (l : Launch) (X : rb_X) (r : rb_R) (G : rb_G) : rb_N l X yJxa1e45_init_da8c8 (.code yJxa1e45_init_da8c8 cJxa1e45_init_da8c8 1 none) 1 12 0 0 [rbR r] G (fun v G' => v = none ∧ G' = G) := by
  refine rb_startN RJxa1e45 rfl (by decide +kernel) rfl (Nat.le_of_ble_eq_true rfl) ?_
  intro Φ C E nm
  show rb_W Φ 0 0 0 [some (rbR r)] [] G
  refine rb_aload_n C dJxa1e45_init_da8c8_0 rfl ?_
  refine rb_objInit C M_Jxa1e45_1 ts_oi ts_oc dJxa1e45_init_da8c8_1 rfl (Nat.le_of_ble_eq_true rfl) (Nat.le_of_ble_eq_true rfl) ?_
  exact rb_vret C E dJxa1e45_init_da8c8_4 (Nat.le_of_ble_eq_true rfl) (Nat.le_of_ble_eq_true rfl) (⟨rfl, rfl⟩)
set_option maxRecDepth 100000 in
set_option maxHeartbeats 4000000 in
theorem c_alinit (l : Launch) (X : rb_X) (r : rb_R) (G : rb_G) (hk : rb_k r.1 = 0) : rb_N l X yJxc12de_init_da8c8 (.code yJxc12de_init_da8c8 cJxc12de_init_da8c8 1 none) 2 32 0 0 [rbR r] G (fun v G' => v = none ∧ G' = sI G r 0 0) := by
  refine rb_startN RJxc12de rfl (by decide +kernel) rfl (Nat.le_of_ble_eq_true rfl) ?_
  intro Φ C E nm
  show rb_W Φ 0 0 0 [some (rbR r)] [] G
  refine rb_aload_n C dJxc12de_init_da8c8_0 rfl ?_
  refine rb_callI C M_Jxc12de_1 (fun l X => c_acinit l X _ _) dJxc12de_init_da8c8_1 rfl rfl rfl (Nat.le_of_ble_eq_true rfl) ⟨(Nat.le_of_ble_eq_true rfl), (Nat.le_of_ble_eq_true rfl)⟩ (Nat.le_of_ble_eq_true rfl) (Nat.le_of_ble_eq_true rfl) (fun v G' hp => ?_)
  obtain ⟨rfl, e9⟩ := hp
  rw [e9]
  clear e9 G'
  refine rb_aload_n C dJxc12de_init_da8c8_4 rfl ?_
  refine rb_iconst C dJxc12de_init_da8c8_5 (v := 0) (by decide) ?_
  refine rb_putI C F_Jxc12de_7 dJxc12de_init_da8c8_6 hk ⟨rfl, rfl⟩ ?_
  exact rb_vret C E dJxc12de_init_da8c8_9 (Nat.le_of_ble_eq_true rfl) (Nat.le_of_ble_eq_true rfl) (⟨rfl, rfl⟩)
set_option maxRecDepth 100000 in
set_option maxHeartbeats 4000000 in
theorem c_linit (l : Launch) (X : rb_X) (r : rb_R) (G : rb_G) (hk : rb_k r.1 = 0) (hE : gD G (19, 0, 0)) : rb_N l X yJx4a65c_init_da8c8 (.code yJx4a65c_init_da8c8 cJx4a65c_init_da8c8 1 none) 3 52 0 0 [rbR r] G (fun v G' => v = none ∧ G' = sP (sI G r 0 0) r 1 (some (19, 0, 0))) := by
  refine rb_startN RJx4a65c rfl (by decide +kernel) rfl (Nat.le_of_ble_eq_true rfl) ?_
  intro Φ C E nm
  show rb_W Φ 0 0 0 [some (rbR r)] [] G
  refine rb_aload_n C dJx4a65c_init_da8c8_0 rfl ?_
  refine rb_callI C M_Jx4a65c_1 (fun l X => c_alinit l X _ _ hk) dJx4a65c_init_da8c8_1 rfl rfl rfl (Nat.le_of_ble_eq_true rfl) ⟨(Nat.le_of_ble_eq_true rfl), (Nat.le_of_ble_eq_true rfl)⟩ (Nat.le_of_ble_eq_true rfl) (Nat.le_of_ble_eq_true rfl) (fun v G' hp => ?_)
  obtain ⟨rfl, e9⟩ := hp
  rw [e9]
  clear e9 G'
  refine rb_aload_n C dJx4a65c_init_da8c8_4 rfl ?_
  refine rb_getE C W_DE dJx4a65c_init_da8c8_5 hE ?_
  refine rb_putP C F_Jx4a65c_9 dJx4a65c_init_da8c8_8 hk rfl ?_
  exact rb_vret C E dJx4a65c_init_da8c8_11 (Nat.le_of_ble_eq_true rfl) (Nat.le_of_ble_eq_true rfl) (⟨rfl, rfl⟩)
