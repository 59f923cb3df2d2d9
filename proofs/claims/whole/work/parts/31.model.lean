def m_in (v : Int32) (low : Int32) (high : Int32) : Int32 := (if v < low then (0 : Int32) else (if high < v then (0 : Int32) else (1 : Int32)))
theorem z_m_in (v : Int32) (low : Int32) (high : Int32) : m_in v low high = 0 ∨ m_in v low high = 1 := by
  unfold m_in
  repeat' split
  all_goals first | exact Or.inl rfl | exact Or.inr rfl
set_option maxRecDepth 100000 in
set_option maxHeartbeats 4000000 in
theorem k_X8_in (l : Launch) (X : rb_X) (G : rb_G) (W : rb_I) (v : Int32) (low : Int32) (high : Int32)  : rb_N l X yX8_in (.code yX8_in cX8_in 3 (some .boolean)) 1 12 0 0 [rbI v, rbI low, rbI high] (wI G W) (fun v9 G9 => v9 = some (rbI (m_in v low high)) ∧ G9 = wI G W) := by
  refine rb_startN RX8 rfl (by decide +kernel) rfl (Nat.le_of_ble_eq_true rfl) ?_
  intro Φ C E nm
  show rb_W Φ 0 0 0 [some (rbI v), some (rbI low), some (rbI high)] [] (wI G W)
  refine rb_iload_n C dX8_in_0 rfl ?_
  refine rb_iload_n C dX8_in_1 rfl ?_
  refine rb_icmp_lt C 14 dX8_in_2 (by decide) (fun h2 => ?_) (fun h2 => ?_)
  · refine rb_iconst C dX8_in_14 (v := 0) (by decide) ?_
    exact rb_zret C E dX8_in_15 (rfl) (Nat.le_of_ble_eq_true rfl) (Nat.le_of_ble_eq_true rfl) (pv_ ((if_pos h2).trans (rfl)))
  · refine rb_iload_n C dX8_in_5 rfl ?_
    refine rb_iload_n C dX8_in_6 rfl ?_
    refine rb_icmp_gt C 14 dX8_in_7 (by decide) (fun h7 => ?_) (fun h7 => ?_)
    · refine rb_iconst C dX8_in_14 (v := 0) (by decide) ?_
      exact rb_zret C E dX8_in_15 (rfl) (Nat.le_of_ble_eq_true rfl) (Nat.le_of_ble_eq_true rfl) (pv_ ((if_neg h2).trans ((if_pos h7).trans (rfl))))
    · refine rb_iconst C dX8_in_10 (v := 1) (by decide) ?_
      refine rb_goto C 15 dX8_in_11 (by decide) ?_
      exact rb_zret C E dX8_in_15 (rfl) (Nat.le_of_ble_eq_true rfl) (Nat.le_of_ble_eq_true rfl) (pv_ ((if_neg h2).trans ((if_neg h7).trans (rfl))))

def m_isNetwork (n : Int32) : Int32 := (m_in n (0 : Int32) (5 : Int32))
theorem z_m_isNetwork (n : Int32) : m_isNetwork n = 0 ∨ m_isNetwork n = 1 := by
  unfold m_isNetwork
  repeat' split
  all_goals first | exact Or.inl rfl | exact Or.inr rfl | exact z_m_in n (0 : Int32) (5 : Int32)
set_option maxRecDepth 100000 in
set_option maxHeartbeats 4000000 in
theorem k_X8_isNetwork (l : Launch) (X : rb_X) (G : rb_G) (W : rb_I) (n : Int32)  : rb_N l X yX8_isNetwork (.code yX8_isNetwork cX8_isNetwork 1 (some .boolean)) 2 34 0 0 [rbI n] (wI G W) (fun v9 G9 => v9 = some (rbI (m_isNetwork n)) ∧ G9 = wI G W) := by
  refine rb_startN RX8 rfl (by decide +kernel) rfl (Nat.le_of_ble_eq_true rfl) ?_
  intro Φ C E nm
  show rb_W Φ 0 0 0 [some (rbI n)] [] (wI G W)
  refine rb_iload_n C dX8_isNetwork_0 rfl ?_
  refine rb_iconst C dX8_isNetwork_1 (v := 0) (by decide) ?_
  refine rb_iconst C dX8_isNetwork_2 (v := 5) (by decide) ?_
  refine rb_callS C M_X8_114 (fun l X => (k_X8_in l X G W n (0 : Int32) (5 : Int32)).m) dX8_isNetwork_3 rfl rfl rfl (Nat.le_of_ble_eq_true rfl) ⟨(Nat.le_of_ble_eq_true rfl), (Nat.le_of_ble_eq_true rfl)⟩ (Nat.le_of_ble_eq_true rfl) (Nat.le_of_ble_eq_true rfl) (fun v G' hp => ?_) (fun _ _ hp => hp.elim)
  obtain ⟨rfl, e9⟩ := hp
  rw [e9]
  clear e9 G'
  exact rb_zret C E dX8_isNetwork_6 (nz_ (z_m_in n (0 : Int32) (5 : Int32))) (Nat.le_of_ble_eq_true rfl) (Nat.le_of_ble_eq_true rfl) (pv_ (rfl))

def m_isPlace (p : Int32) : Int32 := (m_in p (0 : Int32) (7 : Int32))
theorem z_m_isPlace (p : Int32) : m_isPlace p = 0 ∨ m_isPlace p = 1 := by
  unfold m_isPlace
  repeat' split
  all_goals first | exact Or.inl rfl | exact Or.inr rfl | exact z_m_in p (0 : Int32) (7 : Int32)
set_option maxRecDepth 100000 in
set_option maxHeartbeats 4000000 in
theorem k_X8_isPlace (l : Launch) (X : rb_X) (G : rb_G) (W : rb_I) (p : Int32)  : rb_N l X yX8_isPlace (.code yX8_isPlace cX8_isPlace 1 (some .boolean)) 2 34 0 0 [rbI p] (wI G W) (fun v9 G9 => v9 = some (rbI (m_isPlace p)) ∧ G9 = wI G W) := by
  refine rb_startN RX8 rfl (by decide +kernel) rfl (Nat.le_of_ble_eq_true rfl) ?_
  intro Φ C E nm
  show rb_W Φ 0 0 0 [some (rbI p)] [] (wI G W)
  refine rb_iload_n C dX8_isPlace_0 rfl ?_
  refine rb_iconst C dX8_isPlace_1 (v := 0) (by decide) ?_
  refine rb_bipush C dX8_isPlace_2 (v := 7) (by decide) ?_
  refine rb_callS C M_X8_114 (fun l X => (k_X8_in l X G W p (0 : Int32) (7 : Int32)).m) dX8_isPlace_4 rfl rfl rfl (Nat.le_of_ble_eq_true rfl) ⟨(Nat.le_of_ble_eq_true rfl), (Nat.le_of_ble_eq_true rfl)⟩ (Nat.le_of_ble_eq_true rfl) (Nat.le_of_ble_eq_true rfl) (fun v G' hp => ?_) (fun _ _ hp => hp.elim)
  obtain ⟨rfl, e9⟩ := hp
  rw [e9]
  clear e9 G'
  exact rb_zret C E dX8_isPlace_7 (nz_ (z_m_in p (0 : Int32) (7 : Int32))) (Nat.le_of_ble_eq_true rfl) (Nat.le_of_ble_eq_true rfl) (pv_ (rfl))

def m_isIn (a : Int32) (k : Int32) : Int32 := (if ((a >>> (k &&& 31)) &&& 1) = 1 then (1 : Int32) else (0 : Int32))
theorem z_m_isIn (a : Int32) (k : Int32) : m_isIn a k = 0 ∨ m_isIn a k = 1 := by
  unfold m_isIn
  repeat' split
  all_goals first | exact Or.inl rfl | exact Or.inr rfl
set_option maxRecDepth 100000 in
set_option maxHeartbeats 4000000 in
theorem k_X8_isIn (l : Launch) (X : rb_X) (G : rb_G) (W : rb_I) (a : Int32) (k : Int32)  : rb_N l X yX8_isIn (.code yX8_isIn cX8_isIn 2 (some .boolean)) 1 12 0 0 [rbI a, rbI k] (wI G W) (fun v9 G9 => v9 = some (rbI (m_isIn a k)) ∧ G9 = wI G W) := by
  refine rb_startN RX8 rfl (by decide +kernel) rfl (Nat.le_of_ble_eq_true rfl) ?_
  intro Φ C E nm
  show rb_W Φ 0 0 0 [some (rbI a), some (rbI k)] [] (wI G W)
  refine rb_iload_n C dX8_isIn_0 rfl ?_
  refine rb_iload_n C dX8_isIn_1 rfl ?_
  refine rb_ishr C dX8_isIn_2 ?_
  refine rb_iconst C dX8_isIn_3 (v := 1) (by decide) ?_
  refine rb_iand C dX8_isIn_4 ?_
  refine rb_iconst C dX8_isIn_5 (v := 1) (by decide) ?_
  refine rb_icmp_ne C 13 dX8_isIn_6 (by decide) (fun h6 => ?_) (fun h6 => ?_)
  · refine rb_iconst C dX8_isIn_13 (v := 0) (by decide) ?_
    exact rb_zret C E dX8_isIn_14 (rfl) (Nat.le_of_ble_eq_true rfl) (Nat.le_of_ble_eq_true rfl) (pv_ ((if_neg h6).trans (rfl)))
  · refine rb_iconst C dX8_isIn_9 (v := 1) (by decide) ?_
    refine rb_goto C 14 dX8_isIn_10 (by decide) ?_
    exact rb_zret C E dX8_isIn_14 (rfl) (Nat.le_of_ble_eq_true rfl) (Nat.le_of_ble_eq_true rfl) (pv_ ((if_pos h6).trans (rfl)))

def m_isSubscriber (W : rb_I) (s : Int32) : Int32 := (m_in s (0 : Int32) ((W (16, 0, 0) 15) - 1))
theorem z_m_isSubscriber (W : rb_I) (s : Int32) : m_isSubscriber W s = 0 ∨ m_isSubscriber W s = 1 := by
  unfold m_isSubscriber
  repeat' split
  all_goals first | exact Or.inl rfl | exact Or.inr rfl | exact z_m_in s (0 : Int32) ((W (16, 0, 0) 15) - 1)
set_option maxRecDepth 100000 in
set_option maxHeartbeats 4000000 in
theorem k_X8_isSubscriber (l : Launch) (X : rb_X) (G : rb_G) (W : rb_I) (s : Int32)  : rb_N l X yX8_isSubscriber (.code yX8_isSubscriber cX8_isSubscriber 2 (some .boolean)) 2 34 0 0 [rbR (16, 0, 0), rbI s] (wI G W) (fun v9 G9 => v9 = some (rbI (m_isSubscriber W s)) ∧ G9 = wI G W) := by
  refine rb_startN RX8 rfl (by decide +kernel) rfl (Nat.le_of_ble_eq_true rfl) ?_
  intro Φ C E nm
  show rb_W Φ 0 0 0 [some (rbR (16, 0, 0)), some (rbI s)] [] (wI G W)
  refine rb_iload_n C dX8_isSubscriber_0 rfl ?_
  refine rb_iconst C dX8_isSubscriber_1 (v := 0) (by decide) ?_
  refine rb_aload_n C dX8_isSubscriber_2 rfl ?_
  refine rw_getI C FR_X8_118 dX8_isSubscriber_3 rfl (x := (W (16, 0, 0) 15)) (rfl) ?_
  refine rb_iconst C dX8_isSubscriber_6 (v := 1) (by decide) ?_
  refine rb_isub C dX8_isSubscriber_7 ?_
  refine rb_callS C M_X8_114 (fun l X => (k_X8_in l X G W s (0 : Int32) ((W (16, 0, 0) 15) - 1)).m) dX8_isSubscriber_8 rfl rfl rfl (Nat.le_of_ble_eq_true rfl) ⟨(Nat.le_of_ble_eq_true rfl), (Nat.le_of_ble_eq_true rfl)⟩ (Nat.le_of_ble_eq_true rfl) (Nat.le_of_ble_eq_true rfl) (fun v G' hp => ?_) (fun _ _ hp => hp.elim)
  obtain ⟨rfl, e9⟩ := hp
  rw [e9]
  clear e9 G'
  exact rb_zret C E dX8_isSubscriber_11 (nz_ (z_m_in s (0 : Int32) ((W (16, 0, 0) 15) - 1))) (Nat.le_of_ble_eq_true rfl) (Nat.le_of_ble_eq_true rfl) (pv_ (rfl))

def m_thrown (W : rb_I)  : Int32 := (W (16, 0, 0) 0)
set_option maxRecDepth 100000 in
set_option maxHeartbeats 4000000 in
theorem k_X8_thrown (l : Launch) (X : rb_X) (G : rb_G) (W : rb_I)   : rb_N l X yX8_thrown (.code yX8_thrown cX8_thrown 1 (some .int)) 1 12 0 0 [rbR (16, 0, 0)] (wI G W) (fun v9 G9 => v9 = some (rbI (m_thrown W)) ∧ G9 = wI G W) := by
  refine rb_startN RX8 rfl (by decide +kernel) rfl (Nat.le_of_ble_eq_true rfl) ?_
  intro Φ C E nm
  show rb_W Φ 0 0 0 [some (rbR (16, 0, 0))] [] (wI G W)
  refine rb_aload_n C dX8_thrown_0 rfl ?_
  refine rw_getI C FR_X8_110 dX8_thrown_1 rfl (x := (W (16, 0, 0) 0)) (rfl) ?_
  exact rb_iret C E dX8_thrown_4 (Nat.le_of_ble_eq_true rfl) (Nat.le_of_ble_eq_true rfl) (pv_ (rfl))

