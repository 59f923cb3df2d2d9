set_option maxRecDepth 100000 in
set_option maxHeartbeats 4000000 in
theorem k_X7_networkAt (l : Launch) (X : rb_X) (G : rb_G) (W : rb_I) (cn : Nat → Nat) (ag : Nat → Nat → Int32) (hG : xCS G cn ag) (n : Int32) : rb_M l X yX7_networkAt (.code yX7_networkAt cX7_networkAt 2 (some (.object "RoamBooks$Network"))) 7 111 1 6 [rbR (0, 0, 0), rbI n] (wI G W) (fun v9 G9 => ¬ m_isNetwork n = 0 ∧ v9 = some (rbR (5, n.toNatClampNeg, 0)) ∧ G9 = wI G W) (fun e9 G9 => e9 = "java/lang/IndexOutOfBoundsException" ∧ m_isNetwork n = 0 ∧ G9 = wI G W) := by
  refine rb_startM RX7 rfl (by decide +kernel) rfl (Nat.le_of_ble_eq_true rfl) ?_
  intro Φ C E EX
  show rb_W Φ 0 0 0 [some (rbR (0, 0, 0)), some (rbI n)] [] (wI G W)
  refine rb_aload_n C dX7_networkAt_0 rfl ?_
  refine rb_iload_n C dX7_networkAt_1 rfl ?_
  refine rb_callV C M_X7_87 (fun l X => k_X7_requireNetwork l X G W cn ag hG n) rfl (Nat.le_of_ble_eq_true rfl) rfl dX7_networkAt_2 rfl rfl rfl (Nat.le_of_ble_eq_true rfl) ⟨(Nat.le_of_ble_eq_true rfl), (Nat.le_of_ble_eq_true rfl)⟩ (Nat.le_of_ble_eq_true rfl) (Nat.le_of_ble_eq_true rfl) (fun v G' hp => ?_) (fun e9 G' hp => by obtain ⟨rfl, h2, e8⟩ := hp; rw [e8]; exact rb_out C EX (Nat.le_of_ble_eq_true rfl) (Nat.le_of_ble_eq_true rfl) ⟨rfl, h2, rfl⟩)
  obtain ⟨h2, rfl, e9⟩ := hp
  rw [e9]
  clear e9 G'
  refine rb_aload_n C dX7_networkAt_5 rfl ?_
  refine rw_getP C FR_X7_15 dX7_networkAt_6 rfl (o := some (2, 0, 0)) (hG.1 1 (by decide)) ?_
  refine rb_iload_n C dX7_networkAt_9 rfl ?_
  refine rw_aald C 6 n.toNatClampNeg dX7_networkAt_10 rfl (by decide) (by decide) hG.2.2.2.1.2.1 (isNetwork_in h2) rfl (o := some (5, n.toNatClampNeg, 0)) (hG.2.1 n.toNatClampNeg (vp_in_lt (isNetwork_in h2))) ?_
  exact rb_aret C E (Or.inl ⟨_, rfl⟩) dX7_networkAt_11 (Nat.le_of_ble_eq_true rfl) (Nat.le_of_ble_eq_true rfl) (⟨h2, rfl, rfl⟩)

set_option maxRecDepth 100000 in
set_option maxHeartbeats 4000000 in
theorem k_X7_networkAt_v (l : Launch) (X : rb_X) (G : rb_G) (W : rb_I) (cn : Nat → Nat) (ag : Nat → Nat → Int32) (hG : xCS G cn ag) (n : Int32) (hn : vp_in n 6) : rb_N l X yX7_networkAt (.code yX7_networkAt cX7_networkAt 2 (some (.object "RoamBooks$Network"))) 2 33 0 0 [rbR (0, 0, 0), rbI n] (wI G W) (fun v9 G9 => v9 = some (rbR (5, n.toNatClampNeg, 0)) ∧ G9 = wI G W) := by
  refine rb_startN RX7 rfl (by decide +kernel) rfl (Nat.le_of_ble_eq_true rfl) ?_
  intro Φ C E nm
  show rb_W Φ 0 0 0 [some (rbR (0, 0, 0)), some (rbI n)] [] (wI G W)
  refine rb_aload_n C dX7_networkAt_0 rfl ?_
  refine rb_iload_n C dX7_networkAt_1 rfl ?_
  refine rb_callV C M_X7_87 (fun l X => (k_X7_requireNetwork_v l X G W cn ag hG n hn).m) rfl (Nat.le_of_ble_eq_true rfl) rfl dX7_networkAt_2 rfl rfl rfl (Nat.le_of_ble_eq_true rfl) ⟨(Nat.le_of_ble_eq_true rfl), (Nat.le_of_ble_eq_true rfl)⟩ (Nat.le_of_ble_eq_true rfl) (Nat.le_of_ble_eq_true rfl) (fun v G' hp => ?_) (fun _ _ hp => hp.elim)
  obtain ⟨rfl, e9⟩ := hp
  rw [e9]
  clear e9 G'
  refine rb_aload_n C dX7_networkAt_5 rfl ?_
  refine rw_getP C FR_X7_15 dX7_networkAt_6 rfl (o := some (2, 0, 0)) (hG.1 1 (by decide)) ?_
  refine rb_iload_n C dX7_networkAt_9 rfl ?_
  refine rw_aald C 6 n.toNatClampNeg dX7_networkAt_10 rfl (by decide) (by decide) hG.2.2.2.1.2.1 hn rfl (o := some (5, n.toNatClampNeg, 0)) (hG.2.1 n.toNatClampNeg (vp_in_lt hn)) ?_
  exact rb_aret C E (Or.inl ⟨_, rfl⟩) dX7_networkAt_11 (Nat.le_of_ble_eq_true rfl) (Nat.le_of_ble_eq_true rfl) (⟨rfl, rfl⟩)

set_option maxRecDepth 100000 in
set_option maxHeartbeats 4000000 in
theorem k_X7_receivedAt (l : Launch) (X : rb_X) (G : rb_G) (W : rb_I) (cn : Nat → Nat) (ag : Nat → Nat → Int32) (hG : xCS G cn ag) (n : Int32) : rb_M l X yX7_receivedAt (.code yX7_receivedAt cX7_receivedAt 2 (some .int)) 7 111 1 6 [rbR (0, 0, 0), rbI n] (wI G W) (fun v9 G9 => ¬ m_isPlace n = 0 ∧ v9 = some (rbI (W (1, 0, 0) n.toNatClampNeg)) ∧ G9 = wI G W) (fun e9 G9 => e9 = "java/lang/IndexOutOfBoundsException" ∧ m_isPlace n = 0 ∧ G9 = wI G W) := by
  refine rb_startM RX7 rfl (by decide +kernel) rfl (Nat.le_of_ble_eq_true rfl) ?_
  intro Φ C E EX
  show rb_W Φ 0 0 0 [some (rbR (0, 0, 0)), some (rbI n)] [] (wI G W)
  refine rb_aload_n C dX7_receivedAt_0 rfl ?_
  refine rb_iload_n C dX7_receivedAt_1 rfl ?_
  refine rb_callV C M_X7_126 (fun l X => k_X7_requirePlace l X G W cn ag hG n) rfl (Nat.le_of_ble_eq_true rfl) rfl dX7_receivedAt_2 rfl rfl rfl (Nat.le_of_ble_eq_true rfl) ⟨(Nat.le_of_ble_eq_true rfl), (Nat.le_of_ble_eq_true rfl)⟩ (Nat.le_of_ble_eq_true rfl) (Nat.le_of_ble_eq_true rfl) (fun v G' hp => ?_) (fun e9 G' hp => by obtain ⟨rfl, h2, e8⟩ := hp; rw [e8]; exact rb_out C EX (Nat.le_of_ble_eq_true rfl) (Nat.le_of_ble_eq_true rfl) ⟨rfl, h2, rfl⟩)
  obtain ⟨h2, rfl, e9⟩ := hp
  rw [e9]
  clear e9 G'
  refine rb_aload_n C dX7_receivedAt_5 rfl ?_
  refine rw_getP C FR_X7_9 dX7_receivedAt_6 rfl (o := some (1, 0, 0)) (hG.1 0 (by decide)) ?_
  refine rb_iload_n C dX7_receivedAt_9 rfl ?_
  refine rw_iald C (x := W (1, 0, 0) n.toNatClampNeg) 8 n.toNatClampNeg dX7_receivedAt_10 rfl hG.2.2.2.1.1 (isPlace_in h2) rfl rfl ?_
  exact rb_iret C E dX7_receivedAt_11 (Nat.le_of_ble_eq_true rfl) (Nat.le_of_ble_eq_true rfl) (⟨h2, rfl, rfl⟩)

set_option maxRecDepth 100000 in
set_option maxHeartbeats 4000000 in
theorem k_X7_receivedAt_v (l : Launch) (X : rb_X) (G : rb_G) (W : rb_I) (cn : Nat → Nat) (ag : Nat → Nat → Int32) (hG : xCS G cn ag) (n : Int32) (hn : vp_in n 8) : rb_N l X yX7_receivedAt (.code yX7_receivedAt cX7_receivedAt 2 (some .int)) 2 33 0 0 [rbR (0, 0, 0), rbI n] (wI G W) (fun v9 G9 => v9 = some (rbI (W (1, 0, 0) n.toNatClampNeg)) ∧ G9 = wI G W) := by
  refine rb_startN RX7 rfl (by decide +kernel) rfl (Nat.le_of_ble_eq_true rfl) ?_
  intro Φ C E nm
  show rb_W Φ 0 0 0 [some (rbR (0, 0, 0)), some (rbI n)] [] (wI G W)
  refine rb_aload_n C dX7_receivedAt_0 rfl ?_
  refine rb_iload_n C dX7_receivedAt_1 rfl ?_
  refine rb_callV C M_X7_126 (fun l X => (k_X7_requirePlace_v l X G W cn ag hG n hn).m) rfl (Nat.le_of_ble_eq_true rfl) rfl dX7_receivedAt_2 rfl rfl rfl (Nat.le_of_ble_eq_true rfl) ⟨(Nat.le_of_ble_eq_true rfl), (Nat.le_of_ble_eq_true rfl)⟩ (Nat.le_of_ble_eq_true rfl) (Nat.le_of_ble_eq_true rfl) (fun v G' hp => ?_) (fun _ _ hp => hp.elim)
  obtain ⟨rfl, e9⟩ := hp
  rw [e9]
  clear e9 G'
  refine rb_aload_n C dX7_receivedAt_5 rfl ?_
  refine rw_getP C FR_X7_9 dX7_receivedAt_6 rfl (o := some (1, 0, 0)) (hG.1 0 (by decide)) ?_
  refine rb_iload_n C dX7_receivedAt_9 rfl ?_
  refine rw_iald C (x := W (1, 0, 0) n.toNatClampNeg) 8 n.toNatClampNeg dX7_receivedAt_10 rfl hG.2.2.2.1.1 hn rfl rfl ?_
  exact rb_iret C E dX7_receivedAt_11 (Nat.le_of_ble_eq_true rfl) (Nat.le_of_ble_eq_true rfl) (⟨rfl, rfl⟩)

theorem ix_lin2 {v h : Int32} (hv : vp_in v 6) (hh : vp_in h 6) : vp_in (v * 6 + h) 36 ∧ (v * 6 + h).toNatClampNeg = 6 * v.toNatClampNeg + h.toNatClampNeg := by
  rw [Int32.mul_comm v 6]
  exact ix_lin (n := 6) (m := 6) (N := 36) 6 6 rfl hv hh (by decide) (by decide) (by decide)
set_option maxRecDepth 100000 in
set_option maxHeartbeats 4000000 in
theorem k_X7_accountOf (l : Launch) (X : rb_X) (G : rb_G) (W : rb_I) (cn : Nat → Nat) (ag : Nat → Nat → Int32) (hG : xCS G cn ag) (v h : Int32) : rb_M l X yX7_accountOf (.code yX7_accountOf cX7_accountOf 3 (some (.object "RoamBooks$Account"))) 7 111 2 12 [rbR (0, 0, 0), rbI v, rbI h] (wI G W) (fun v9 G9 => (¬ m_isNetwork v = 0 ∧ ¬ m_isNetwork h = 0) ∧ v9 = some (rbR (8, 6 * v.toNatClampNeg + h.toNatClampNeg, 0)) ∧ G9 = wI G W) (fun e9 G9 => e9 = "java/lang/IndexOutOfBoundsException" ∧ (m_isNetwork v = 0 ∨ ¬ m_isNetwork v = 0 ∧ m_isNetwork h = 0) ∧ G9 = wI G W) := by
  refine rb_startM RX7 rfl (by decide +kernel) rfl (Nat.le_of_ble_eq_true rfl) ?_
  intro Φ C E EX
  show rb_W Φ 0 0 0 [some (rbR (0, 0, 0)), some (rbI v), some (rbI h)] [] (wI G W)
  refine rb_aload_n C dX7_accountOf_0 rfl ?_
  refine rb_iload_n C dX7_accountOf_1 rfl ?_
  refine rb_callV C M_X7_87 (fun l X => k_X7_requireNetwork l X G W cn ag hG v) rfl (Nat.le_of_ble_eq_true rfl) rfl dX7_accountOf_2 rfl rfl rfl (Nat.le_of_ble_eq_true rfl) ⟨(Nat.le_of_ble_eq_true rfl), (Nat.le_of_ble_eq_true rfl)⟩ (Nat.le_of_ble_eq_true rfl) (Nat.le_of_ble_eq_true rfl) (fun v G' hp => ?_) (fun e9 G' hp => by obtain ⟨rfl, h2, e8⟩ := hp; rw [e8]; exact rb_out C EX (Nat.le_of_ble_eq_true rfl) (Nat.le_of_ble_eq_true rfl) ⟨rfl, Or.inl h2, rfl⟩)
  obtain ⟨h2, rfl, e9⟩ := hp
  rw [e9]
  clear e9 G'
  refine rb_aload_n C dX7_accountOf_5 rfl ?_
  refine rb_iload_n C dX7_accountOf_6 rfl ?_
  refine rb_callV C M_X7_87 (fun l X => k_X7_requireNetwork l X G W cn ag hG h) rfl (Nat.le_of_ble_eq_true rfl) rfl dX7_accountOf_7 rfl rfl rfl (Nat.le_of_ble_eq_true rfl) ⟨(Nat.le_of_ble_eq_true rfl), (Nat.le_of_ble_eq_true rfl)⟩ (Nat.le_of_ble_eq_true rfl) (Nat.le_of_ble_eq_true rfl) (fun v G' hp => ?_) (fun e9 G' hp => by obtain ⟨rfl, h7, e8⟩ := hp; rw [e8]; exact rb_out C EX (Nat.le_of_ble_eq_true rfl) (Nat.le_of_ble_eq_true rfl) ⟨rfl, Or.inr ⟨h2, h7⟩, rfl⟩)
  obtain ⟨h7, rfl, e9⟩ := hp
  rw [e9]
  clear e9 G'
  refine rb_aload_n C dX7_accountOf_10 rfl ?_
  refine rw_getP C FR_X7_21 dX7_accountOf_11 rfl (o := some (3, 0, 0)) (hG.1 2 (by decide)) ?_
  refine rb_iload_n C dX7_accountOf_14 rfl ?_
  refine rb_bipush C dX7_accountOf_15 (v := 6) (by decide) ?_
  refine rb_imul C dX7_accountOf_17 ?_
  refine rb_iload_n C dX7_accountOf_18 rfl ?_
  refine rb_iadd C dX7_accountOf_19 ?_
  refine rw_aald C 36 (6 * v.toNatClampNeg + h.toNatClampNeg) dX7_accountOf_20 rfl (by decide) (by decide) hG.2.2.2.1.2.2 (ix_lin2 (isNetwork_in h2) (isNetwork_in h7)).1 (ix_lin2 (isNetwork_in h2) (isNetwork_in h7)).2 (o := some (8, 6 * v.toNatClampNeg + h.toNatClampNeg, 0)) (hG.2.2.1 (6 * v.toNatClampNeg + h.toNatClampNeg) (by have q1 := vp_in_lt (isNetwork_in h2); have q2 := vp_in_lt (isNetwork_in h7); omega)) ?_
  exact rb_aret C E (Or.inl ⟨_, rfl⟩) dX7_accountOf_21 (Nat.le_of_ble_eq_true rfl) (Nat.le_of_ble_eq_true rfl) (⟨⟨h2, h7⟩, rfl, rfl⟩)

set_option maxRecDepth 100000 in
set_option maxHeartbeats 4000000 in
theorem k_X7_accountOf_v (l : Launch) (X : rb_X) (G : rb_G) (W : rb_I) (cn : Nat → Nat) (ag : Nat → Nat → Int32) (hG : xCS G cn ag) (v h : Int32) (hv : vp_in v 6) (hh : vp_in h 6) : rb_N l X yX7_accountOf (.code yX7_accountOf cX7_accountOf 3 (some (.object "RoamBooks$Account"))) 2 33 0 0 [rbR (0, 0, 0), rbI v, rbI h] (wI G W) (fun v9 G9 => v9 = some (rbR (8, 6 * v.toNatClampNeg + h.toNatClampNeg, 0)) ∧ G9 = wI G W) := by
  refine rb_startN RX7 rfl (by decide +kernel) rfl (Nat.le_of_ble_eq_true rfl) ?_
  intro Φ C E nm
  show rb_W Φ 0 0 0 [some (rbR (0, 0, 0)), some (rbI v), some (rbI h)] [] (wI G W)
  refine rb_aload_n C dX7_accountOf_0 rfl ?_
  refine rb_iload_n C dX7_accountOf_1 rfl ?_
  refine rb_callV C M_X7_87 (fun l X => (k_X7_requireNetwork_v l X G W cn ag hG v hv).m) rfl (Nat.le_of_ble_eq_true rfl) rfl dX7_accountOf_2 rfl rfl rfl (Nat.le_of_ble_eq_true rfl) ⟨(Nat.le_of_ble_eq_true rfl), (Nat.le_of_ble_eq_true rfl)⟩ (Nat.le_of_ble_eq_true rfl) (Nat.le_of_ble_eq_true rfl) (fun v G' hp => ?_) (fun _ _ hp => hp.elim)
  obtain ⟨rfl, e9⟩ := hp
  rw [e9]
  clear e9 G'
  refine rb_aload_n C dX7_accountOf_5 rfl ?_
  refine rb_iload_n C dX7_accountOf_6 rfl ?_
  refine rb_callV C M_X7_87 (fun l X => (k_X7_requireNetwork_v l X G W cn ag hG h hh).m) rfl (Nat.le_of_ble_eq_true rfl) rfl dX7_accountOf_7 rfl rfl rfl (Nat.le_of_ble_eq_true rfl) ⟨(Nat.le_of_ble_eq_true rfl), (Nat.le_of_ble_eq_true rfl)⟩ (Nat.le_of_ble_eq_true rfl) (Nat.le_of_ble_eq_true rfl) (fun v G' hp => ?_) (fun _ _ hp => hp.elim)
  obtain ⟨rfl, e9⟩ := hp
  rw [e9]
  clear e9 G'
  refine rb_aload_n C dX7_accountOf_10 rfl ?_
  refine rw_getP C FR_X7_21 dX7_accountOf_11 rfl (o := some (3, 0, 0)) (hG.1 2 (by decide)) ?_
  refine rb_iload_n C dX7_accountOf_14 rfl ?_
  refine rb_bipush C dX7_accountOf_15 (v := 6) (by decide) ?_
  refine rb_imul C dX7_accountOf_17 ?_
  refine rb_iload_n C dX7_accountOf_18 rfl ?_
  refine rb_iadd C dX7_accountOf_19 ?_
  refine rw_aald C 36 (6 * v.toNatClampNeg + h.toNatClampNeg) dX7_accountOf_20 rfl (by decide) (by decide) hG.2.2.2.1.2.2 (ix_lin2 hv hh).1 (ix_lin2 hv hh).2 (o := some (8, 6 * v.toNatClampNeg + h.toNatClampNeg, 0)) (hG.2.2.1 (6 * v.toNatClampNeg + h.toNatClampNeg) (by have q1 := vp_in_lt hv; have q2 := vp_in_lt hh; omega)) ?_
  exact rb_aret C E (Or.inl ⟨_, rfl⟩) dX7_accountOf_21 (Nat.le_of_ble_eq_true rfl) (Nat.le_of_ble_eq_true rfl) (⟨rfl, rfl⟩)

theorem sub_lt {s : Int32} {n : Nat} (hn : n < 2 ^ 31) (h0 : ¬ s < 0) (h : s < nI n) : ¬ m_in s 0 (nI n - 1) = 0 ∧ vp_in s n := by
  obtain ⟨j, hj, e⟩ := nI_of h0
  subst e
  have h1 : j < n := (nI_ltI hj hn).mp h
  refine ⟨in_yes h0 ?_, vp_in_nI h1 hn⟩
  rw [show (1 : Int32) = nI 1 from rfl, pk_sub (by omega)]
  exact nI_nlt (by omega) (by omega)
theorem sub_nlt {s : Int32} {n : Nat} (hn : n < 2 ^ 30) (h : s < 0 ∨ ¬ s < nI n) : m_in s 0 (nI n - 1) = 0 := by
  rcases h with h | h
  · exact in_no (Or.inl h)
  · refine in_no (Or.inr ?_)
    rw [Int32.lt_iff_toInt_lt, nI_toInt (by omega)] at h
    rw [Int32.lt_iff_toInt_lt, show (1 : Int32) = nI 1 from rfl, pk_sub_toInt hn (by decide)]
    omega
theorem sub_in {s : Int32} {n : Nat} (hn : n < 2 ^ 30) (h : ¬ m_in s 0 (nI n - 1) = 0) : vp_in s n := by
  rcases Classical.em (s < 0) with h0 | h0
  · exact absurd (sub_nlt hn (Or.inl h0)) h
  · rcases Classical.em (s < nI n) with h1 | h1
    · exact (sub_lt (by omega) h0 h1).2
    · exact absurd (sub_nlt hn (Or.inr h1)) h
set_option maxRecDepth 100000 in
set_option maxHeartbeats 4000000 in
theorem k_X7_subscriberAt (l : Launch) (X : rb_X) (G : rb_G) (W : rb_I) (cn : Nat → Nat) (ag : Nat → Nat → Int32) (hG : xCS G cn ag) (s : Int32) (hw : W (4, 1, 0) 2 = nI (cn 1)) (hc9 : cn 1 ≤ 10) : rb_M l X yX7_subscriberAt (.code yX7_subscriberAt cX7_subscriberAt 2 (some (.object "RoamBooks$Subscriber"))) 6 90 1 6 [rbR (0, 0, 0), rbI s] (wI G W) (fun v9 G9 => ¬ m_in s 0 (nI (cn 1) - 1) = 0 ∧ v9 = some (rbR (9, s.toNatClampNeg, 0)) ∧ G9 = wI G W) (fun e9 G9 => e9 = "java/lang/IndexOutOfBoundsException" ∧ m_in s 0 (nI (cn 1) - 1) = 0 ∧ G9 = wI G W) := by
  refine rb_startM RX7 rfl (by decide +kernel) rfl (Nat.le_of_ble_eq_true rfl) ?_
  intro Φ C E EX
  show rb_W Φ 0 0 0 [some (rbR (0, 0, 0)), some (rbI s)] [] (wI G W)
  refine rb_iload_n C dX7_subscriberAt_0 rfl ?_
  refine rb_if_lt C 15 dX7_subscriberAt_1 (by decide) (fun h1 => ?_) (fun h1 => ?_)
  · exact rb_throwW C EX Thr_io (text := "no such subscriber") (by decide +kernel) dX7_subscriberAt_15 dX7_subscriberAt_18 dX7_subscriberAt_19 dX7_subscriberAt_22 dX7_subscriberAt_25 rfl (Nat.le_of_ble_eq_true rfl) (Nat.le_of_ble_eq_true rfl) (Nat.le_of_ble_eq_true rfl) (Nat.le_of_ble_eq_true rfl) ⟨rfl, sub_nlt (by omega) (Or.inl h1), rfl⟩
  · refine rb_iload_n C dX7_subscriberAt_4 rfl ?_
    refine rb_aload_n C dX7_subscriberAt_5 rfl ?_
    refine rw_getP C FR_X7_32 dX7_subscriberAt_6 rfl (o := some (4, 1, 0)) (hG.1 4 (by decide)) ?_
    refine rb_callV C M_X7_48 (fun l X => (k_size l X G W (4, 1, 0) (nI (cn 1)) rfl hw).m) rfl (Nat.le_of_ble_eq_true rfl) rfl dX7_subscriberAt_9 rfl rfl rfl (Nat.le_of_ble_eq_true rfl) ⟨(Nat.le_of_ble_eq_true rfl), (Nat.le_of_ble_eq_true rfl)⟩ (Nat.le_of_ble_eq_true rfl) (Nat.le_of_ble_eq_true rfl) (fun v G' hp => ?_) (fun _ _ hp => hp.elim)
    obtain ⟨rfl, e9⟩ := hp
    rw [e9]
    clear e9 G'
    refine rb_icmp_lt C 26 dX7_subscriberAt_12 (by decide) (fun h12 => ?_) (fun h12 => ?_)
    · refine rb_aload_n C dX7_subscriberAt_26 rfl ?_
      refine rw_getP C FR_X7_32 dX7_subscriberAt_27 rfl (o := some (4, 1, 0)) (hG.1 4 (by decide)) ?_
      refine rb_iload_n C dX7_subscriberAt_30 rfl ?_
      refine rb_callV C M_X7_52 (fun l X => (k_get l X G W 1 (cn 1) s.toNatClampNeg s (fun j => (9, j, 0)) hG.2.2.2.2.2.2.2.1 hw (vp_in_e (sub_lt (by omega) h1 h12).2) (vp_in_lt (sub_lt (by omega) h1 h12).2) (by omega)).m) rfl (Nat.le_of_ble_eq_true rfl) rfl dX7_subscriberAt_31 rfl rfl rfl (Nat.le_of_ble_eq_true rfl) ⟨(Nat.le_of_ble_eq_true rfl), (Nat.le_of_ble_eq_true rfl)⟩ (Nat.le_of_ble_eq_true rfl) (Nat.le_of_ble_eq_true rfl) (fun v G' hp => ?_) (fun _ _ hp => hp.elim)
      obtain ⟨rfl, e9⟩ := hp
      rw [e9]
      clear e9 G'
      refine rb_cast C (ci := 7) L_X7_56 rfl (by decide) dX7_subscriberAt_34 rfl ?_
      exact rb_aret C E (Or.inl ⟨_, rfl⟩) dX7_subscriberAt_37 (Nat.le_of_ble_eq_true rfl) (Nat.le_of_ble_eq_true rfl) (⟨(sub_lt (by omega) h1 h12).1, rfl, rfl⟩)
    · exact rb_throwW C EX Thr_io (text := "no such subscriber") (by decide +kernel) dX7_subscriberAt_15 dX7_subscriberAt_18 dX7_subscriberAt_19 dX7_subscriberAt_22 dX7_subscriberAt_25 rfl (Nat.le_of_ble_eq_true rfl) (Nat.le_of_ble_eq_true rfl) (Nat.le_of_ble_eq_true rfl) (Nat.le_of_ble_eq_true rfl) ⟨rfl, sub_nlt (by omega) (Or.inr h12), rfl⟩

