set_option maxRecDepth 100000 in
set_option maxHeartbeats 4000000 in
theorem k_X7_requireRange (l : Launch) (X : rb_X) (G : rb_G) (W : rb_I) (v least most : Int32) : rb_M l X yX7_requireRange (.code yX7_requireRange cX7_requireRange 3 none) 6 90 1 6 [rbI v, rbI least, rbI most] (wI G W) (fun v9 G9 => ¬ m_in v least most = 0 ∧ v9 = none ∧ G9 = wI G W) (fun e9 G9 => e9 = "java/lang/IllegalArgumentException" ∧ m_in v least most = 0 ∧ G9 = wI G W) := by
  refine rb_startM RX7 rfl (by decide +kernel) rfl (Nat.le_of_ble_eq_true rfl) ?_
  intro Φ C E EX
  show rb_W Φ 0 0 0 [some (rbI v), some (rbI least), some (rbI most)] [] (wI G W)
  refine rb_iload_n C dX7_requireRange_0 rfl ?_
  refine rb_iload_n C dX7_requireRange_1 rfl ?_
  refine rb_icmp_lt C 10 dX7_requireRange_2 (by decide) (fun h2 => ?_) (fun h2 => ?_)
  · exact rb_throwW C EX Thr_ia (text := "an argument is out of range") (by decide +kernel) dX7_requireRange_10 dX7_requireRange_13 dX7_requireRange_14 dX7_requireRange_17 dX7_requireRange_20 rfl (Nat.le_of_ble_eq_true rfl) (Nat.le_of_ble_eq_true rfl) (Nat.le_of_ble_eq_true rfl) (Nat.le_of_ble_eq_true rfl) ⟨rfl, in_no (Or.inl h2), rfl⟩
  · refine rb_iload_n C dX7_requireRange_5 rfl ?_
    refine rb_iload_n C dX7_requireRange_6 rfl ?_
    refine rb_icmp_le C 21 dX7_requireRange_7 (by decide) (fun h7 => ?_) (fun h7 => ?_)
    · exact rb_vret C E dX7_requireRange_21 (Nat.le_of_ble_eq_true rfl) (Nat.le_of_ble_eq_true rfl) (⟨in_yes h2 (Int32.not_lt.mpr h7), rfl, rfl⟩)
    · exact rb_throwW C EX Thr_ia (text := "an argument is out of range") (by decide +kernel) dX7_requireRange_10 dX7_requireRange_13 dX7_requireRange_14 dX7_requireRange_17 dX7_requireRange_20 rfl (Nat.le_of_ble_eq_true rfl) (Nat.le_of_ble_eq_true rfl) (Nat.le_of_ble_eq_true rfl) (Nat.le_of_ble_eq_true rfl) ⟨rfl, in_no (Or.inr (Int32.not_le.mp h7)), rfl⟩

set_option maxRecDepth 100000 in
set_option maxHeartbeats 4000000 in
theorem k_X7_requireDifferent (l : Launch) (X : rb_X) (G : rb_G) (W : rb_I) (a b : Int32) : rb_M l X yX7_requireDifferent (.code yX7_requireDifferent cX7_requireDifferent 2 none) 6 90 1 6 [rbI a, rbI b] (wI G W) (fun v9 G9 => ¬ a = b ∧ v9 = none ∧ G9 = wI G W) (fun e9 G9 => e9 = "java/lang/IllegalArgumentException" ∧ a = b ∧ G9 = wI G W) := by
  refine rb_startM RX7 rfl (by decide +kernel) rfl (Nat.le_of_ble_eq_true rfl) ?_
  intro Φ C E EX
  show rb_W Φ 0 0 0 [some (rbI a), some (rbI b)] [] (wI G W)
  refine rb_iload_n C dX7_requireDifferent_0 rfl ?_
  refine rb_iload_n C dX7_requireDifferent_1 rfl ?_
  refine rb_icmp_ne C 16 dX7_requireDifferent_2 (by decide) (fun h2 => ?_) (fun h2 => ?_)
  · exact rb_vret C E dX7_requireDifferent_16 (Nat.le_of_ble_eq_true rfl) (Nat.le_of_ble_eq_true rfl) (⟨h2, rfl, rfl⟩)
  · exact rb_throwW C EX Thr_ia (text := "both are the same") (by decide +kernel) dX7_requireDifferent_5 dX7_requireDifferent_8 dX7_requireDifferent_9 dX7_requireDifferent_12 dX7_requireDifferent_15 rfl (Nat.le_of_ble_eq_true rfl) (Nat.le_of_ble_eq_true rfl) (Nat.le_of_ble_eq_true rfl) (Nat.le_of_ble_eq_true rfl) ⟨rfl, h2, rfl⟩

set_option maxRecDepth 100000 in
set_option maxHeartbeats 4000000 in
theorem k_X7_requireRoom (l : Launch) (X : rb_X) (G : rb_G) (W : rb_I) (a b : Int32) : rb_M l X yX7_requireRoom (.code yX7_requireRoom cX7_requireRoom 2 none) 6 90 1 6 [rbI a, rbI b] (wI G W) (fun v9 G9 => a < b ∧ v9 = none ∧ G9 = wI G W) (fun e9 G9 => e9 = "java/lang/IllegalStateException" ∧ ¬ a < b ∧ G9 = wI G W) := by
  refine rb_startM RX7 rfl (by decide +kernel) rfl (Nat.le_of_ble_eq_true rfl) ?_
  intro Φ C E EX
  show rb_W Φ 0 0 0 [some (rbI a), some (rbI b)] [] (wI G W)
  refine rb_iload_n C dX7_requireRoom_0 rfl ?_
  refine rb_iload_n C dX7_requireRoom_1 rfl ?_
  refine rb_icmp_lt C 16 dX7_requireRoom_2 (by decide) (fun h2 => ?_) (fun h2 => ?_)
  · exact rb_vret C E dX7_requireRoom_16 (Nat.le_of_ble_eq_true rfl) (Nat.le_of_ble_eq_true rfl) (⟨h2, rfl, rfl⟩)
  · exact rb_throwW C EX Thr_is (text := "there are as many as there may be") (by decide +kernel) dX7_requireRoom_5 dX7_requireRoom_8 dX7_requireRoom_9 dX7_requireRoom_12 dX7_requireRoom_15 rfl (Nat.le_of_ble_eq_true rfl) (Nat.le_of_ble_eq_true rfl) (Nat.le_of_ble_eq_true rfl) (Nat.le_of_ble_eq_true rfl) ⟨rfl, h2, rfl⟩

set_option maxRecDepth 100000 in
set_option maxHeartbeats 4000000 in
theorem k_X7_requireNetwork (l : Launch) (X : rb_X) (G : rb_G) (W : rb_I) (cn : Nat → Nat) (ag : Nat → Nat → Int32) (hG : xCS G cn ag) (n : Int32) : rb_M l X yX7_requireNetwork (.code yX7_requireNetwork cX7_requireNetwork 2 none) 6 90 1 6 [rbR (0, 0, 0), rbI n] (wI G W) (fun v9 G9 => ¬ m_isNetwork n = 0 ∧ v9 = none ∧ G9 = wI G W) (fun e9 G9 => e9 = "java/lang/IndexOutOfBoundsException" ∧ m_isNetwork n = 0 ∧ G9 = wI G W) := by
  refine rb_startM RX7 rfl (by decide +kernel) rfl (Nat.le_of_ble_eq_true rfl) ?_
  intro Φ C E EX
  show rb_W Φ 0 0 0 [some (rbR (0, 0, 0)), some (rbI n)] [] (wI G W)
  refine rb_iload_n C dX7_requireNetwork_0 rfl ?_
  refine rb_if_lt C 13 dX7_requireNetwork_1 (by decide) (fun h1 => ?_) (fun h1 => ?_)
  · exact rb_throwW C EX Thr_io (text := "no such network") (by decide +kernel) dX7_requireNetwork_13 dX7_requireNetwork_16 dX7_requireNetwork_17 dX7_requireNetwork_20 dX7_requireNetwork_23 rfl (Nat.le_of_ble_eq_true rfl) (Nat.le_of_ble_eq_true rfl) (Nat.le_of_ble_eq_true rfl) (Nat.le_of_ble_eq_true rfl) ⟨rfl, in_no (Or.inl h1), rfl⟩
  · refine rb_iload_n C dX7_requireNetwork_4 rfl ?_
    refine rb_aload_n C dX7_requireNetwork_5 rfl ?_
    refine rw_getP C FR_X7_15 dX7_requireNetwork_6 rfl (o := some (2, 0, 0)) (hG.1 1 (by decide)) ?_
    refine rw_alen C (x := 6) 6 dX7_requireNetwork_9 rfl (by decide) (by decide) hG.2.2.2.1.2.1 rfl ?_
    refine rb_icmp_lt C 24 dX7_requireNetwork_10 (by decide) (fun h10 => ?_) (fun h10 => ?_)
    · exact rb_vret C E dX7_requireNetwork_24 (Nat.le_of_ble_eq_true rfl) (Nat.le_of_ble_eq_true rfl) (⟨in_yes h1 (lt_le (a := 5) (b := 6) rfl h10 (by decide) rfl), rfl, rfl⟩)
    · exact rb_throwW C EX Thr_io (text := "no such network") (by decide +kernel) dX7_requireNetwork_13 dX7_requireNetwork_16 dX7_requireNetwork_17 dX7_requireNetwork_20 dX7_requireNetwork_23 rfl (Nat.le_of_ble_eq_true rfl) (Nat.le_of_ble_eq_true rfl) (Nat.le_of_ble_eq_true rfl) (Nat.le_of_ble_eq_true rfl) ⟨rfl, in_no (Or.inr (lt_nle (a := 5) (b := 6) rfl h10 (by decide) rfl)), rfl⟩

set_option maxRecDepth 100000 in
set_option maxHeartbeats 4000000 in
theorem k_X7_requireNetwork_v (l : Launch) (X : rb_X) (G : rb_G) (W : rb_I) (cn : Nat → Nat) (ag : Nat → Nat → Int32) (hG : xCS G cn ag) (n : Int32) (hn : vp_in n 6) : rb_N l X yX7_requireNetwork (.code yX7_requireNetwork cX7_requireNetwork 2 none) 1 12 0 0 [rbR (0, 0, 0), rbI n] (wI G W) (fun v9 G9 => v9 = none ∧ G9 = wI G W) := by
  refine rb_startN RX7 rfl (by decide +kernel) rfl (Nat.le_of_ble_eq_true rfl) ?_
  intro Φ C E nm
  show rb_W Φ 0 0 0 [some (rbR (0, 0, 0)), some (rbI n)] [] (wI G W)
  refine rb_iload_n C dX7_requireNetwork_0 rfl ?_
  refine rb_if_lt C 13 dX7_requireNetwork_1 (by decide) (fun h9 => absurd h9 (vp_in_0 hn)) (fun _ => ?_)
  refine rb_iload_n C dX7_requireNetwork_4 rfl ?_
  refine rb_aload_n C dX7_requireNetwork_5 rfl ?_
  refine rw_getP C FR_X7_15 dX7_requireNetwork_6 rfl (o := some (2, 0, 0)) (hG.1 1 (by decide)) ?_
  refine rw_alen C (x := 6) 6 dX7_requireNetwork_9 rfl (by decide) (by decide) hG.2.2.2.1.2.1 rfl ?_
  refine rb_icmp_lt C 24 dX7_requireNetwork_10 (by decide) (fun _ => ?_) (fun h9 => absurd (vp_in_c hn (by decide) rfl) h9)
  exact rb_vret C E dX7_requireNetwork_24 (Nat.le_of_ble_eq_true rfl) (Nat.le_of_ble_eq_true rfl) (⟨rfl, rfl⟩)

set_option maxRecDepth 100000 in
set_option maxHeartbeats 4000000 in
theorem k_X7_requirePlace (l : Launch) (X : rb_X) (G : rb_G) (W : rb_I) (cn : Nat → Nat) (ag : Nat → Nat → Int32) (hG : xCS G cn ag) (n : Int32) : rb_M l X yX7_requirePlace (.code yX7_requirePlace cX7_requirePlace 2 none) 6 90 1 6 [rbR (0, 0, 0), rbI n] (wI G W) (fun v9 G9 => ¬ m_isPlace n = 0 ∧ v9 = none ∧ G9 = wI G W) (fun e9 G9 => e9 = "java/lang/IndexOutOfBoundsException" ∧ m_isPlace n = 0 ∧ G9 = wI G W) := by
  refine rb_startM RX7 rfl (by decide +kernel) rfl (Nat.le_of_ble_eq_true rfl) ?_
  intro Φ C E EX
  show rb_W Φ 0 0 0 [some (rbR (0, 0, 0)), some (rbI n)] [] (wI G W)
  refine rb_iload_n C dX7_requirePlace_0 rfl ?_
  refine rb_if_lt C 13 dX7_requirePlace_1 (by decide) (fun h1 => ?_) (fun h1 => ?_)
  · exact rb_throwW C EX Thr_io (text := "no such place") (by decide +kernel) dX7_requirePlace_13 dX7_requirePlace_16 dX7_requirePlace_17 dX7_requirePlace_20 dX7_requirePlace_23 rfl (Nat.le_of_ble_eq_true rfl) (Nat.le_of_ble_eq_true rfl) (Nat.le_of_ble_eq_true rfl) (Nat.le_of_ble_eq_true rfl) ⟨rfl, in_no (Or.inl h1), rfl⟩
  · refine rb_iload_n C dX7_requirePlace_4 rfl ?_
    refine rb_aload_n C dX7_requirePlace_5 rfl ?_
    refine rw_getP C FR_X7_9 dX7_requirePlace_6 rfl (o := some (1, 0, 0)) (hG.1 0 (by decide)) ?_
    refine rw_alen C (x := 8) 8 dX7_requirePlace_9 rfl (by decide) (by decide) hG.2.2.2.1.1 rfl ?_
    refine rb_icmp_lt C 24 dX7_requirePlace_10 (by decide) (fun h10 => ?_) (fun h10 => ?_)
    · exact rb_vret C E dX7_requirePlace_24 (Nat.le_of_ble_eq_true rfl) (Nat.le_of_ble_eq_true rfl) (⟨in_yes h1 (lt_le (a := 7) (b := 8) rfl h10 (by decide) rfl), rfl, rfl⟩)
    · exact rb_throwW C EX Thr_io (text := "no such place") (by decide +kernel) dX7_requirePlace_13 dX7_requirePlace_16 dX7_requirePlace_17 dX7_requirePlace_20 dX7_requirePlace_23 rfl (Nat.le_of_ble_eq_true rfl) (Nat.le_of_ble_eq_true rfl) (Nat.le_of_ble_eq_true rfl) (Nat.le_of_ble_eq_true rfl) ⟨rfl, in_no (Or.inr (lt_nle (a := 7) (b := 8) rfl h10 (by decide) rfl)), rfl⟩

set_option maxRecDepth 100000 in
set_option maxHeartbeats 4000000 in
theorem k_X7_requirePlace_v (l : Launch) (X : rb_X) (G : rb_G) (W : rb_I) (cn : Nat → Nat) (ag : Nat → Nat → Int32) (hG : xCS G cn ag) (n : Int32) (hn : vp_in n 8) : rb_N l X yX7_requirePlace (.code yX7_requirePlace cX7_requirePlace 2 none) 1 12 0 0 [rbR (0, 0, 0), rbI n] (wI G W) (fun v9 G9 => v9 = none ∧ G9 = wI G W) := by
  refine rb_startN RX7 rfl (by decide +kernel) rfl (Nat.le_of_ble_eq_true rfl) ?_
  intro Φ C E nm
  show rb_W Φ 0 0 0 [some (rbR (0, 0, 0)), some (rbI n)] [] (wI G W)
  refine rb_iload_n C dX7_requirePlace_0 rfl ?_
  refine rb_if_lt C 13 dX7_requirePlace_1 (by decide) (fun h9 => absurd h9 (vp_in_0 hn)) (fun _ => ?_)
  refine rb_iload_n C dX7_requirePlace_4 rfl ?_
  refine rb_aload_n C dX7_requirePlace_5 rfl ?_
  refine rw_getP C FR_X7_9 dX7_requirePlace_6 rfl (o := some (1, 0, 0)) (hG.1 0 (by decide)) ?_
  refine rw_alen C (x := 8) 8 dX7_requirePlace_9 rfl (by decide) (by decide) hG.2.2.2.1.1 rfl ?_
  refine rb_icmp_lt C 24 dX7_requirePlace_10 (by decide) (fun _ => ?_) (fun h9 => absurd (vp_in_c hn (by decide) rfl) h9)
  exact rb_vret C E dX7_requirePlace_24 (Nat.le_of_ble_eq_true rfl) (Nat.le_of_ble_eq_true rfl) (⟨rfl, rfl⟩)

