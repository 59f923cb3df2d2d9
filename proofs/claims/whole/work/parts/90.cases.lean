set_option maxRecDepth 100000 in
set_option maxHeartbeats 4000000 in
theorem law_call {Φ : rb_F} {cells slots : Nat} (C : rb_C Φ RL cL_law 7 15 568 601024 7293034) {b L : Nat} {xs : Nat → Int32} (hs : rb_Scr Φ b L xs) {i : Nat} (hi : i + 8 ≤ L) (hL : L ≤ 4096) (hc : cells + 12 ≤ 601024) (hsl : slots + 2200 ≤ 7293034) {G : rb_G} {W : rb_I} {cn : Nat → Nat} {ag : Nat → Nat → Int32} (h : lI G W cn ag) (kk : ∀ G' W' cn' ag', lI G' W' cn' ag' → rb_W Φ (cells + 12) (slots + 2200) 1926 (LV i) [] (wI G' W')) : rb_W Φ cells slots 1370 (LV i) [] (wI G W) := by
  obtain ⟨hG, hm, hJ, t, R, hx⟩ := h
  have hI : xCI W cn := hx.1.1
  show rb_W Φ cells slots 1370 [some (rbR (18, 0, 0)), some (rbR (0, 0, 0)), some (rbR (16, 0, 0)), some (rbR (17, 0, 0)), some (rbI (nI i)), none, none] [] (wI G W)
  refine rb_aload_n C dL_law_1370 rfl ?_
  refine rb_aload_n C dL_law_1371 rfl ?_
  refine rb_iload C dL_law_1372 rfl ?_
  refine rb_iconst C dL_law_1374 (v := 1) (by decide) ?_
  refine rb_iadd C dL_law_1375 ?_
  refine rb_sldk C hs (k := 1) rfl (by decide) hi hL dL_law_1376 ?_
  refine rb_aload_n C dL_law_1377 rfl ?_
  refine rb_iload C dL_law_1378 rfl ?_
  refine rb_iconst C dL_law_1380 (v := 2) (by decide) ?_
  refine rb_iadd C dL_law_1381 ?_
  refine rb_sldk C hs (k := 2) rfl (by decide) hi hL dL_law_1382 ?_
  refine rb_aload_n C dL_law_1383 rfl ?_
  refine rb_iload C dL_law_1384 rfl ?_
  refine rb_iconst C dL_law_1386 (v := 3) (by decide) ?_
  refine rb_iadd C dL_law_1387 ?_
  refine rb_sldk C hs (k := 3) rfl (by decide) hi hL dL_law_1388 ?_
  refine rb_aload_n C dL_law_1389 rfl ?_
  refine rb_callSW C M_L_166 (fun l X => k_L_call l X G W cn ag hG (xs (i + 1)) (xs (i + 2)) (xs (i + 3)) hI hm (sx_hr hx) hJ) dL_law_1390 rfl rfl rfl (Nat.le_of_ble_eq_true rfl) ⟨(Nat.le_of_ble_eq_true rfl), (Nat.le_of_ble_eq_true rfl)⟩ (by omega) (by omega) (fun v G' hp => ?_)
  have F1 := cd_call W cn (xs (i + 1)) (xs (i + 2)) (xs (i + 3))
  have F2 := xf_call W cn (xs (i + 1)) (xs (i + 2)) (xs (i + 3))
  obtain ⟨rfl, hp⟩ := hp
  have K0 := s_call hx (xs (i + 1)) (xs (i + 2)) (xs (i + 3))
  rcases hp with ⟨f1, e9⟩ | ⟨f1, J, hJv, ⟨f2, e9⟩ | ⟨f2, W1, W2, G3, W3, e9, q1, q2, q3, hK, hC3⟩⟩
  · have e0 := K0.2.2.1 f1
    rw [e9, e0]
    clear e9 G'
    have mff := mf_call W (xs (i + 1)) (xs (i + 2)) (xs (i + 3))
    obtain ⟨o1, o2, -, o4, -⟩ := K0
    obtain ⟨R1, hx9⟩ := o4 (Or.inl f1)
    have hM : MI W := hx.1.2.1
    have hr9 := sx_hm hx
    generalize hF : (x7_call W cn (xs (i + 1)) (xs (i + 2)) (xs (i + 3))) = F at *
    refine rb_istore C dL_law_1393 (Nat.le_of_ble_eq_true rfl) rfl (Lv' := [_, _, _, _, _, _, _]) rfl ?_
    refine rb_aload_n C dL_law_1395 rfl ?_
    refine rb_aload_n C dL_law_1396 rfl ?_
    refine rb_iload C dL_law_1397 rfl ?_
    refine rb_iconst C dL_law_1399 (v := 1) (by decide) ?_
    refine rb_iadd C dL_law_1400 ?_
    refine rb_sldk C hs (k := 1) rfl (by decide) hi hL dL_law_1401 ?_
    refine rb_aload_n C dL_law_1402 rfl ?_
    refine rb_iload C dL_law_1403 rfl ?_
    refine rb_iconst C dL_law_1405 (v := 2) (by decide) ?_
    refine rb_iadd C dL_law_1406 ?_
    refine rb_sldk C hs (k := 2) rfl (by decide) hi hL dL_law_1407 ?_
    refine rb_aload_n C dL_law_1408 rfl ?_
    refine rb_iload C dL_law_1409 rfl ?_
    refine rb_iconst C dL_law_1411 (v := 3) (by decide) ?_
    refine rb_iadd C dL_law_1412 ?_
    refine rb_sldk C hs (k := 3) rfl (by decide) hi hL dL_law_1413 ?_
    refine rb_callV C M_L_168 (fun l X => (k_X8_call l X G W (xs (i + 1)) (xs (i + 2)) (xs (i + 3)) hm hM hr9).m) rfl (Nat.le_of_ble_eq_true rfl) rfl dL_law_1414 rfl rfl rfl (Nat.le_of_ble_eq_true rfl) ⟨(Nat.le_of_ble_eq_true rfl), (Nat.le_of_ble_eq_true rfl)⟩ (by omega) (by omega) (fun v G' hp => ?_) (fun _ _ hp => hp.elim)
    obtain ⟨rfl, e9⟩ := hp
    rw [e9]
    clear e9 G'
    generalize (m_call W (xs (i + 1)) (xs (i + 2)) (xs (i + 3))) = b9 at *
    refine rb_istore C dL_law_1417 (Nat.le_of_ble_eq_true rfl) rfl (Lv' := [_, _, _, _, _, _, _]) rfl ?_
    refine rb_aload_n C dL_law_1419 rfl ?_
    refine rb_callV C M_L_108 (fun l X => (k_X8_thrown l X G b9.2).m) rfl (Nat.le_of_ble_eq_true rfl) rfl dL_law_1420 rfl rfl rfl (Nat.le_of_ble_eq_true rfl) ⟨(Nat.le_of_ble_eq_true rfl), (Nat.le_of_ble_eq_true rfl)⟩ (by omega) (by omega) (fun v G' hp => ?_) (fun _ _ hp => hp.elim)
    obtain ⟨rfl, e9⟩ := hp
    rw [e9]
    clear e9 G'
    refine rb_iload C dL_law_1423 rfl ?_
    refine rb_icmp_eq C 1430 dL_law_1425 (by decide) (fun _ => ?_) (fun h9 => absurd o1 h9)
    have fin : rb_W Φ (cells + 12) (slots + 2200) 1447 [some (rbR (18, 0, 0)), some (rbR (0, 0, 0)), some (rbR (16, 0, 0)), some (rbR (17, 0, 0)), some (rbI (nI i)), some (rbI (sq_3 F.1)), some (rbI b9.1)] [] (wI G b9.2) := by
      refine rb_goto C 1926 dL_law_1447 (by decide) ?_
      refine rb_W.unset 5 ?_
      refine rb_W.unset 6 ?_
      exact rb_W.room (kk G b9.2 cn ag ⟨hG, hm, hJ, t, R1, sx_both (xq_rf _) mff hx9⟩) (by omega) (by omega)
    refine rb_iload C dL_law_1430 rfl ?_
    refine rb_if_ne C 1447 dL_law_1432 (by decide) (fun hk9 => fin) (fun hk9 => ?_)
    have f0 : F.1 = 0 := sq_3z (by omega) hk9
    exact absurd f0 f1
  · rw [e9]
    clear e9 G'
    have mff := mf_call W (xs (i + 1)) (xs (i + 2)) (xs (i + 3))
    obtain ⟨o1, o2, -, o4, -⟩ := K0
    obtain ⟨R1, hx9⟩ := o4 (Or.inr f2)
    have hM : MI W := hx.1.2.1
    have hr9 := sx_hm hx
    generalize hF : (x7_call W cn (xs (i + 1)) (xs (i + 2)) (xs (i + 3))) = F at *
    refine rb_istore C dL_law_1393 (Nat.le_of_ble_eq_true rfl) rfl (Lv' := [_, _, _, _, _, _, _]) rfl ?_
    refine rb_aload_n C dL_law_1395 rfl ?_
    refine rb_aload_n C dL_law_1396 rfl ?_
    refine rb_iload C dL_law_1397 rfl ?_
    refine rb_iconst C dL_law_1399 (v := 1) (by decide) ?_
    refine rb_iadd C dL_law_1400 ?_
    refine rb_sldk C hs (k := 1) rfl (by decide) hi hL dL_law_1401 ?_
    refine rb_aload_n C dL_law_1402 rfl ?_
    refine rb_iload C dL_law_1403 rfl ?_
    refine rb_iconst C dL_law_1405 (v := 2) (by decide) ?_
    refine rb_iadd C dL_law_1406 ?_
    refine rb_sldk C hs (k := 2) rfl (by decide) hi hL dL_law_1407 ?_
    refine rb_aload_n C dL_law_1408 rfl ?_
    refine rb_iload C dL_law_1409 rfl ?_
    refine rb_iconst C dL_law_1411 (v := 3) (by decide) ?_
    refine rb_iadd C dL_law_1412 ?_
    refine rb_sldk C hs (k := 3) rfl (by decide) hi hL dL_law_1413 ?_
    refine rb_callV C M_L_168 (fun l X => (k_X8_call l X (wJ G J) W (xs (i + 1)) (xs (i + 2)) (xs (i + 3)) hm hM hr9).m) rfl (Nat.le_of_ble_eq_true rfl) rfl dL_law_1414 rfl rfl rfl (Nat.le_of_ble_eq_true rfl) ⟨(Nat.le_of_ble_eq_true rfl), (Nat.le_of_ble_eq_true rfl)⟩ (by omega) (by omega) (fun v G' hp => ?_) (fun _ _ hp => hp.elim)
    obtain ⟨rfl, e9⟩ := hp
    rw [e9]
    clear e9 G'
    generalize (m_call W (xs (i + 1)) (xs (i + 2)) (xs (i + 3))) = b9 at *
    refine rb_istore C dL_law_1417 (Nat.le_of_ble_eq_true rfl) rfl (Lv' := [_, _, _, _, _, _, _]) rfl ?_
    refine rb_aload_n C dL_law_1419 rfl ?_
    refine rb_callV C M_L_108 (fun l X => (k_X8_thrown l X (wJ G J) b9.2).m) rfl (Nat.le_of_ble_eq_true rfl) rfl dL_law_1420 rfl rfl rfl (Nat.le_of_ble_eq_true rfl) ⟨(Nat.le_of_ble_eq_true rfl), (Nat.le_of_ble_eq_true rfl)⟩ (by omega) (by omega) (fun v G' hp => ?_) (fun _ _ hp => hp.elim)
    obtain ⟨rfl, e9⟩ := hp
    rw [e9]
    clear e9 G'
    refine rb_iload C dL_law_1423 rfl ?_
    refine rb_icmp_eq C 1430 dL_law_1425 (by decide) (fun _ => ?_) (fun h9 => absurd o1 h9)
    have fin : rb_W Φ (cells + 12) (slots + 2200) 1447 [some (rbR (18, 0, 0)), some (rbR (0, 0, 0)), some (rbR (16, 0, 0)), some (rbR (17, 0, 0)), some (rbI (nI i)), some (rbI (sq_3 F.1)), some (rbI b9.1)] [] (wI (wJ G J) b9.2) := by
      refine rb_goto C 1926 dL_law_1447 (by decide) ?_
      refine rb_W.unset 5 ?_
      refine rb_W.unset 6 ?_
      exact rb_W.room (kk (wJ G J) b9.2 cn ag ⟨hG, hm, hJ, t, R1, sx_both (xq_rf _) mff hx9⟩) (by omega) (by omega)
    refine rb_iload C dL_law_1430 rfl ?_
    refine rb_if_ne C 1447 dL_law_1432 (by decide) (fun hk9 => fin) (fun hk9 => ?_)
    have f0 : F.1 = 0 := sq_3z (by omega) hk9
    refine rb_aload_n C dL_law_1435 rfl ?_
    refine rb_iconst C dL_law_1436 (v := 0) (by decide) ?_
    refine rb_lald C dL_law_1437 rfl (vp_01 (hJ)) ?_
    refine rb_iload C dL_law_1438 rfl ?_
    refine rb_i2l C dL_law_1440 ?_
    refine rb_lcmp C dL_law_1441 ?_
    have e : lg_cmp (J (17, 0, 0) 0) (Int32.toInt64 b9.1) = 0 := (lg_cmp_eq _ _).mpr ((hJv).trans (by rw [o2 f0]))
    exact rb_if_eq C 1447 dL_law_1442 (by decide) (fun _ => fin) (fun h9 => absurd e h9)
  · rw [e9]
    clear e9 G'
    have x3 : xf W W3 := xf_tr F2 (xf_tr (xf_xq q1) (xf_tr (xf_settle _ _ _ _ _) (xf_tr (xf_xq q2) (xf_tr (xf_settle _ _ _ _ _) (xf_xq q3)))))
    have hx3 := sx_w hx x3
    have K3 := s_call hx3 (xs (i + 1)) (xs (i + 2)) (xs (i + 3))
    have mff := mf_call W3 (xs (i + 1)) (xs (i + 2)) (xs (i + 3))
    obtain ⟨o1, o2, -, -, o5⟩ := K3
    obtain ⟨R1, hx9⟩ := o5 f1 f2 W1 W2 W3 q1 q2 q3
    have hM : MI W3 := hx3.1.2.1
    have hr9 := sx_hm hx3
    generalize hF : (x7_call W cn (xs (i + 1)) (xs (i + 2)) (xs (i + 3))) = F at *
    refine rb_istore C dL_law_1393 (Nat.le_of_ble_eq_true rfl) rfl (Lv' := [_, _, _, _, _, _, _]) rfl ?_
    refine rb_aload_n C dL_law_1395 rfl ?_
    refine rb_aload_n C dL_law_1396 rfl ?_
    refine rb_iload C dL_law_1397 rfl ?_
    refine rb_iconst C dL_law_1399 (v := 1) (by decide) ?_
    refine rb_iadd C dL_law_1400 ?_
    refine rb_sldk C hs (k := 1) rfl (by decide) hi hL dL_law_1401 ?_
    refine rb_aload_n C dL_law_1402 rfl ?_
    refine rb_iload C dL_law_1403 rfl ?_
    refine rb_iconst C dL_law_1405 (v := 2) (by decide) ?_
    refine rb_iadd C dL_law_1406 ?_
    refine rb_sldk C hs (k := 2) rfl (by decide) hi hL dL_law_1407 ?_
    refine rb_aload_n C dL_law_1408 rfl ?_
    refine rb_iload C dL_law_1409 rfl ?_
    refine rb_iconst C dL_law_1411 (v := 3) (by decide) ?_
    refine rb_iadd C dL_law_1412 ?_
    refine rb_sldk C hs (k := 3) rfl (by decide) hi hL dL_law_1413 ?_
    refine rb_callV C M_L_168 (fun l X => (k_X8_call l X (wJ G3 J) W3 (xs (i + 1)) (xs (i + 2)) (xs (i + 3)) hK.1 hM hr9).m) rfl (Nat.le_of_ble_eq_true rfl) rfl dL_law_1414 rfl rfl rfl (Nat.le_of_ble_eq_true rfl) ⟨(Nat.le_of_ble_eq_true rfl), (Nat.le_of_ble_eq_true rfl)⟩ (by omega) (by omega) (fun v G' hp => ?_) (fun _ _ hp => hp.elim)
    obtain ⟨rfl, e9⟩ := hp
    rw [e9]
    clear e9 G'
    generalize (m_call W3 (xs (i + 1)) (xs (i + 2)) (xs (i + 3))) = b9 at *
    refine rb_istore C dL_law_1417 (Nat.le_of_ble_eq_true rfl) rfl (Lv' := [_, _, _, _, _, _, _]) rfl ?_
    refine rb_aload_n C dL_law_1419 rfl ?_
    refine rb_callV C M_L_108 (fun l X => (k_X8_thrown l X (wJ G3 J) b9.2).m) rfl (Nat.le_of_ble_eq_true rfl) rfl dL_law_1420 rfl rfl rfl (Nat.le_of_ble_eq_true rfl) ⟨(Nat.le_of_ble_eq_true rfl), (Nat.le_of_ble_eq_true rfl)⟩ (by omega) (by omega) (fun v G' hp => ?_) (fun _ _ hp => hp.elim)
    obtain ⟨rfl, e9⟩ := hp
    rw [e9]
    clear e9 G'
    refine rb_iload C dL_law_1423 rfl ?_
    refine rb_icmp_eq C 1430 dL_law_1425 (by decide) (fun _ => ?_) (fun h9 => absurd o1 h9)
    have fin : rb_W Φ (cells + 12) (slots + 2200) 1447 [some (rbR (18, 0, 0)), some (rbR (0, 0, 0)), some (rbR (16, 0, 0)), some (rbR (17, 0, 0)), some (rbI (nI i)), some (rbI (sq_3 F.1)), some (rbI b9.1)] [] (wI (wJ G3 J) b9.2) := by
      refine rb_goto C 1926 dL_law_1447 (by decide) ?_
      refine rb_W.unset 5 ?_
      refine rb_W.unset 6 ?_
      exact rb_W.room (kk (wJ G3 J) b9.2 _ _ ⟨hC3, hK.1, hK.2.trans hJ, t, R1, sx_both (xq_rf _) mff hx9⟩) (by omega) (by omega)
    refine rb_iload C dL_law_1430 rfl ?_
    refine rb_if_ne C 1447 dL_law_1432 (by decide) (fun hk9 => fin) (fun hk9 => ?_)
    have f0 : F.1 = 0 := sq_3z (by omega) hk9
    refine rb_aload_n C dL_law_1435 rfl ?_
    refine rb_iconst C dL_law_1436 (v := 0) (by decide) ?_
    refine rb_lald C dL_law_1437 rfl (vp_01 (hK.2.trans hJ)) ?_
    refine rb_iload C dL_law_1438 rfl ?_
    refine rb_i2l C dL_law_1440 ?_
    refine rb_lcmp C dL_law_1441 ?_
    have e : lg_cmp (J (17, 0, 0) 0) (Int32.toInt64 b9.1) = 0 := (lg_cmp_eq _ _).mpr ((hJv).trans (by rw [o2 f0]))
    exact rb_if_eq C 1447 dL_law_1442 (by decide) (fun _ => fin) (fun h9 => absurd e h9)
set_option maxRecDepth 100000 in
set_option maxHeartbeats 4000000 in
theorem law_paidAnew {Φ : rb_F} {cells slots : Nat} (C : rb_C Φ RL cL_law 7 15 568 601024 7293034) {b L : Nat} {xs : Nat → Int32} (hs : rb_Scr Φ b L xs) {i : Nat} (hi : i + 8 ≤ L) (hL : L ≤ 4096) (hc : cells + 12 ≤ 601024) (hsl : slots + 2200 ≤ 7293034) {G : rb_G} {W : rb_I} {cn : Nat → Nat} {ag : Nat → Nat → Int32} (h : lI G W cn ag) (kk : ∀ G' W' cn' ag', lI G' W' cn' ag' → rb_W Φ (cells + 12) (slots + 2200) 1926 (LV i) [] (wI G' W')) : rb_W Φ cells slots 1450 (LV i) [] (wI G W) := by
  obtain ⟨hG, hm, hJ, t, R, hx⟩ := h
  have hI : xCI W cn := hx.1.1
  show rb_W Φ cells slots 1450 [some (rbR (18, 0, 0)), some (rbR (0, 0, 0)), some (rbR (16, 0, 0)), some (rbR (17, 0, 0)), some (rbI (nI i)), none, none] [] (wI G W)
  refine rb_aload_n C dL_law_1450 rfl ?_
  refine rb_aload_n C dL_law_1451 rfl ?_
  refine rb_iload C dL_law_1452 rfl ?_
  refine rb_iconst C dL_law_1454 (v := 1) (by decide) ?_
  refine rb_iadd C dL_law_1455 ?_
  refine rb_sldk C hs (k := 1) rfl (by decide) hi hL dL_law_1456 ?_
  refine rb_aload_n C dL_law_1457 rfl ?_
  refine rb_callSW C M_L_169 (fun l X => k_L_paidAnew l X G W cn ag hG (xs (i + 1)) hI hJ) dL_law_1458 rfl rfl rfl (Nat.le_of_ble_eq_true rfl) ⟨(Nat.le_of_ble_eq_true rfl), (Nat.le_of_ble_eq_true rfl)⟩ (by omega) (by omega) (fun v G' hp => ?_)
  have F1 := cd_paidAnew W cn (xs (i + 1))
  have F2 := xf_paidAnew W cn (xs (i + 1))
  obtain ⟨rfl, J, e9, hJv⟩ := hp
  rw [e9]
  clear e9 G'
  have hx1 := sx_w hx F2
  have K0 := s_paidAnew hx1 (xs (i + 1))
  have mff := mf_paidAnew (x7_paidAnew W cn (xs (i + 1))).2.2 (xs (i + 1))
  obtain ⟨o1, o2, t1, R1, hx9⟩ := K0
  have hM : MI (x7_paidAnew W cn (xs (i + 1))).2.2 := hx1.1.2.1
  generalize hF : (x7_paidAnew W cn (xs (i + 1))) = F at *
  refine rb_istore C dL_law_1461 (Nat.le_of_ble_eq_true rfl) rfl (Lv' := [_, _, _, _, _, _, _]) rfl ?_
  refine rb_aload_n C dL_law_1463 rfl ?_
  refine rb_aload_n C dL_law_1464 rfl ?_
  refine rb_iload C dL_law_1465 rfl ?_
  refine rb_iconst C dL_law_1467 (v := 1) (by decide) ?_
  refine rb_iadd C dL_law_1468 ?_
  refine rb_sldk C hs (k := 1) rfl (by decide) hi hL dL_law_1469 ?_
  refine rb_callV C M_L_171 (fun l X => (k_X8_paidAnew l X (wJ G J) F.2.2 (xs (i + 1)) hm hM).m) rfl (Nat.le_of_ble_eq_true rfl) rfl dL_law_1470 rfl rfl rfl (Nat.le_of_ble_eq_true rfl) ⟨(Nat.le_of_ble_eq_true rfl), (Nat.le_of_ble_eq_true rfl)⟩ (by omega) (by omega) (fun v G' hp => ?_) (fun _ _ hp => hp.elim)
  obtain ⟨rfl, e9⟩ := hp
  rw [e9]
  clear e9 G'
  generalize (m_paidAnew F.2.2 (xs (i + 1))) = b9 at *
  refine rb_istore C dL_law_1473 (Nat.le_of_ble_eq_true rfl) rfl (Lv' := [_, _, _, _, _, _, _]) rfl ?_
  refine rb_aload_n C dL_law_1475 rfl ?_
  refine rb_callV C M_L_108 (fun l X => (k_X8_thrown l X (wJ G J) b9.2).m) rfl (Nat.le_of_ble_eq_true rfl) rfl dL_law_1476 rfl rfl rfl (Nat.le_of_ble_eq_true rfl) ⟨(Nat.le_of_ble_eq_true rfl), (Nat.le_of_ble_eq_true rfl)⟩ (by omega) (by omega) (fun v G' hp => ?_) (fun _ _ hp => hp.elim)
  obtain ⟨rfl, e9⟩ := hp
  rw [e9]
  clear e9 G'
  refine rb_iload C dL_law_1479 rfl ?_
  refine rb_icmp_eq C 1486 dL_law_1481 (by decide) (fun _ => ?_) (fun h9 => absurd o1 h9)
  have fin : rb_W Φ (cells + 12) (slots + 72) 1503 [some (rbR (18, 0, 0)), some (rbR (0, 0, 0)), some (rbR (16, 0, 0)), some (rbR (17, 0, 0)), some (rbI (nI i)), some (rbI (sq_3 F.1)), some (rbI b9.1)] [] (wI (wJ G J) b9.2) := by
    refine rb_goto C 1926 dL_law_1503 (by decide) ?_
    refine rb_W.unset 5 ?_
    refine rb_W.unset 6 ?_
    exact rb_W.room (kk (wJ G J) b9.2 cn ag ⟨hG, hm, hJ, t1, R1, sx_both (xq_rf _) mff hx9⟩) (by omega) (by omega)
  refine rb_iload C dL_law_1486 rfl ?_
  refine rb_if_ne C 1503 dL_law_1488 (by decide) (fun hk9 => fin) (fun hk9 => ?_)
  have f0 : F.1 = 0 := sq_3z (by omega) hk9
  refine rb_aload_n C dL_law_1491 rfl ?_
  refine rb_iconst C dL_law_1492 (v := 0) (by decide) ?_
  refine rb_lald C dL_law_1493 rfl (vp_01 (hJ)) ?_
  refine rb_iload C dL_law_1494 rfl ?_
  refine rb_i2l C dL_law_1496 ?_
  refine rb_lcmp C dL_law_1497 ?_
  have e : lg_cmp (J (17, 0, 0) 0) (Int32.toInt64 b9.1) = 0 := (lg_cmp_eq _ _).mpr ((hJv f0).trans (by rw [o2 f0]))
  exact rb_if_eq C 1503 dL_law_1498 (by decide) (fun _ => fin) (fun h9 => absurd e h9)
set_option maxRecDepth 100000 in
set_option maxHeartbeats 4000000 in
theorem law_file {Φ : rb_F} {cells slots : Nat} (C : rb_C Φ RL cL_law 7 15 568 601024 7293034) {b L : Nat} {xs : Nat → Int32} (hs : rb_Scr Φ b L xs) {i : Nat} (hi : i + 8 ≤ L) (hL : L ≤ 4096) (hc : cells + 12 ≤ 601024) (hsl : slots + 2200 ≤ 7293034) {G : rb_G} {W : rb_I} {cn : Nat → Nat} {ag : Nat → Nat → Int32} (h : lI G W cn ag) (kk : ∀ G' W' cn' ag', lI G' W' cn' ag' → rb_W Φ (cells + 12) (slots + 2200) 1926 (LV i) [] (wI G' W')) : rb_W Φ cells slots 1506 (LV i) [] (wI G W) := by
  obtain ⟨hG, hm, hJ, t, R, hx⟩ := h
  have hI : xCI W cn := hx.1.1
  show rb_W Φ cells slots 1506 [some (rbR (18, 0, 0)), some (rbR (0, 0, 0)), some (rbR (16, 0, 0)), some (rbR (17, 0, 0)), some (rbI (nI i)), none, none] [] (wI G W)
  refine rb_aload_n C dL_law_1506 rfl ?_
  refine rb_aload_n C dL_law_1507 rfl ?_
  refine rb_iload C dL_law_1508 rfl ?_
  refine rb_iconst C dL_law_1510 (v := 1) (by decide) ?_
  refine rb_iadd C dL_law_1511 ?_
  refine rb_sldk C hs (k := 1) rfl (by decide) hi hL dL_law_1512 ?_
  refine rb_aload_n C dL_law_1513 rfl ?_
  refine rb_iload C dL_law_1514 rfl ?_
  refine rb_iconst C dL_law_1516 (v := 2) (by decide) ?_
  refine rb_iadd C dL_law_1517 ?_
  refine rb_sldk C hs (k := 2) rfl (by decide) hi hL dL_law_1518 ?_
  refine rb_aload_n C dL_law_1519 rfl ?_
  refine rb_callSW C M_L_172 (fun l X => k_L_file l X G W cn ag hG (xs (i + 1)) (xs (i + 2)) hI hJ) dL_law_1520 rfl rfl rfl (Nat.le_of_ble_eq_true rfl) ⟨(Nat.le_of_ble_eq_true rfl), (Nat.le_of_ble_eq_true rfl)⟩ (by omega) (by omega) (fun v G' hp => ?_)
  have F1 := cd_file W cn (xs (i + 1)) (xs (i + 2))
  have F2 := xf_file W cn (xs (i + 1)) (xs (i + 2))
  obtain ⟨rfl, J, e9, hJv⟩ := hp
  rw [e9]
  clear e9 G'
  have hx1 := sx_w hx F2
  have K0 := s_file hx1 (xs (i + 1)) (xs (i + 2))
  have mff := mf_file (x7_file W cn (xs (i + 1)) (xs (i + 2))).2.2 (xs (i + 1)) (xs (i + 2))
  obtain ⟨o1, o2, t1, R1, hx9⟩ := K0
  have hM : MI (x7_file W cn (xs (i + 1)) (xs (i + 2))).2.2 := hx1.1.2.1
  generalize hF : (x7_file W cn (xs (i + 1)) (xs (i + 2))) = F at *
  refine rb_istore C dL_law_1523 (Nat.le_of_ble_eq_true rfl) rfl (Lv' := [_, _, _, _, _, _, _]) rfl ?_
  refine rb_aload_n C dL_law_1525 rfl ?_
  refine rb_aload_n C dL_law_1526 rfl ?_
  refine rb_iload C dL_law_1527 rfl ?_
  refine rb_iconst C dL_law_1529 (v := 1) (by decide) ?_
  refine rb_iadd C dL_law_1530 ?_
  refine rb_sldk C hs (k := 1) rfl (by decide) hi hL dL_law_1531 ?_
  refine rb_aload_n C dL_law_1532 rfl ?_
  refine rb_iload C dL_law_1533 rfl ?_
  refine rb_iconst C dL_law_1535 (v := 2) (by decide) ?_
  refine rb_iadd C dL_law_1536 ?_
  refine rb_sldk C hs (k := 2) rfl (by decide) hi hL dL_law_1537 ?_
  refine rb_callV C M_L_174 (fun l X => (k_X8_file l X (wJ G J) F.2.2 (xs (i + 1)) (xs (i + 2)) hm hM).m) rfl (Nat.le_of_ble_eq_true rfl) rfl dL_law_1538 rfl rfl rfl (Nat.le_of_ble_eq_true rfl) ⟨(Nat.le_of_ble_eq_true rfl), (Nat.le_of_ble_eq_true rfl)⟩ (by omega) (by omega) (fun v G' hp => ?_) (fun _ _ hp => hp.elim)
  obtain ⟨rfl, e9⟩ := hp
  rw [e9]
  clear e9 G'
  generalize (m_file F.2.2 (xs (i + 1)) (xs (i + 2))) = b9 at *
  refine rb_istore C dL_law_1541 (Nat.le_of_ble_eq_true rfl) rfl (Lv' := [_, _, _, _, _, _, _]) rfl ?_
  refine rb_aload_n C dL_law_1543 rfl ?_
  refine rb_callV C M_L_108 (fun l X => (k_X8_thrown l X (wJ G J) b9.2).m) rfl (Nat.le_of_ble_eq_true rfl) rfl dL_law_1544 rfl rfl rfl (Nat.le_of_ble_eq_true rfl) ⟨(Nat.le_of_ble_eq_true rfl), (Nat.le_of_ble_eq_true rfl)⟩ (by omega) (by omega) (fun v G' hp => ?_) (fun _ _ hp => hp.elim)
  obtain ⟨rfl, e9⟩ := hp
  rw [e9]
  clear e9 G'
  refine rb_iload C dL_law_1547 rfl ?_
  refine rb_icmp_eq C 1554 dL_law_1549 (by decide) (fun _ => ?_) (fun h9 => absurd o1 h9)
  have fin : rb_W Φ (cells + 12) (slots + 72) 1571 [some (rbR (18, 0, 0)), some (rbR (0, 0, 0)), some (rbR (16, 0, 0)), some (rbR (17, 0, 0)), some (rbI (nI i)), some (rbI (sq_2 F.1)), some (rbI b9.1)] [] (wI (wJ G J) b9.2) := by
    refine rb_goto C 1926 dL_law_1571 (by decide) ?_
    refine rb_W.unset 5 ?_
    refine rb_W.unset 6 ?_
    exact rb_W.room (kk (wJ G J) b9.2 cn ag ⟨hG, hm, hJ, t1, R1, sx_both (xq_rf _) mff hx9⟩) (by omega) (by omega)
  refine rb_iload C dL_law_1554 rfl ?_
  refine rb_if_ne C 1571 dL_law_1556 (by decide) (fun hk9 => fin) (fun hk9 => ?_)
  have f0 : F.1 = 0 := sq_2z F1 hk9
  refine rb_aload_n C dL_law_1559 rfl ?_
  refine rb_iconst C dL_law_1560 (v := 0) (by decide) ?_
  refine rb_lald C dL_law_1561 rfl (vp_01 (hJ)) ?_
  refine rb_iload C dL_law_1562 rfl ?_
  refine rb_i2l C dL_law_1564 ?_
  refine rb_lcmp C dL_law_1565 ?_
  have e : lg_cmp (J (17, 0, 0) 0) (Int32.toInt64 b9.1) = 0 := (lg_cmp_eq _ _).mpr ((hJv f0).trans (by rw [o2 f0]))
  exact rb_if_eq C 1571 dL_law_1566 (by decide) (fun _ => fin) (fun h9 => absurd e h9)
set_option maxRecDepth 100000 in
set_option maxHeartbeats 4000000 in
theorem law_deliver {Φ : rb_F} {cells slots : Nat} (C : rb_C Φ RL cL_law 7 15 568 601024 7293034) {b L : Nat} {xs : Nat → Int32} (hs : rb_Scr Φ b L xs) {i : Nat} (hi : i + 8 ≤ L) (hL : L ≤ 4096) (hc : cells + 12 ≤ 601024) (hsl : slots + 2200 ≤ 7293034) {G : rb_G} {W : rb_I} {cn : Nat → Nat} {ag : Nat → Nat → Int32} (h : lI G W cn ag) (kk : ∀ G' W' cn' ag', lI G' W' cn' ag' → rb_W Φ (cells + 12) (slots + 2200) 1926 (LV i) [] (wI G' W')) : rb_W Φ cells slots 1574 (LV i) [] (wI G W) := by
  obtain ⟨hG, hm, hJ, t, R, hx⟩ := h
  have hI : xCI W cn := hx.1.1
  show rb_W Φ cells slots 1574 [some (rbR (18, 0, 0)), some (rbR (0, 0, 0)), some (rbR (16, 0, 0)), some (rbR (17, 0, 0)), some (rbI (nI i)), none, none] [] (wI G W)
  refine rb_aload_n C dL_law_1574 rfl ?_
  refine rb_aload_n C dL_law_1575 rfl ?_
  refine rb_iload C dL_law_1576 rfl ?_
  refine rb_iconst C dL_law_1578 (v := 1) (by decide) ?_
  refine rb_iadd C dL_law_1579 ?_
  refine rb_sldk C hs (k := 1) rfl (by decide) hi hL dL_law_1580 ?_
  refine rb_aload_n C dL_law_1581 rfl ?_
  refine rb_iload C dL_law_1582 rfl ?_
  refine rb_iconst C dL_law_1584 (v := 2) (by decide) ?_
  refine rb_iadd C dL_law_1585 ?_
  refine rb_sldk C hs (k := 2) rfl (by decide) hi hL dL_law_1586 ?_
  refine rb_aload_n C dL_law_1587 rfl ?_
  refine rb_iload C dL_law_1588 rfl ?_
  refine rb_iconst C dL_law_1590 (v := 3) (by decide) ?_
  refine rb_iadd C dL_law_1591 ?_
  refine rb_sldk C hs (k := 3) rfl (by decide) hi hL dL_law_1592 ?_
  refine rb_aload_n C dL_law_1593 rfl ?_
  refine rb_callSW C M_L_175 (fun l X => k_L_deliver l X G W cn ag hG (xs (i + 1)) (xs (i + 2)) (xs (i + 3)) hI hJ) dL_law_1594 rfl rfl rfl (Nat.le_of_ble_eq_true rfl) ⟨(Nat.le_of_ble_eq_true rfl), (Nat.le_of_ble_eq_true rfl)⟩ (by omega) (by omega) (fun v G' hp => ?_)
  have F1 := cd_deliver W cn (xs (i + 1)) (xs (i + 2)) (xs (i + 3))
  have F2 := xf_deliver W cn (xs (i + 1)) (xs (i + 2)) (xs (i + 3))
  obtain ⟨rfl, J, e9, hJv⟩ := hp
  rw [e9]
  clear e9 G'
  have hx1 := sx_w hx F2
  have K0 := s_deliver hx1 (xs (i + 1)) (xs (i + 2)) (xs (i + 3))
  have mff := mf_deliver (x7_deliver W cn (xs (i + 1)) (xs (i + 2)) (xs (i + 3))).2.2 (xs (i + 1)) (xs (i + 2)) (xs (i + 3))
  obtain ⟨o1, o2, t1, R1, hx9⟩ := K0
  have hM : MI (x7_deliver W cn (xs (i + 1)) (xs (i + 2)) (xs (i + 3))).2.2 := hx1.1.2.1
  generalize hF : (x7_deliver W cn (xs (i + 1)) (xs (i + 2)) (xs (i + 3))) = F at *
  refine rb_istore C dL_law_1597 (Nat.le_of_ble_eq_true rfl) rfl (Lv' := [_, _, _, _, _, _, _]) rfl ?_
  refine rb_aload_n C dL_law_1599 rfl ?_
  refine rb_aload_n C dL_law_1600 rfl ?_
  refine rb_iload C dL_law_1601 rfl ?_
  refine rb_iconst C dL_law_1603 (v := 1) (by decide) ?_
  refine rb_iadd C dL_law_1604 ?_
  refine rb_sldk C hs (k := 1) rfl (by decide) hi hL dL_law_1605 ?_
  refine rb_aload_n C dL_law_1606 rfl ?_
  refine rb_iload C dL_law_1607 rfl ?_
  refine rb_iconst C dL_law_1609 (v := 2) (by decide) ?_
  refine rb_iadd C dL_law_1610 ?_
  refine rb_sldk C hs (k := 2) rfl (by decide) hi hL dL_law_1611 ?_
  refine rb_aload_n C dL_law_1612 rfl ?_
  refine rb_iload C dL_law_1613 rfl ?_
  refine rb_iconst C dL_law_1615 (v := 3) (by decide) ?_
  refine rb_iadd C dL_law_1616 ?_
  refine rb_sldk C hs (k := 3) rfl (by decide) hi hL dL_law_1617 ?_
  refine rb_callV C M_L_177 (fun l X => (k_X8_deliver l X (wJ G J) F.2.2 (xs (i + 1)) (xs (i + 2)) (xs (i + 3)) hm hM).m) rfl (Nat.le_of_ble_eq_true rfl) rfl dL_law_1618 rfl rfl rfl (Nat.le_of_ble_eq_true rfl) ⟨(Nat.le_of_ble_eq_true rfl), (Nat.le_of_ble_eq_true rfl)⟩ (by omega) (by omega) (fun v G' hp => ?_) (fun _ _ hp => hp.elim)
  obtain ⟨rfl, e9⟩ := hp
  rw [e9]
  clear e9 G'
  generalize (m_deliver F.2.2 (xs (i + 1)) (xs (i + 2)) (xs (i + 3))) = b9 at *
  refine rb_istore C dL_law_1621 (Nat.le_of_ble_eq_true rfl) rfl (Lv' := [_, _, _, _, _, _, _]) rfl ?_
  refine rb_aload_n C dL_law_1623 rfl ?_
  refine rb_callV C M_L_108 (fun l X => (k_X8_thrown l X (wJ G J) b9.2).m) rfl (Nat.le_of_ble_eq_true rfl) rfl dL_law_1624 rfl rfl rfl (Nat.le_of_ble_eq_true rfl) ⟨(Nat.le_of_ble_eq_true rfl), (Nat.le_of_ble_eq_true rfl)⟩ (by omega) (by omega) (fun v G' hp => ?_) (fun _ _ hp => hp.elim)
  obtain ⟨rfl, e9⟩ := hp
  rw [e9]
  clear e9 G'
  refine rb_iload C dL_law_1627 rfl ?_
  refine rb_icmp_eq C 1634 dL_law_1629 (by decide) (fun _ => ?_) (fun h9 => absurd o1 h9)
  have fin : rb_W Φ (cells + 12) (slots + 72) 1651 [some (rbR (18, 0, 0)), some (rbR (0, 0, 0)), some (rbR (16, 0, 0)), some (rbR (17, 0, 0)), some (rbI (nI i)), some (rbI (sq_3 F.1)), some (rbI b9.1)] [] (wI (wJ G J) b9.2) := by
    refine rb_goto C 1926 dL_law_1651 (by decide) ?_
    refine rb_W.unset 5 ?_
    refine rb_W.unset 6 ?_
    exact rb_W.room (kk (wJ G J) b9.2 cn ag ⟨hG, hm, hJ, t1, R1, sx_both (xq_rf _) mff hx9⟩) (by omega) (by omega)
  refine rb_iload C dL_law_1634 rfl ?_
  refine rb_if_ne C 1651 dL_law_1636 (by decide) (fun hk9 => fin) (fun hk9 => ?_)
  have f0 : F.1 = 0 := sq_3z (by omega) hk9
  refine rb_aload_n C dL_law_1639 rfl ?_
  refine rb_iconst C dL_law_1640 (v := 0) (by decide) ?_
  refine rb_lald C dL_law_1641 rfl (vp_01 (hJ)) ?_
  refine rb_iload C dL_law_1642 rfl ?_
  refine rb_i2l C dL_law_1644 ?_
  refine rb_lcmp C dL_law_1645 ?_
  have e : lg_cmp (J (17, 0, 0) 0) (Int32.toInt64 b9.1) = 0 := (lg_cmp_eq _ _).mpr ((hJv f0).trans (by rw [o2 f0]))
  exact rb_if_eq C 1651 dL_law_1646 (by decide) (fun _ => fin) (fun h9 => absurd e h9)
set_option maxRecDepth 100000 in
set_option maxHeartbeats 4000000 in
theorem law_owes {Φ : rb_F} {cells slots : Nat} (C : rb_C Φ RL cL_law 7 15 568 601024 7293034) {b L : Nat} {xs : Nat → Int32} (hs : rb_Scr Φ b L xs) {i : Nat} (hi : i + 8 ≤ L) (hL : L ≤ 4096) (hc : cells + 12 ≤ 601024) (hsl : slots + 2200 ≤ 7293034) {G : rb_G} {W : rb_I} {cn : Nat → Nat} {ag : Nat → Nat → Int32} (h : lI G W cn ag) (kk : ∀ G' W' cn' ag', lI G' W' cn' ag' → rb_W Φ (cells + 12) (slots + 2200) 1926 (LV i) [] (wI G' W')) : rb_W Φ cells slots 1654 (LV i) [] (wI G W) := by
  obtain ⟨hG, hm, hJ, t, R, hx⟩ := h
  have hI : xCI W cn := hx.1.1
  show rb_W Φ cells slots 1654 [some (rbR (18, 0, 0)), some (rbR (0, 0, 0)), some (rbR (16, 0, 0)), some (rbR (17, 0, 0)), some (rbI (nI i)), none, none] [] (wI G W)
  refine rb_aload_n C dL_law_1654 rfl ?_
  refine rb_aload_n C dL_law_1655 rfl ?_
  refine rb_iload C dL_law_1656 rfl ?_
  refine rb_iconst C dL_law_1658 (v := 1) (by decide) ?_
  refine rb_iadd C dL_law_1659 ?_
  refine rb_sldk C hs (k := 1) rfl (by decide) hi hL dL_law_1660 ?_
  refine rb_aload_n C dL_law_1661 rfl ?_
  refine rb_iload C dL_law_1662 rfl ?_
  refine rb_iconst C dL_law_1664 (v := 2) (by decide) ?_
  refine rb_iadd C dL_law_1665 ?_
  refine rb_sldk C hs (k := 2) rfl (by decide) hi hL dL_law_1666 ?_
  refine rb_aload_n C dL_law_1667 rfl ?_
  refine rb_callSW C M_L_178 (fun l X => k_L_owes l X G W cn ag hG (xs (i + 1)) (xs (i + 2)) hI hJ) dL_law_1668 rfl rfl rfl (Nat.le_of_ble_eq_true rfl) ⟨(Nat.le_of_ble_eq_true rfl), (Nat.le_of_ble_eq_true rfl)⟩ (by omega) (by omega) (fun v G' hp => ?_)
  have F1 := cd_owes W cn ag (xs (i + 1)) (xs (i + 2))
  have F2 := xf_owes W cn ag (xs (i + 1)) (xs (i + 2))
  obtain ⟨rfl, J, e9, hJv⟩ := hp
  rw [e9]
  clear e9 G'
  have hx1 := sx_w hx F2
  have K0 := s_owes hx1 (xs (i + 1)) (xs (i + 2))
  have mff := mf_owes (x7_owes W cn ag (xs (i + 1)) (xs (i + 2))).2.2 (xs (i + 1)) (xs (i + 2))
  obtain ⟨o1, o2, t1, R1, hx9⟩ := K0
  have hM : MI (x7_owes W cn ag (xs (i + 1)) (xs (i + 2))).2.2 := hx1.1.2.1
  generalize hF : (x7_owes W cn ag (xs (i + 1)) (xs (i + 2))) = F at *
  refine rb_istore C dL_law_1671 (Nat.le_of_ble_eq_true rfl) rfl (Lv' := [_, _, _, _, _, _, _]) rfl ?_
  refine rb_aload_n C dL_law_1673 rfl ?_
  refine rb_aload_n C dL_law_1674 rfl ?_
  refine rb_iload C dL_law_1675 rfl ?_
  refine rb_iconst C dL_law_1677 (v := 1) (by decide) ?_
  refine rb_iadd C dL_law_1678 ?_
  refine rb_sldk C hs (k := 1) rfl (by decide) hi hL dL_law_1679 ?_
  refine rb_aload_n C dL_law_1680 rfl ?_
  refine rb_iload C dL_law_1681 rfl ?_
  refine rb_iconst C dL_law_1683 (v := 2) (by decide) ?_
  refine rb_iadd C dL_law_1684 ?_
  refine rb_sldk C hs (k := 2) rfl (by decide) hi hL dL_law_1685 ?_
  refine rb_callV C M_L_180 (fun l X => (k_X8_owes l X (wJ G J) F.2.2 (xs (i + 1)) (xs (i + 2)) hm hM).m) rfl (Nat.le_of_ble_eq_true rfl) rfl dL_law_1686 rfl rfl rfl (Nat.le_of_ble_eq_true rfl) ⟨(Nat.le_of_ble_eq_true rfl), (Nat.le_of_ble_eq_true rfl)⟩ (by omega) (by omega) (fun v G' hp => ?_) (fun _ _ hp => hp.elim)
  obtain ⟨rfl, e9⟩ := hp
  rw [e9]
  clear e9 G'
  generalize (m_owes F.2.2 (xs (i + 1)) (xs (i + 2))) = b9 at *
  refine rb_istore C dL_law_1689 (Nat.le_of_ble_eq_true rfl) rfl (Lv' := [_, _, _, _, _, _, _]) rfl ?_
  refine rb_aload_n C dL_law_1691 rfl ?_
  refine rb_callV C M_L_108 (fun l X => (k_X8_thrown l X (wJ G J) b9.2).m) rfl (Nat.le_of_ble_eq_true rfl) rfl dL_law_1692 rfl rfl rfl (Nat.le_of_ble_eq_true rfl) ⟨(Nat.le_of_ble_eq_true rfl), (Nat.le_of_ble_eq_true rfl)⟩ (by omega) (by omega) (fun v G' hp => ?_) (fun _ _ hp => hp.elim)
  obtain ⟨rfl, e9⟩ := hp
  rw [e9]
  clear e9 G'
  refine rb_iload C dL_law_1695 rfl ?_
  refine rb_icmp_eq C 1702 dL_law_1697 (by decide) (fun _ => ?_) (fun h9 => absurd o1 h9)
  have fin : rb_W Φ (cells + 12) (slots + 72) 1719 [some (rbR (18, 0, 0)), some (rbR (0, 0, 0)), some (rbR (16, 0, 0)), some (rbR (17, 0, 0)), some (rbI (nI i)), some (rbI (sq_3 F.1)), some (rbI b9.1)] [] (wI (wJ G J) b9.2) := by
    refine rb_goto C 1926 dL_law_1719 (by decide) ?_
    refine rb_W.unset 5 ?_
    refine rb_W.unset 6 ?_
    exact rb_W.room (kk (wJ G J) b9.2 cn ag ⟨hG, hm, hJ, t1, R1, sx_both (xq_rf _) mff hx9⟩) (by omega) (by omega)
  refine rb_iload C dL_law_1702 rfl ?_
  refine rb_if_ne C 1719 dL_law_1704 (by decide) (fun hk9 => fin) (fun hk9 => ?_)
  have f0 : F.1 = 0 := sq_3z (by omega) hk9
  refine rb_aload_n C dL_law_1707 rfl ?_
  refine rb_iconst C dL_law_1708 (v := 0) (by decide) ?_
  refine rb_lald C dL_law_1709 rfl (vp_01 (hJ)) ?_
  refine rb_iload C dL_law_1710 rfl ?_
  refine rb_i2l C dL_law_1712 ?_
  refine rb_lcmp C dL_law_1713 ?_
  have e : lg_cmp (J (17, 0, 0) 0) (Int32.toInt64 b9.1) = 0 := (lg_cmp_eq _ _).mpr ((hJv f0).trans (by rw [o2 f0]))
  exact rb_if_eq C 1719 dL_law_1714 (by decide) (fun _ => fin) (fun h9 => absurd e h9)
set_option maxRecDepth 100000 in
set_option maxHeartbeats 4000000 in
theorem law_owesAnew {Φ : rb_F} {cells slots : Nat} (C : rb_C Φ RL cL_law 7 15 568 601024 7293034) {b L : Nat} {xs : Nat → Int32} (hs : rb_Scr Φ b L xs) {i : Nat} (hi : i + 8 ≤ L) (hL : L ≤ 4096) (hc : cells + 12 ≤ 601024) (hsl : slots + 2200 ≤ 7293034) {G : rb_G} {W : rb_I} {cn : Nat → Nat} {ag : Nat → Nat → Int32} (h : lI G W cn ag) (kk : ∀ G' W' cn' ag', lI G' W' cn' ag' → rb_W Φ (cells + 12) (slots + 2200) 1926 (LV i) [] (wI G' W')) : rb_W Φ cells slots 1722 (LV i) [] (wI G W) := by
  obtain ⟨hG, hm, hJ, t, R, hx⟩ := h
  have hI : xCI W cn := hx.1.1
  show rb_W Φ cells slots 1722 [some (rbR (18, 0, 0)), some (rbR (0, 0, 0)), some (rbR (16, 0, 0)), some (rbR (17, 0, 0)), some (rbI (nI i)), none, none] [] (wI G W)
  refine rb_aload_n C dL_law_1722 rfl ?_
  refine rb_aload_n C dL_law_1723 rfl ?_
  refine rb_iload C dL_law_1724 rfl ?_
  refine rb_iconst C dL_law_1726 (v := 1) (by decide) ?_
  refine rb_iadd C dL_law_1727 ?_
  refine rb_sldk C hs (k := 1) rfl (by decide) hi hL dL_law_1728 ?_
  refine rb_aload_n C dL_law_1729 rfl ?_
  refine rb_iload C dL_law_1730 rfl ?_
  refine rb_iconst C dL_law_1732 (v := 2) (by decide) ?_
  refine rb_iadd C dL_law_1733 ?_
  refine rb_sldk C hs (k := 2) rfl (by decide) hi hL dL_law_1734 ?_
  refine rb_aload_n C dL_law_1735 rfl ?_
  refine rb_callSW C M_L_181 (fun l X => k_L_owesAnew l X G W cn ag hG (xs (i + 1)) (xs (i + 2)) hI hx.1.2.2.2.2.2.2.2.2.2.2.2.2.2.1 hJ) dL_law_1736 rfl rfl rfl (Nat.le_of_ble_eq_true rfl) ⟨(Nat.le_of_ble_eq_true rfl), (Nat.le_of_ble_eq_true rfl)⟩ (by omega) (by omega) (fun v G' hp => ?_)
  have F1 := cd_owesAnew W cn ag (xs (i + 1)) (xs (i + 2))
  have F2 := xf_owesAnew W cn ag (xs (i + 1)) (xs (i + 2))
  obtain ⟨rfl, J, e9, hJv⟩ := hp
  rw [e9]
  clear e9 G'
  have hx1 := sx_w hx F2
  have K0 := s_owesAnew hx1 (xs (i + 1)) (xs (i + 2))
  have mff := mf_owesAnew (x7_owesAnew W cn ag (xs (i + 1)) (xs (i + 2))).2.2 (xs (i + 1)) (xs (i + 2))
  obtain ⟨o1, o2, t1, R1, hx9⟩ := K0
  have hM : MI (x7_owesAnew W cn ag (xs (i + 1)) (xs (i + 2))).2.2 := hx1.1.2.1
  generalize hF : (x7_owesAnew W cn ag (xs (i + 1)) (xs (i + 2))) = F at *
  refine rb_istore C dL_law_1739 (Nat.le_of_ble_eq_true rfl) rfl (Lv' := [_, _, _, _, _, _, _]) rfl ?_
  refine rb_aload_n C dL_law_1741 rfl ?_
  refine rb_aload_n C dL_law_1742 rfl ?_
  refine rb_iload C dL_law_1743 rfl ?_
  refine rb_iconst C dL_law_1745 (v := 1) (by decide) ?_
  refine rb_iadd C dL_law_1746 ?_
  refine rb_sldk C hs (k := 1) rfl (by decide) hi hL dL_law_1747 ?_
  refine rb_aload_n C dL_law_1748 rfl ?_
  refine rb_iload C dL_law_1749 rfl ?_
  refine rb_iconst C dL_law_1751 (v := 2) (by decide) ?_
  refine rb_iadd C dL_law_1752 ?_
  refine rb_sldk C hs (k := 2) rfl (by decide) hi hL dL_law_1753 ?_
  refine rb_callV C M_L_183 (fun l X => (k_X8_owesAnew l X (wJ G J) F.2.2 (xs (i + 1)) (xs (i + 2)) hm hM).m) rfl (Nat.le_of_ble_eq_true rfl) rfl dL_law_1754 rfl rfl rfl (Nat.le_of_ble_eq_true rfl) ⟨(Nat.le_of_ble_eq_true rfl), (Nat.le_of_ble_eq_true rfl)⟩ (by omega) (by omega) (fun v G' hp => ?_) (fun _ _ hp => hp.elim)
  obtain ⟨rfl, e9⟩ := hp
  rw [e9]
  clear e9 G'
  generalize (m_owesAnew F.2.2 (xs (i + 1)) (xs (i + 2))) = b9 at *
  refine rb_istore C dL_law_1757 (Nat.le_of_ble_eq_true rfl) rfl (Lv' := [_, _, _, _, _, _, _]) rfl ?_
  refine rb_aload_n C dL_law_1759 rfl ?_
  refine rb_callV C M_L_108 (fun l X => (k_X8_thrown l X (wJ G J) b9.2).m) rfl (Nat.le_of_ble_eq_true rfl) rfl dL_law_1760 rfl rfl rfl (Nat.le_of_ble_eq_true rfl) ⟨(Nat.le_of_ble_eq_true rfl), (Nat.le_of_ble_eq_true rfl)⟩ (by omega) (by omega) (fun v G' hp => ?_) (fun _ _ hp => hp.elim)
  obtain ⟨rfl, e9⟩ := hp
  rw [e9]
  clear e9 G'
  refine rb_iload C dL_law_1763 rfl ?_
  refine rb_icmp_eq C 1770 dL_law_1765 (by decide) (fun _ => ?_) (fun h9 => absurd o1 h9)
  have fin : rb_W Φ (cells + 12) (slots + 72) 1787 [some (rbR (18, 0, 0)), some (rbR (0, 0, 0)), some (rbR (16, 0, 0)), some (rbR (17, 0, 0)), some (rbI (nI i)), some (rbI (sq_3 F.1)), some (rbI b9.1)] [] (wI (wJ G J) b9.2) := by
    refine rb_goto C 1926 dL_law_1787 (by decide) ?_
    refine rb_W.unset 5 ?_
    refine rb_W.unset 6 ?_
    exact rb_W.room (kk (wJ G J) b9.2 cn ag ⟨hG, hm, hJ, t1, R1, sx_both (xq_rf _) mff hx9⟩) (by omega) (by omega)
  refine rb_iload C dL_law_1770 rfl ?_
  refine rb_if_ne C 1787 dL_law_1772 (by decide) (fun hk9 => fin) (fun hk9 => ?_)
  have f0 : F.1 = 0 := sq_3z (by omega) hk9
  refine rb_aload_n C dL_law_1775 rfl ?_
  refine rb_iconst C dL_law_1776 (v := 0) (by decide) ?_
  refine rb_lald C dL_law_1777 rfl (vp_01 (hJ)) ?_
  refine rb_iload C dL_law_1778 rfl ?_
  refine rb_i2l C dL_law_1780 ?_
  refine rb_lcmp C dL_law_1781 ?_
  have e : lg_cmp (J (17, 0, 0) 0) (Int32.toInt64 b9.1) = 0 := (lg_cmp_eq _ _).mpr ((hJv f0).trans (by rw [o2 f0]))
  exact rb_if_eq C 1787 dL_law_1782 (by decide) (fun _ => fin) (fun h9 => absurd e h9)
set_option maxRecDepth 100000 in
set_option maxHeartbeats 4000000 in
theorem law_recorded {Φ : rb_F} {cells slots : Nat} (C : rb_C Φ RL cL_law 7 15 568 601024 7293034) {b L : Nat} {xs : Nat → Int32} (hs : rb_Scr Φ b L xs) {i : Nat} (hi : i + 8 ≤ L) (hL : L ≤ 4096) (hc : cells + 12 ≤ 601024) (hsl : slots + 2200 ≤ 7293034) {G : rb_G} {W : rb_I} {cn : Nat → Nat} {ag : Nat → Nat → Int32} (h : lI G W cn ag) (kk : ∀ G' W' cn' ag', lI G' W' cn' ag' → rb_W Φ (cells + 12) (slots + 2200) 1926 (LV i) [] (wI G' W')) : rb_W Φ cells slots 1790 (LV i) [] (wI G W) := by
  obtain ⟨hG, hm, hJ, t, R, hx⟩ := h
  have hI : xCI W cn := hx.1.1
  show rb_W Φ cells slots 1790 [some (rbR (18, 0, 0)), some (rbR (0, 0, 0)), some (rbR (16, 0, 0)), some (rbR (17, 0, 0)), some (rbI (nI i)), none, none] [] (wI G W)
  refine rb_aload_n C dL_law_1790 rfl ?_
  refine rb_aload_n C dL_law_1791 rfl ?_
  refine rb_iload C dL_law_1792 rfl ?_
  refine rb_iconst C dL_law_1794 (v := 1) (by decide) ?_
  refine rb_iadd C dL_law_1795 ?_
  refine rb_sldk C hs (k := 1) rfl (by decide) hi hL dL_law_1796 ?_
  refine rb_aload_n C dL_law_1797 rfl ?_
  refine rb_iload C dL_law_1798 rfl ?_
  refine rb_iconst C dL_law_1800 (v := 2) (by decide) ?_
  refine rb_iadd C dL_law_1801 ?_
  refine rb_sldk C hs (k := 2) rfl (by decide) hi hL dL_law_1802 ?_
  refine rb_aload_n C dL_law_1803 rfl ?_
  refine rb_iload C dL_law_1804 rfl ?_
  refine rb_iconst C dL_law_1806 (v := 3) (by decide) ?_
  refine rb_iadd C dL_law_1807 ?_
  refine rb_sldk C hs (k := 3) rfl (by decide) hi hL dL_law_1808 ?_
  refine rb_aload_n C dL_law_1809 rfl ?_
  refine rb_callSW C M_L_184 (fun l X => k_L_recorded l X G W cn ag hG (xs (i + 1)) (xs (i + 2)) (xs (i + 3)) hI hJ) dL_law_1810 rfl rfl rfl (Nat.le_of_ble_eq_true rfl) ⟨(Nat.le_of_ble_eq_true rfl), (Nat.le_of_ble_eq_true rfl)⟩ (by omega) (by omega) (fun v G' hp => ?_)
  have F1 := cd_recorded W cn (xs (i + 1)) (xs (i + 2)) (xs (i + 3))
  have F2 := xf_recorded W cn (xs (i + 1)) (xs (i + 2)) (xs (i + 3))
  obtain ⟨rfl, J, e9, hJv⟩ := hp
  rw [e9]
  clear e9 G'
  have hx1 := sx_w hx F2
  have K0 := s_recorded hx1 (xs (i + 1)) (xs (i + 2)) (xs (i + 3))
  have mff := mf_recorded (x7_recorded W cn (xs (i + 1)) (xs (i + 2)) (xs (i + 3))).2.2 (xs (i + 1)) (xs (i + 2)) (xs (i + 3))
  obtain ⟨o1, o2, t1, R1, hx9⟩ := K0
  have hM : MI (x7_recorded W cn (xs (i + 1)) (xs (i + 2)) (xs (i + 3))).2.2 := hx1.1.2.1
  generalize hF : (x7_recorded W cn (xs (i + 1)) (xs (i + 2)) (xs (i + 3))) = F at *
  refine rb_istore C dL_law_1813 (Nat.le_of_ble_eq_true rfl) rfl (Lv' := [_, _, _, _, _, _, _]) rfl ?_
  refine rb_aload_n C dL_law_1815 rfl ?_
  refine rb_aload_n C dL_law_1816 rfl ?_
  refine rb_iload C dL_law_1817 rfl ?_
  refine rb_iconst C dL_law_1819 (v := 1) (by decide) ?_
  refine rb_iadd C dL_law_1820 ?_
  refine rb_sldk C hs (k := 1) rfl (by decide) hi hL dL_law_1821 ?_
  refine rb_aload_n C dL_law_1822 rfl ?_
  refine rb_iload C dL_law_1823 rfl ?_
  refine rb_iconst C dL_law_1825 (v := 2) (by decide) ?_
  refine rb_iadd C dL_law_1826 ?_
  refine rb_sldk C hs (k := 2) rfl (by decide) hi hL dL_law_1827 ?_
  refine rb_aload_n C dL_law_1828 rfl ?_
  refine rb_iload C dL_law_1829 rfl ?_
  refine rb_iconst C dL_law_1831 (v := 3) (by decide) ?_
  refine rb_iadd C dL_law_1832 ?_
  refine rb_sldk C hs (k := 3) rfl (by decide) hi hL dL_law_1833 ?_
  refine rb_callV C M_L_186 (fun l X => (k_X8_recorded l X (wJ G J) F.2.2 (xs (i + 1)) (xs (i + 2)) (xs (i + 3)) hm hM).m) rfl (Nat.le_of_ble_eq_true rfl) rfl dL_law_1834 rfl rfl rfl (Nat.le_of_ble_eq_true rfl) ⟨(Nat.le_of_ble_eq_true rfl), (Nat.le_of_ble_eq_true rfl)⟩ (by omega) (by omega) (fun v G' hp => ?_) (fun _ _ hp => hp.elim)
  obtain ⟨rfl, e9⟩ := hp
  rw [e9]
  clear e9 G'
  generalize (m_recorded F.2.2 (xs (i + 1)) (xs (i + 2)) (xs (i + 3))) = b9 at *
  refine rb_istore C dL_law_1837 (Nat.le_of_ble_eq_true rfl) rfl (Lv' := [_, _, _, _, _, _, _]) rfl ?_
  refine rb_aload_n C dL_law_1839 rfl ?_
  refine rb_callV C M_L_108 (fun l X => (k_X8_thrown l X (wJ G J) b9.2).m) rfl (Nat.le_of_ble_eq_true rfl) rfl dL_law_1840 rfl rfl rfl (Nat.le_of_ble_eq_true rfl) ⟨(Nat.le_of_ble_eq_true rfl), (Nat.le_of_ble_eq_true rfl)⟩ (by omega) (by omega) (fun v G' hp => ?_) (fun _ _ hp => hp.elim)
  obtain ⟨rfl, e9⟩ := hp
  rw [e9]
  clear e9 G'
  refine rb_iload C dL_law_1843 rfl ?_
  refine rb_icmp_eq C 1850 dL_law_1845 (by decide) (fun _ => ?_) (fun h9 => absurd o1 h9)
  have fin : rb_W Φ (cells + 12) (slots + 72) 1867 [some (rbR (18, 0, 0)), some (rbR (0, 0, 0)), some (rbR (16, 0, 0)), some (rbR (17, 0, 0)), some (rbI (nI i)), some (rbI (sq_3 F.1)), some (rbI b9.1)] [] (wI (wJ G J) b9.2) := by
    refine rb_goto C 1926 dL_law_1867 (by decide) ?_
    refine rb_W.unset 5 ?_
    refine rb_W.unset 6 ?_
    exact rb_W.room (kk (wJ G J) b9.2 cn ag ⟨hG, hm, hJ, t1, R1, sx_both (xq_rf _) mff hx9⟩) (by omega) (by omega)
  refine rb_iload C dL_law_1850 rfl ?_
  refine rb_if_ne C 1867 dL_law_1852 (by decide) (fun hk9 => fin) (fun hk9 => ?_)
  have f0 : F.1 = 0 := sq_3z (by omega) hk9
  refine rb_aload_n C dL_law_1855 rfl ?_
  refine rb_iconst C dL_law_1856 (v := 0) (by decide) ?_
  refine rb_lald C dL_law_1857 rfl (vp_01 (hJ)) ?_
  refine rb_iload C dL_law_1858 rfl ?_
  refine rb_i2l C dL_law_1860 ?_
  refine rb_lcmp C dL_law_1861 ?_
  have e : lg_cmp (J (17, 0, 0) 0) (Int32.toInt64 b9.1) = 0 := (lg_cmp_eq _ _).mpr ((hJv f0).trans (by rw [o2 f0]))
  exact rb_if_eq C 1867 dL_law_1862 (by decide) (fun _ => fin) (fun h9 => absurd e h9)
set_option maxRecDepth 100000 in
set_option maxHeartbeats 4000000 in
theorem law_pass {Φ : rb_F} {cells slots : Nat} (C : rb_C Φ RL cL_law 7 15 568 601024 7293034) {b L : Nat} {xs : Nat → Int32} (hs : rb_Scr Φ b L xs) {i : Nat} (hi : i + 8 ≤ L) (hL : L ≤ 4096) (hc : cells + 12 ≤ 601024) (hsl : slots + 2200 ≤ 7293034) {G : rb_G} {W : rb_I} {cn : Nat → Nat} {ag : Nat → Nat → Int32} (h : lI G W cn ag) (kk : ∀ G' W' cn' ag', lI G' W' cn' ag' → rb_W Φ (cells + 12) (slots + 2200) 1926 (LV i) [] (wI G' W')) : rb_W Φ cells slots 1870 (LV i) [] (wI G W) := by
  obtain ⟨hG, hm, hJ, t, R, hx⟩ := h
  have hI : xCI W cn := hx.1.1
  show rb_W Φ cells slots 1870 [some (rbR (18, 0, 0)), some (rbR (0, 0, 0)), some (rbR (16, 0, 0)), some (rbR (17, 0, 0)), some (rbI (nI i)), none, none] [] (wI G W)
  refine rb_aload_n C dL_law_1870 rfl ?_
  refine rb_aload_n C dL_law_1871 rfl ?_
  refine rb_iload C dL_law_1872 rfl ?_
  refine rb_iconst C dL_law_1874 (v := 1) (by decide) ?_
  refine rb_iadd C dL_law_1875 ?_
  refine rb_sldk C hs (k := 1) rfl (by decide) hi hL dL_law_1876 ?_
  refine rb_aload_n C dL_law_1877 rfl ?_
  refine rb_callSW C M_L_187 (fun l X => k_L_pass l X G W cn ag hG (xs (i + 1)) t hI hx.1.2.2.1.2.1 hx.1.2.2.1.2.2.1 hJ) dL_law_1878 rfl rfl rfl (Nat.le_of_ble_eq_true rfl) ⟨(Nat.le_of_ble_eq_true rfl), (Nat.le_of_ble_eq_true rfl)⟩ (by omega) (by omega) (fun v G' hp => ?_)
  have F1 := cd_pass W cn (xs (i + 1)) t
  have F2 := xf_pass W cn (xs (i + 1)) t
  obtain ⟨rfl, J, e9, hJv⟩ := hp
  rw [e9]
  clear e9 G'
  have hx1 := sx_w hx F2
  have K0 := s_pass hx1 (xs (i + 1))
  have mff := mf_pass (x7_pass W cn (xs (i + 1)) t).2.2 (xs (i + 1))
  obtain ⟨o1, o2, t1, R1, hx9⟩ := K0
  have hM : MI (x7_pass W cn (xs (i + 1)) t).2.2 := hx1.1.2.1
  generalize hF : (x7_pass W cn (xs (i + 1)) t) = F at *
  refine rb_istore C dL_law_1881 (Nat.le_of_ble_eq_true rfl) rfl (Lv' := [_, _, _, _, _, _, _]) rfl ?_
  refine rb_aload_n C dL_law_1883 rfl ?_
  refine rb_aload_n C dL_law_1884 rfl ?_
  refine rb_iload C dL_law_1885 rfl ?_
  refine rb_iconst C dL_law_1887 (v := 1) (by decide) ?_
  refine rb_iadd C dL_law_1888 ?_
  refine rb_sldk C hs (k := 1) rfl (by decide) hi hL dL_law_1889 ?_
  refine rb_callV C M_L_189 (fun l X => (k_X8_pass l X (wJ G J) F.2.2 (xs (i + 1)) hm hM).m) rfl (Nat.le_of_ble_eq_true rfl) rfl dL_law_1890 rfl rfl rfl (Nat.le_of_ble_eq_true rfl) ⟨(Nat.le_of_ble_eq_true rfl), (Nat.le_of_ble_eq_true rfl)⟩ (by omega) (by omega) (fun v G' hp => ?_) (fun _ _ hp => hp.elim)
  obtain ⟨rfl, e9⟩ := hp
  rw [e9]
  clear e9 G'
  generalize (m_pass F.2.2 (xs (i + 1))) = b9 at *
  refine rb_istore C dL_law_1893 (Nat.le_of_ble_eq_true rfl) rfl (Lv' := [_, _, _, _, _, _, _]) rfl ?_
  refine rb_aload_n C dL_law_1895 rfl ?_
  refine rb_callV C M_L_108 (fun l X => (k_X8_thrown l X (wJ G J) b9.2).m) rfl (Nat.le_of_ble_eq_true rfl) rfl dL_law_1896 rfl rfl rfl (Nat.le_of_ble_eq_true rfl) ⟨(Nat.le_of_ble_eq_true rfl), (Nat.le_of_ble_eq_true rfl)⟩ (by omega) (by omega) (fun v G' hp => ?_) (fun _ _ hp => hp.elim)
  obtain ⟨rfl, e9⟩ := hp
  rw [e9]
  clear e9 G'
  refine rb_iload C dL_law_1899 rfl ?_
  refine rb_icmp_eq C 1906 dL_law_1901 (by decide) (fun _ => ?_) (fun h9 => absurd o1 h9)
  have fin : rb_W Φ (cells + 12) (slots + 72) 1923 [some (rbR (18, 0, 0)), some (rbR (0, 0, 0)), some (rbR (16, 0, 0)), some (rbR (17, 0, 0)), some (rbI (nI i)), some (rbI (sq_1 F.1)), some (rbI b9.1)] [] (wI (wJ G J) b9.2) := by
    refine rb_goto C 1926 dL_law_1923 (by decide) ?_
    refine rb_W.unset 5 ?_
    refine rb_W.unset 6 ?_
    exact rb_W.room (kk (wJ G J) b9.2 cn ag ⟨hG, hm, hJ, t1, R1, sx_both (xq_rf _) mff hx9⟩) (by omega) (by omega)
  refine rb_iload C dL_law_1906 rfl ?_
  refine rb_if_ne C 1923 dL_law_1908 (by decide) (fun hk9 => fin) (fun hk9 => ?_)
  have f0 : F.1 = 0 := sq_1z F1 hk9
  refine rb_aload_n C dL_law_1911 rfl ?_
  refine rb_iconst C dL_law_1912 (v := 0) (by decide) ?_
  refine rb_lald C dL_law_1913 rfl (vp_01 (hJ)) ?_
  refine rb_iload C dL_law_1914 rfl ?_
  refine rb_i2l C dL_law_1916 ?_
  refine rb_lcmp C dL_law_1917 ?_
  have e : lg_cmp (J (17, 0, 0) 0) (Int32.toInt64 b9.1) = 0 := (lg_cmp_eq _ _).mpr ((hJv f0).trans (by rw [o2 f0]))
  exact rb_if_eq C 1923 dL_law_1918 (by decide) (fun _ => fin) (fun h9 => absurd e h9)
