def x7_subscriber (W : rb_I) (cn : Nat → Nat) (ho : Int32) (pl : Int32) (fo0 : Int32) : rb_U := (if m_isNetwork ho = 0 then (1, (0 : Int32), W) else (if m_isPlace pl = 0 then (1, (0 : Int32), W) else (if m_in fo0 (0 : Int32) (63 : Int32) = 0 then (2, (0 : Int32), W) else (if (nI (cn 1)) < (10 : Int32) then (0, nI (cn 1), up2 (x6_init (zW W (9, cn 1, 0)) (cn 1) (nI (cn 1)) ho pl fo0) (4, 1, 0) 2 (nI (cn 1 + 1))) else (3, (0 : Int32), W)))))
set_option maxRecDepth 100000 in
set_option maxHeartbeats 4000000 in
theorem k_X7_subscriber (l : Launch) (X : rb_X) (G : rb_G) (W : rb_I) (cn : Nat → Nat) (ag : Nat → Nat → Int32) (hG : xCS G cn ag) (ho : Int32) (pl : Int32) (fo0 : Int32) (hI : xCI W cn) (hm : MS G) : rb_M l X yX7_subscriber (.code yX7_subscriber cX7_subscriber 5 (some .int)) 7 155 12 800 [rbR (0, 0, 0), rbI ho, rbI pl, rbI fo0] (wI G W) (fun v9 G9 => (x7_subscriber W cn ho pl fo0).1 = 0 ∧ v9 = some (rbI (x7_subscriber W cn ho pl fo0).2.1) ∧ ∃ G1 W1, G9 = wI G1 W1 ∧ xq W1 (x7_subscriber W cn ho pl fo0).2.2 ∧ MK G G1 ∧ xCS G1 (bump cn 1) ag) (fun e9 G9 => (x7_subscriber W cn ho pl fo0).1 = xc e9 ∧ G9 = wI G (x7_subscriber W cn ho pl fo0).2.2) := by
  have hc0 : cn 0 ≤ 30 := hI.2.2.2.2.2.2.2.2.1
  have hc1 : cn 1 ≤ 10 := hI.2.2.2.2.2.2.2.2.2.1
  have hc2 : cn 2 ≤ 200 := hI.2.2.2.2.2.2.2.2.2.2.1
  refine rb_startM RX7 rfl (by decide +kernel) rfl (Nat.le_of_ble_eq_true rfl) ?_
  intro Φ C E EX
  show rb_W Φ 0 0 0 [some (rbR (0, 0, 0)), some (rbI ho), some (rbI pl), some (rbI fo0), none] [] (wI G W)
  refine rb_aload_n C dX7_subscriber_0 rfl ?_
  refine rb_iload_n C dX7_subscriber_1 rfl ?_
  refine rb_callV C M_X7_87 (fun l X => k_X7_requireNetwork l X G W cn ag hG ho) rfl (Nat.le_of_ble_eq_true rfl) rfl dX7_subscriber_2 rfl rfl rfl (Nat.le_of_ble_eq_true rfl) ⟨(Nat.le_of_ble_eq_true rfl), (Nat.le_of_ble_eq_true rfl)⟩ (Nat.le_of_ble_eq_true rfl) (Nat.le_of_ble_eq_true rfl) (fun v G' hp => ?_) (fun e9 G' hp => by obtain ⟨rfl, h2, e8⟩ := hp; rw [e8]; exact rb_out C EX (Nat.le_of_ble_eq_true rfl) (Nat.le_of_ble_eq_true rfl) (px_1 ((if_pos h2).trans (rfl))))
  obtain ⟨h2, rfl, e9⟩ := hp
  rw [e9]
  clear e9 G'
  refine rb_aload_n C dX7_subscriber_5 rfl ?_
  refine rb_iload_n C dX7_subscriber_6 rfl ?_
  refine rb_callV C M_X7_126 (fun l X => k_X7_requirePlace l X G W cn ag hG pl) rfl (Nat.le_of_ble_eq_true rfl) rfl dX7_subscriber_7 rfl rfl rfl (Nat.le_of_ble_eq_true rfl) ⟨(Nat.le_of_ble_eq_true rfl), (Nat.le_of_ble_eq_true rfl)⟩ (Nat.le_of_ble_eq_true rfl) (Nat.le_of_ble_eq_true rfl) (fun v G' hp => ?_) (fun e9 G' hp => by obtain ⟨rfl, h7, e8⟩ := hp; rw [e8]; exact rb_out C EX (Nat.le_of_ble_eq_true rfl) (Nat.le_of_ble_eq_true rfl) (px_1 ((if_neg h2).trans ((if_pos h7).trans (rfl)))))
  obtain ⟨h7, rfl, e9⟩ := hp
  rw [e9]
  clear e9 G'
  refine rb_iload_n C dX7_subscriber_10 rfl ?_
  refine rb_iconst C dX7_subscriber_11 (v := 0) (by decide) ?_
  refine rb_bipush C dX7_subscriber_12 (v := 63) (by decide) ?_
  refine rb_callS C M_X7_44 (fun l X => k_X7_requireRange l X G W fo0 (0 : Int32) (63 : Int32)) dX7_subscriber_14 rfl rfl rfl (Nat.le_of_ble_eq_true rfl) ⟨(Nat.le_of_ble_eq_true rfl), (Nat.le_of_ble_eq_true rfl)⟩ (Nat.le_of_ble_eq_true rfl) (Nat.le_of_ble_eq_true rfl) (fun v G' hp => ?_) (fun e9 G' hp => by obtain ⟨rfl, h14, e8⟩ := hp; rw [e8]; exact rb_out C EX (Nat.le_of_ble_eq_true rfl) (Nat.le_of_ble_eq_true rfl) (px_2 ((if_neg h2).trans ((if_neg h7).trans ((if_pos h14).trans (rfl))))))
  obtain ⟨h14, rfl, e9⟩ := hp
  rw [e9]
  clear e9 G'
  refine rb_aload_n C dX7_subscriber_17 rfl ?_
  refine rw_getP C FR_X7_32 dX7_subscriber_18 rfl (o := some (4, 1, 0)) (hG.1 4 (by decide)) ?_
  refine rb_callV C M_X7_48 (fun l X => (k_size l X G W (4, 1, 0) (nI (cn 1)) rfl ((hI.1 1 (by decide)))).m) rfl (Nat.le_of_ble_eq_true rfl) rfl dX7_subscriber_21 rfl rfl rfl (Nat.le_of_ble_eq_true rfl) ⟨(Nat.le_of_ble_eq_true rfl), (Nat.le_of_ble_eq_true rfl)⟩ (Nat.le_of_ble_eq_true rfl) (Nat.le_of_ble_eq_true rfl) (fun v G' hp => ?_) (fun _ _ hp => hp.elim)
  obtain ⟨rfl, e9⟩ := hp
  rw [e9]
  clear e9 G'
  refine rb_bipush C dX7_subscriber_24 (v := 10) (by decide) ?_
  refine rb_callS C M_X7_96 (fun l X => k_X7_requireRoom l X G W (nI (cn 1)) (10 : Int32)) dX7_subscriber_26 rfl rfl rfl (Nat.le_of_ble_eq_true rfl) ⟨(Nat.le_of_ble_eq_true rfl), (Nat.le_of_ble_eq_true rfl)⟩ (Nat.le_of_ble_eq_true rfl) (Nat.le_of_ble_eq_true rfl) (fun v G' hp => ?_) (fun e9 G' hp => by obtain ⟨rfl, h26, e8⟩ := hp; rw [e8]; exact rb_out C EX (Nat.le_of_ble_eq_true rfl) (Nat.le_of_ble_eq_true rfl) (px_3 ((if_neg h2).trans ((if_neg h7).trans ((if_neg h14).trans ((if_neg h26).trans (rfl)))))))
  obtain ⟨h26, rfl, e9⟩ := hp
  rw [e9]
  clear e9 G'
  refine rw_new C (9, cn 1, 0) K_X7_56 dX7_subscriber_29 rfl (hG.2.2.2.2.2.2.2.2.2.2.2.2.2.1 (cn 1) (Nat.le_refl _)) (Nat.le_of_ble_eq_true rfl) (Nat.le_of_ble_eq_true rfl) ?_
  refine rb_dup C dX7_subscriber_32 rfl ?_
  refine rb_aload_n C dX7_subscriber_33 rfl ?_
  refine rw_getP C FR_X7_32 dX7_subscriber_34 rfl (o := some (4, 1, 0)) (((xKeep_new (G := G) (v0 := (9, cn 1, 0)) 9 (by simp)).2.2.1 _ _ (by simp) (by simp) (by simp)).trans (hG.1 4 (by decide))) ?_
  refine rb_callV C M_X7_48 (fun l X => (k_size l X (sN G (9, cn 1, 0) 0) (zW W (9, cn 1, 0)) (4, 1, 0) (nI (cn 1)) rfl ((if_neg (by simp)).trans (hI.1 1 (by decide)))).m) rfl (Nat.le_of_ble_eq_true rfl) rfl dX7_subscriber_37 rfl rfl rfl (Nat.le_of_ble_eq_true rfl) ⟨(Nat.le_of_ble_eq_true rfl), (Nat.le_of_ble_eq_true rfl)⟩ (Nat.le_of_ble_eq_true rfl) (Nat.le_of_ble_eq_true rfl) (fun v G' hp => ?_) (fun _ _ hp => hp.elim)
  obtain ⟨rfl, e9⟩ := hp
  rw [e9]
  clear e9 G'
  refine rb_iload_n C dX7_subscriber_40 rfl ?_
  refine rb_iload_n C dX7_subscriber_41 rfl ?_
  refine rb_iload_n C dX7_subscriber_42 rfl ?_
  refine rb_callI C M_X7_129 (fun l X => k_X6_init l X (sN G (9, cn 1, 0) 0) (zW W (9, cn 1, 0)) (cn 1) (nI (cn 1)) ho pl fo0) dX7_subscriber_43 rfl rfl rfl (Nat.le_of_ble_eq_true rfl) ⟨(Nat.le_of_ble_eq_true rfl), (Nat.le_of_ble_eq_true rfl)⟩ (Nat.le_of_ble_eq_true rfl) (Nat.le_of_ble_eq_true rfl) (fun v G' hp => ?_)
  obtain ⟨rfl, e9⟩ := hp
  rw [e9]
  clear e9 G'
  refine rb_astore C dX7_subscriber_46 (Nat.le_of_ble_eq_true rfl) rfl (Lv' := [_, _, _, _, _]) rfl ?_
  refine rb_aload_n C dX7_subscriber_48 rfl ?_
  refine rw_getP C FR_X7_32 dX7_subscriber_49 rfl (o := some (4, 1, 0)) (((xKeep_new (G := G) (v0 := (9, cn 1, 0)) 9 (by simp)).2.2.1 _ _ (by simp) (by simp) (by simp)).trans (hG.1 4 (by decide))) ?_
  refine rb_aload C dX7_subscriber_52 rfl ?_
  have hw9 : (x6_init (zW W (9, cn 1, 0)) (cn 1) (nI (cn 1)) ho pl fo0) (4, 1, 0) 2 = nI (cn 1) := by
    unfold x6_init zW
    simp only [up2, Prod.mk.injEq]
    simp
    exact hI.1 1 (by decide)
  have hu9 : (x6_init (zW W (9, cn 1, 0)) (cn 1) (nI (cn 1)) ho pl fo0) (9, cn 1, 0) 0 = nI (cn 1) := by
    unfold x6_init zW
    simp only [up2, Prod.mk.injEq]
    simp
  refine rb_add C (W := (x6_init (zW W (9, cn 1, 0)) (cn 1) (nI (cn 1)) ho pl fo0)) (id := 1) (n := cn 1) (ci := 7) (el := (fun j => (9, j, 0))) (v := (9, cn 1, 0)) M_X7_104 dX7_subscriber_54 ((xLS.keep (id' := 1) (xKeep_new 2 (by simp)) (by simp) (by decide) hG.2.2.2.2.2.2.2.1)) hw9 (by omega) rfl (Or.inr (Or.inr ⟨rfl, Or.inr (Or.inl rfl)⟩)) (fun k _ => Or.inr (Or.inl rfl)) (Or.inr hG.2.2.2.2.2.2.2.2.2.2.2.1.1) (Or.inr hG.2.2.2.2.2.2.2.2.2.2.2.1.2) rfl (Nat.le_of_ble_eq_true rfl) (Nat.le_of_ble_eq_true rfl) (Nat.le_of_ble_eq_true rfl) (Nat.le_of_ble_eq_true rfl) (Nat.le_of_ble_eq_true rfl) (fun G1 W1 hR hL => ?_)
  have hK9 : xKeep G G1 1 (xel 1 (cn 1)) := xKeep_of (fun q => by have h9 := (xel_f (id := 1) (n := cn 1)).2; omega) hR
  have hL9 : xLS G1 1 (cn 1 + 1) (xel 1) := by
    rw [← xel_i (n := cn 1) (fun j => (9, j, 0)) (by funext j; rfl)]
    exact hL
  have hC9 : xCS G1 (bump cn 1) ag := xCS_keep (Or.inl (by decide)) hK9 hL9 (hA_same (by decide) hK9 hG) hG
  refine rb_pop C dX7_subscriber_57 rfl ?_
  refine rb_aload C dX7_subscriber_58 rfl ?_
  refine rw_getI C FR_X7_132 dX7_subscriber_60 rfl (x := nI (cn 1)) (((hR.2.2.2 _ _ (by simp) (by simp)).trans (up2_n _ _ _ _ (by simp))).trans hu9) ?_
  have hf9 := show x7_subscriber W cn ho pl fo0 = (0, nI (cn 1), up2 (x6_init (zW W (9, cn 1, 0)) (cn 1) (nI (cn 1)) ho pl fo0) (4, 1, 0) 2 (nI (cn 1 + 1))) from (if_neg h2).trans ((if_neg h7).trans ((if_neg h14).trans ((if_pos h26).trans (rfl))))
  exact rb_iret C E dX7_subscriber_63 (Nat.le_of_ble_eq_true rfl) (Nat.le_of_ble_eq_true rfl) ⟨by rw [hf9], by rw [hf9], G1, W1, rfl, by rw [hf9]; exact xq_of hR, xMK_keep hK9 xel_f hm, hC9⟩

