def x7_agree (W : rb_I) (cn : Nat → Nat) (ho : Int32) (vi : Int32) (fr0 : Int32) (to0 : Int32) (pr : Int32) (th : Int32) (lw : Int32) : rb_U := (if m_isNetwork ho = 0 then (1, (0 : Int32), W) else (if m_isNetwork vi = 0 then (1, (0 : Int32), W) else (if ho = vi then (2, (0 : Int32), W) else (if m_in fr0 (0 : Int32) ((999999) : Int32) = 0 then (2, (0 : Int32), W) else (if m_in to0 (fr0 + 1) ((1000000) : Int32) = 0 then (2, (0 : Int32), W) else (if m_in pr (0 : Int32) (99 : Int32) = 0 then (2, (0 : Int32), W) else (if m_in th (0 : Int32) (9999 : Int32) = 0 then (2, (0 : Int32), W) else (if m_in lw (0 : Int32) pr = 0 then (2, (0 : Int32), W) else (if (nI (cn 0)) < (30 : Int32) then (0, nI (cn 0 + 1), up2 (x1_init (zW W (10, cn 0, 0)) (cn 0) ho vi fr0 to0 pr th lw) (4, 0, 0) 2 (nI (cn 0 + 1))) else (3, (0 : Int32), W))))))))))
set_option maxRecDepth 100000 in
set_option maxHeartbeats 4000000 in
theorem k_X7_agree (l : Launch) (X : rb_X) (G : rb_G) (W : rb_I) (cn : Nat → Nat) (ag : Nat → Nat → Int32) (hG : xCS G cn ag) (ho : Int32) (vi : Int32) (fr0 : Int32) (to0 : Int32) (pr : Int32) (th : Int32) (lw : Int32) (hI : xCI W cn) (hm : MS G) : rb_M l X yX7_agree (.code yX7_agree cX7_agree 8 (some .int)) 7 155 12 800 [rbR (0, 0, 0), rbI ho, rbI vi, rbI fr0, rbI to0, rbI pr, rbI th, rbI lw] (wI G W) (fun v9 G9 => (x7_agree W cn ho vi fr0 to0 pr th lw).1 = 0 ∧ v9 = some (rbI (x7_agree W cn ho vi fr0 to0 pr th lw).2.1) ∧ ∃ G1 W1, G9 = wI G1 W1 ∧ xq W1 (x7_agree W cn ho vi fr0 to0 pr th lw).2.2 ∧ MK G G1 ∧ xCS G1 (bump cn 0) ag) (fun e9 G9 => (x7_agree W cn ho vi fr0 to0 pr th lw).1 = xc e9 ∧ G9 = wI G (x7_agree W cn ho vi fr0 to0 pr th lw).2.2) := by
  have hc0 : cn 0 ≤ 30 := hI.2.2.2.2.2.2.2.2.1
  have hc1 : cn 1 ≤ 10 := hI.2.2.2.2.2.2.2.2.2.1
  have hc2 : cn 2 ≤ 200 := hI.2.2.2.2.2.2.2.2.2.2.1
  refine rb_startM RX7 rfl (by decide +kernel) rfl (Nat.le_of_ble_eq_true rfl) ?_
  intro Φ C E EX
  show rb_W Φ 0 0 0 [some (rbR (0, 0, 0)), some (rbI ho), some (rbI vi), some (rbI fr0), some (rbI to0), some (rbI pr), some (rbI th), some (rbI lw)] [] (wI G W)
  refine rb_aload_n C dX7_agree_0 rfl ?_
  refine rb_iload_n C dX7_agree_1 rfl ?_
  refine rb_callV C M_X7_87 (fun l X => k_X7_requireNetwork l X G W cn ag hG ho) rfl (Nat.le_of_ble_eq_true rfl) rfl dX7_agree_2 rfl rfl rfl (Nat.le_of_ble_eq_true rfl) ⟨(Nat.le_of_ble_eq_true rfl), (Nat.le_of_ble_eq_true rfl)⟩ (Nat.le_of_ble_eq_true rfl) (Nat.le_of_ble_eq_true rfl) (fun v G' hp => ?_) (fun e9 G' hp => by obtain ⟨rfl, h2, e8⟩ := hp; rw [e8]; exact rb_out C EX (Nat.le_of_ble_eq_true rfl) (Nat.le_of_ble_eq_true rfl) (px_1 ((if_pos h2).trans (rfl))))
  obtain ⟨h2, rfl, e9⟩ := hp
  rw [e9]
  clear e9 G'
  refine rb_aload_n C dX7_agree_5 rfl ?_
  refine rb_iload_n C dX7_agree_6 rfl ?_
  refine rb_callV C M_X7_87 (fun l X => k_X7_requireNetwork l X G W cn ag hG vi) rfl (Nat.le_of_ble_eq_true rfl) rfl dX7_agree_7 rfl rfl rfl (Nat.le_of_ble_eq_true rfl) ⟨(Nat.le_of_ble_eq_true rfl), (Nat.le_of_ble_eq_true rfl)⟩ (Nat.le_of_ble_eq_true rfl) (Nat.le_of_ble_eq_true rfl) (fun v G' hp => ?_) (fun e9 G' hp => by obtain ⟨rfl, h7, e8⟩ := hp; rw [e8]; exact rb_out C EX (Nat.le_of_ble_eq_true rfl) (Nat.le_of_ble_eq_true rfl) (px_1 ((if_neg h2).trans ((if_pos h7).trans (rfl)))))
  obtain ⟨h7, rfl, e9⟩ := hp
  rw [e9]
  clear e9 G'
  refine rb_iload_n C dX7_agree_10 rfl ?_
  refine rb_iload_n C dX7_agree_11 rfl ?_
  refine rb_callS C M_X7_90 (fun l X => k_X7_requireDifferent l X G W ho vi) dX7_agree_12 rfl rfl rfl (Nat.le_of_ble_eq_true rfl) ⟨(Nat.le_of_ble_eq_true rfl), (Nat.le_of_ble_eq_true rfl)⟩ (Nat.le_of_ble_eq_true rfl) (Nat.le_of_ble_eq_true rfl) (fun v G' hp => ?_) (fun e9 G' hp => by obtain ⟨rfl, h12, e8⟩ := hp; rw [e8]; exact rb_out C EX (Nat.le_of_ble_eq_true rfl) (Nat.le_of_ble_eq_true rfl) (px_2 ((if_neg h2).trans ((if_neg h7).trans ((if_pos h12).trans (rfl))))))
  obtain ⟨h12, rfl, e9⟩ := hp
  rw [e9]
  clear e9 G'
  refine rb_iload_n C dX7_agree_15 rfl ?_
  refine rb_iconst C dX7_agree_16 (v := 0) (by decide) ?_
  refine rb_ldc C dX7_agree_17 N_X7_94 ?_
  refine rb_callS C M_X7_44 (fun l X => k_X7_requireRange l X G W fr0 (0 : Int32) ((999999) : Int32)) dX7_agree_19 rfl rfl rfl (Nat.le_of_ble_eq_true rfl) ⟨(Nat.le_of_ble_eq_true rfl), (Nat.le_of_ble_eq_true rfl)⟩ (Nat.le_of_ble_eq_true rfl) (Nat.le_of_ble_eq_true rfl) (fun v G' hp => ?_) (fun e9 G' hp => by obtain ⟨rfl, h19, e8⟩ := hp; rw [e8]; exact rb_out C EX (Nat.le_of_ble_eq_true rfl) (Nat.le_of_ble_eq_true rfl) (px_2 ((if_neg h2).trans ((if_neg h7).trans ((if_neg h12).trans ((if_pos h19).trans (rfl)))))))
  obtain ⟨h19, rfl, e9⟩ := hp
  rw [e9]
  clear e9 G'
  refine rb_iload C dX7_agree_22 rfl ?_
  refine rb_iload_n C dX7_agree_24 rfl ?_
  refine rb_iconst C dX7_agree_25 (v := 1) (by decide) ?_
  refine rb_iadd C dX7_agree_26 ?_
  refine rb_ldc C dX7_agree_27 N_X7_95 ?_
  refine rb_callS C M_X7_44 (fun l X => k_X7_requireRange l X G W to0 (fr0 + 1) ((1000000) : Int32)) dX7_agree_29 rfl rfl rfl (Nat.le_of_ble_eq_true rfl) ⟨(Nat.le_of_ble_eq_true rfl), (Nat.le_of_ble_eq_true rfl)⟩ (Nat.le_of_ble_eq_true rfl) (Nat.le_of_ble_eq_true rfl) (fun v G' hp => ?_) (fun e9 G' hp => by obtain ⟨rfl, h29, e8⟩ := hp; rw [e8]; exact rb_out C EX (Nat.le_of_ble_eq_true rfl) (Nat.le_of_ble_eq_true rfl) (px_2 ((if_neg h2).trans ((if_neg h7).trans ((if_neg h12).trans ((if_neg h19).trans ((if_pos h29).trans (rfl))))))))
  obtain ⟨h29, rfl, e9⟩ := hp
  rw [e9]
  clear e9 G'
  refine rb_iload C dX7_agree_32 rfl ?_
  refine rb_iconst C dX7_agree_34 (v := 0) (by decide) ?_
  refine rb_bipush C dX7_agree_35 (v := 99) (by decide) ?_
  refine rb_callS C M_X7_44 (fun l X => k_X7_requireRange l X G W pr (0 : Int32) (99 : Int32)) dX7_agree_37 rfl rfl rfl (Nat.le_of_ble_eq_true rfl) ⟨(Nat.le_of_ble_eq_true rfl), (Nat.le_of_ble_eq_true rfl)⟩ (Nat.le_of_ble_eq_true rfl) (Nat.le_of_ble_eq_true rfl) (fun v G' hp => ?_) (fun e9 G' hp => by obtain ⟨rfl, h37, e8⟩ := hp; rw [e8]; exact rb_out C EX (Nat.le_of_ble_eq_true rfl) (Nat.le_of_ble_eq_true rfl) (px_2 ((if_neg h2).trans ((if_neg h7).trans ((if_neg h12).trans ((if_neg h19).trans ((if_neg h29).trans ((if_pos h37).trans (rfl)))))))))
  obtain ⟨h37, rfl, e9⟩ := hp
  rw [e9]
  clear e9 G'
  refine rb_iload C dX7_agree_40 rfl ?_
  refine rb_iconst C dX7_agree_42 (v := 0) (by decide) ?_
  refine rb_sipush C dX7_agree_43 (v := 9999) (by decide) ?_
  refine rb_callS C M_X7_44 (fun l X => k_X7_requireRange l X G W th (0 : Int32) (9999 : Int32)) dX7_agree_46 rfl rfl rfl (Nat.le_of_ble_eq_true rfl) ⟨(Nat.le_of_ble_eq_true rfl), (Nat.le_of_ble_eq_true rfl)⟩ (Nat.le_of_ble_eq_true rfl) (Nat.le_of_ble_eq_true rfl) (fun v G' hp => ?_) (fun e9 G' hp => by obtain ⟨rfl, h46, e8⟩ := hp; rw [e8]; exact rb_out C EX (Nat.le_of_ble_eq_true rfl) (Nat.le_of_ble_eq_true rfl) (px_2 ((if_neg h2).trans ((if_neg h7).trans ((if_neg h12).trans ((if_neg h19).trans ((if_neg h29).trans ((if_neg h37).trans ((if_pos h46).trans (rfl))))))))))
  obtain ⟨h46, rfl, e9⟩ := hp
  rw [e9]
  clear e9 G'
  refine rb_iload C dX7_agree_49 rfl ?_
  refine rb_iconst C dX7_agree_51 (v := 0) (by decide) ?_
  refine rb_iload C dX7_agree_52 rfl ?_
  refine rb_callS C M_X7_44 (fun l X => k_X7_requireRange l X G W lw (0 : Int32) pr) dX7_agree_54 rfl rfl rfl (Nat.le_of_ble_eq_true rfl) ⟨(Nat.le_of_ble_eq_true rfl), (Nat.le_of_ble_eq_true rfl)⟩ (Nat.le_of_ble_eq_true rfl) (Nat.le_of_ble_eq_true rfl) (fun v G' hp => ?_) (fun e9 G' hp => by obtain ⟨rfl, h54, e8⟩ := hp; rw [e8]; exact rb_out C EX (Nat.le_of_ble_eq_true rfl) (Nat.le_of_ble_eq_true rfl) (px_2 ((if_neg h2).trans ((if_neg h7).trans ((if_neg h12).trans ((if_neg h19).trans ((if_neg h29).trans ((if_neg h37).trans ((if_neg h46).trans ((if_pos h54).trans (rfl)))))))))))
  obtain ⟨h54, rfl, e9⟩ := hp
  rw [e9]
  clear e9 G'
  refine rb_aload_n C dX7_agree_57 rfl ?_
  refine rw_getP C FR_X7_28 dX7_agree_58 rfl (o := some (4, 0, 0)) (hG.1 3 (by decide)) ?_
  refine rb_callV C M_X7_48 (fun l X => (k_size l X G W (4, 0, 0) (nI (cn 0)) rfl ((hI.1 0 (by decide)))).m) rfl (Nat.le_of_ble_eq_true rfl) rfl dX7_agree_61 rfl rfl rfl (Nat.le_of_ble_eq_true rfl) ⟨(Nat.le_of_ble_eq_true rfl), (Nat.le_of_ble_eq_true rfl)⟩ (Nat.le_of_ble_eq_true rfl) (Nat.le_of_ble_eq_true rfl) (fun v G' hp => ?_) (fun _ _ hp => hp.elim)
  obtain ⟨rfl, e9⟩ := hp
  rw [e9]
  clear e9 G'
  refine rb_bipush C dX7_agree_64 (v := 30) (by decide) ?_
  refine rb_callS C M_X7_96 (fun l X => k_X7_requireRoom l X G W (nI (cn 0)) (30 : Int32)) dX7_agree_66 rfl rfl rfl (Nat.le_of_ble_eq_true rfl) ⟨(Nat.le_of_ble_eq_true rfl), (Nat.le_of_ble_eq_true rfl)⟩ (Nat.le_of_ble_eq_true rfl) (Nat.le_of_ble_eq_true rfl) (fun v G' hp => ?_) (fun e9 G' hp => by obtain ⟨rfl, h66, e8⟩ := hp; rw [e8]; exact rb_out C EX (Nat.le_of_ble_eq_true rfl) (Nat.le_of_ble_eq_true rfl) (px_3 ((if_neg h2).trans ((if_neg h7).trans ((if_neg h12).trans ((if_neg h19).trans ((if_neg h29).trans ((if_neg h37).trans ((if_neg h46).trans ((if_neg h54).trans ((if_neg h66).trans (rfl))))))))))))
  obtain ⟨h66, rfl, e9⟩ := hp
  rw [e9]
  clear e9 G'
  refine rb_aload_n C dX7_agree_69 rfl ?_
  refine rw_getP C FR_X7_28 dX7_agree_70 rfl (o := some (4, 0, 0)) (hG.1 3 (by decide)) ?_
  refine rw_new C (10, cn 0, 0) K_X7_99 dX7_agree_73 rfl (hG.2.2.2.2.2.2.2.2.2.2.2.2.1 (cn 0) (Nat.le_refl _)) (Nat.le_of_ble_eq_true rfl) (Nat.le_of_ble_eq_true rfl) ?_
  refine rb_dup C dX7_agree_76 rfl ?_
  refine rb_iload_n C dX7_agree_77 rfl ?_
  refine rb_iload_n C dX7_agree_78 rfl ?_
  refine rb_iload_n C dX7_agree_79 rfl ?_
  refine rb_iload C dX7_agree_80 rfl ?_
  refine rb_iload C dX7_agree_82 rfl ?_
  refine rb_iload C dX7_agree_84 rfl ?_
  refine rb_iload C dX7_agree_86 rfl ?_
  refine rb_callI C M_X7_101 (fun l X => k_X1_init l X (sN G (10, cn 0, 0) 0) (zW W (10, cn 0, 0)) (cn 0) ho vi fr0 to0 pr th lw) dX7_agree_88 rfl rfl rfl (Nat.le_of_ble_eq_true rfl) ⟨(Nat.le_of_ble_eq_true rfl), (Nat.le_of_ble_eq_true rfl)⟩ (Nat.le_of_ble_eq_true rfl) (Nat.le_of_ble_eq_true rfl) (fun v G' hp => ?_)
  obtain ⟨rfl, e9⟩ := hp
  rw [e9]
  clear e9 G'
  have hw9 : (x1_init (zW W (10, cn 0, 0)) (cn 0) ho vi fr0 to0 pr th lw) (4, 0, 0) 2 = nI (cn 0) := by
    unfold x1_init zW
    simp only [up2, Prod.mk.injEq]
    simp
    exact hI.1 0 (by decide)
  refine rb_add C (W := (x1_init (zW W (10, cn 0, 0)) (cn 0) ho vi fr0 to0 pr th lw)) (id := 0) (n := cn 0) (ci := 2) (el := (fun j => (10, j, 0))) (v := (10, cn 0, 0)) M_X7_104 dX7_agree_91 ((xLS.keep (id' := 0) (xKeep_new 1 (by simp)) (by simp) (by decide) hG.2.2.2.2.2.2.1)) hw9 (by omega) rfl (Or.inr (Or.inr ⟨rfl, Or.inl rfl⟩)) (fun k _ => Or.inl rfl) (Or.inr hG.2.2.2.2.2.2.2.2.2.2.2.1.1) (Or.inr hG.2.2.2.2.2.2.2.2.2.2.2.1.2) rfl (Nat.le_of_ble_eq_true rfl) (Nat.le_of_ble_eq_true rfl) (Nat.le_of_ble_eq_true rfl) (Nat.le_of_ble_eq_true rfl) (Nat.le_of_ble_eq_true rfl) (fun G1 W1 hR hL => ?_)
  have hK9 : xKeep G G1 0 (xel 0 (cn 0)) := xKeep_of (fun q => by have h9 := (xel_f (id := 0) (n := cn 0)).2; omega) hR
  have hL9 : xLS G1 0 (cn 0 + 1) (xel 0) := by
    rw [← xel_i (n := cn 0) (fun j => (10, j, 0)) (by funext j; rfl)]
    exact hL
  have hC9 : xCS G1 (bump cn 0) ag := xCS_keep (Or.inl (by decide)) hK9 hL9 (hA_same (by decide) hK9 hG) hG
  refine rb_pop C dX7_agree_94 rfl ?_
  refine rb_aload_n C dX7_agree_95 rfl ?_
  refine rw_getP C FR_X7_28 dX7_agree_96 rfl (o := some (4, 0, 0)) (hC9.1 3 (by decide)) ?_
  refine rb_callV C M_X7_48 (fun l X => (k_size l X G1 W1 (4, 0, 0) (nI (cn 0 + 1)) rfl ((hR.2.2.2 _ _ (by simp) (by simp)).trans (up2_s _ _ _ _))).m) rfl (Nat.le_of_ble_eq_true rfl) rfl dX7_agree_99 rfl rfl rfl (Nat.le_of_ble_eq_true rfl) ⟨(Nat.le_of_ble_eq_true rfl), (Nat.le_of_ble_eq_true rfl)⟩ (Nat.le_of_ble_eq_true rfl) (Nat.le_of_ble_eq_true rfl) (fun v G' hp => ?_) (fun _ _ hp => hp.elim)
  obtain ⟨rfl, e9⟩ := hp
  rw [e9]
  clear e9 G'
  have hf9 := show x7_agree W cn ho vi fr0 to0 pr th lw = (0, nI (cn 0 + 1), up2 (x1_init (zW W (10, cn 0, 0)) (cn 0) ho vi fr0 to0 pr th lw) (4, 0, 0) 2 (nI (cn 0 + 1))) from (if_neg h2).trans ((if_neg h7).trans ((if_neg h12).trans ((if_neg h19).trans ((if_neg h29).trans ((if_neg h37).trans ((if_neg h46).trans ((if_neg h54).trans ((if_pos h66).trans (rfl)))))))))
  exact rb_iret C E dX7_agree_102 (Nat.le_of_ble_eq_true rfl) (Nat.le_of_ble_eq_true rfl) ⟨by rw [hf9], by rw [hf9], G1, W1, rfl, by rw [hf9]; exact xq_of hR, xMK_keep hK9 xel_f hm, hC9⟩

