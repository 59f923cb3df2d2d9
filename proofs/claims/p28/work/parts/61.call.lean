def x7_call (W : rb_I) (cn : Nat → Nat) (s : Int32) (o : Int32) (sec : Int32) : rb_U := (if m_in s 0 (nI (cn 1) - 1) = 0 then (1, (0 : Int32), W) else (if m_in o 0 (nI (cn 1) - 1) = 0 then (1, (0 : Int32), W) else (if s = o then (2, (0 : Int32), W) else (if m_in sec (1 : Int32) ((36000) : Int32) = 0 then (2, (0 : Int32), W) else (if (nI (cn 2)) < (200 : Int32) then (if (x7_whyNotFound W s.toNatClampNeg o.toNatClampNeg) = 0 then (if (x6_wouldComeAboveCap W s.toNatClampNeg (((sec + 59) / 60) * (x7_priceOfCalling W s.toNatClampNeg))) = 0 then (if (x6_wouldComeAboveCap W o.toNatClampNeg (((sec + 59) / 60) * (x7_priceOfBeingCalled W o.toNatClampNeg))) = 0 then (0, (0 : Int32), x7_cW W cn s (((sec + 59) / 60) * (x7_priceOfCalling W s.toNatClampNeg)) o (((sec + 59) / 60) * (x7_priceOfBeingCalled W o.toNatClampNeg))) else (0, (6 : Int32), W)) else (0, (5 : Int32), W)) else (0, (x7_whyNotFound W s.toNatClampNeg o.toNatClampNeg), W)) else (3, (0 : Int32), W))))))
set_option maxRecDepth 100000 in
set_option maxHeartbeats 4000000 in
theorem k_X7_call (l : Launch) (X : rb_X) (G : rb_G) (W : rb_I) (cn : Nat → Nat) (ag : Nat → Nat → Int32) (hG : xCS G cn ag) (s : Int32) (o : Int32) (sec : Int32) (hI : xCI W cn) (hm : MS G) (hr : cn 2 < 200 → ∀ k, k < 36 → cn (10 + k) ≤ 398) : rb_M l X yX7_call (.code yX7_call cX7_call 10 (some .int)) 8 179 12 2200 [rbR (0, 0, 0), rbI s, rbI o, rbI sec] (wI G W) (fun v9 G9 => (x7_call W cn s o sec).1 = 0 ∧ v9 = some (rbI (x7_call W cn s o sec).2.1) ∧ ((¬ (x7_call W cn s o sec).2.1 = 0 ∧ G9 = wI G W) ∨ ((x7_call W cn s o sec).2.1 = 0 ∧ ∃ W1 W2 G3 W3, G9 = wI G3 W3 ∧ xq W1 (x7_call W cn s o sec).2.2 ∧ xq W2 (x7_settle W1 (bump cn 2) s.toNatClampNeg (((sec + 59) / 60) * (x7_priceOfCalling W s.toNatClampNeg)) ((sec + 59) / 60)) ∧ xq W3 (x7_settle W2 (x7_scn W1 (bump cn 2) s.toNatClampNeg (((sec + 59) / 60) * (x7_priceOfCalling W s.toNatClampNeg))) o.toNatClampNeg (((sec + 59) / 60) * (x7_priceOfBeingCalled W o.toNatClampNeg)) ((sec + 59) / 60)) ∧ MK G G3 ∧ xCS G3 (x7_scn W2 (x7_scn W1 (bump cn 2) s.toNatClampNeg (((sec + 59) / 60) * (x7_priceOfCalling W s.toNatClampNeg))) o.toNatClampNeg (((sec + 59) / 60) * (x7_priceOfBeingCalled W o.toNatClampNeg))) (x7_sag W2 (x7_scn W1 (bump cn 2) s.toNatClampNeg (((sec + 59) / 60) * (x7_priceOfCalling W s.toNatClampNeg))) (x7_sag W1 (bump cn 2) ag s.toNatClampNeg (((sec + 59) / 60) * (x7_priceOfCalling W s.toNatClampNeg))) o.toNatClampNeg (((sec + 59) / 60) * (x7_priceOfBeingCalled W o.toNatClampNeg)))))) (fun e9 G9 => (x7_call W cn s o sec).1 = xc e9 ∧ G9 = wI G (x7_call W cn s o sec).2.2) := by
  have hc0 : cn 0 ≤ 30 := hI.2.2.2.2.2.2.2.2.1
  have hc1 : cn 1 ≤ 10 := hI.2.2.2.2.2.2.2.2.2.1
  have hc2 : cn 2 ≤ 200 := hI.2.2.2.2.2.2.2.2.2.2.1
  refine rb_startM RX7 rfl (by decide +kernel) rfl (Nat.le_of_ble_eq_true rfl) ?_
  intro Φ C E EX
  show rb_W Φ 0 0 0 [some (rbR (0, 0, 0)), some (rbI s), some (rbI o), some (rbI sec), none, none, none, none, none, none] [] (wI G W)
  refine rb_aload_n C dX7_call_0 rfl ?_
  refine rb_iload_n C dX7_call_1 rfl ?_
  refine rb_callV C M_X7_135 (fun l X => k_X7_subscriberAt l X G W cn ag hG s ((hI.1 1 (by decide))) hc1) rfl (Nat.le_of_ble_eq_true rfl) rfl dX7_call_2 rfl rfl rfl (Nat.le_of_ble_eq_true rfl) ⟨(Nat.le_of_ble_eq_true rfl), (Nat.le_of_ble_eq_true rfl)⟩ (Nat.le_of_ble_eq_true rfl) (Nat.le_of_ble_eq_true rfl) (fun v G' hp => ?_) (fun e9 G' hp => by obtain ⟨rfl, h2, e8⟩ := hp; rw [e8]; exact rb_out C EX (Nat.le_of_ble_eq_true rfl) (Nat.le_of_ble_eq_true rfl) (px_1 ((if_pos h2).trans (rfl))))
  obtain ⟨h2, rfl, e9⟩ := hp
  rw [e9]
  clear e9 G'
  refine rb_astore C dX7_call_5 (Nat.le_of_ble_eq_true rfl) rfl (Lv' := [_, _, _, _, _, _, _, _, _, _]) rfl ?_
  refine rb_aload_n C dX7_call_7 rfl ?_
  refine rb_iload_n C dX7_call_8 rfl ?_
  refine rb_callV C M_X7_135 (fun l X => k_X7_subscriberAt l X G W cn ag hG o ((hI.1 1 (by decide))) hc1) rfl (Nat.le_of_ble_eq_true rfl) rfl dX7_call_9 rfl rfl rfl (Nat.le_of_ble_eq_true rfl) ⟨(Nat.le_of_ble_eq_true rfl), (Nat.le_of_ble_eq_true rfl)⟩ (Nat.le_of_ble_eq_true rfl) (Nat.le_of_ble_eq_true rfl) (fun v G' hp => ?_) (fun e9 G' hp => by obtain ⟨rfl, h9, e8⟩ := hp; rw [e8]; exact rb_out C EX (Nat.le_of_ble_eq_true rfl) (Nat.le_of_ble_eq_true rfl) (px_1 ((if_neg h2).trans ((if_pos h9).trans (rfl)))))
  obtain ⟨h9, rfl, e9⟩ := hp
  rw [e9]
  clear e9 G'
  refine rb_astore C dX7_call_12 (Nat.le_of_ble_eq_true rfl) rfl (Lv' := [_, _, _, _, _, _, _, _, _, _]) rfl ?_
  refine rb_iload_n C dX7_call_14 rfl ?_
  refine rb_iload_n C dX7_call_15 rfl ?_
  refine rb_callS C M_X7_90 (fun l X => k_X7_requireDifferent l X G W s o) dX7_call_16 rfl rfl rfl (Nat.le_of_ble_eq_true rfl) ⟨(Nat.le_of_ble_eq_true rfl), (Nat.le_of_ble_eq_true rfl)⟩ (Nat.le_of_ble_eq_true rfl) (Nat.le_of_ble_eq_true rfl) (fun v G' hp => ?_) (fun e9 G' hp => by obtain ⟨rfl, h16, e8⟩ := hp; rw [e8]; exact rb_out C EX (Nat.le_of_ble_eq_true rfl) (Nat.le_of_ble_eq_true rfl) (px_2 ((if_neg h2).trans ((if_neg h9).trans ((if_pos h16).trans (rfl))))))
  obtain ⟨h16, rfl, e9⟩ := hp
  rw [e9]
  clear e9 G'
  refine rb_iload_n C dX7_call_19 rfl ?_
  refine rb_iconst C dX7_call_20 (v := 1) (by decide) ?_
  refine rb_ldc C dX7_call_21 N_X7_203 ?_
  refine rb_callS C M_X7_44 (fun l X => k_X7_requireRange l X G W sec (1 : Int32) ((36000) : Int32)) dX7_call_23 rfl rfl rfl (Nat.le_of_ble_eq_true rfl) ⟨(Nat.le_of_ble_eq_true rfl), (Nat.le_of_ble_eq_true rfl)⟩ (Nat.le_of_ble_eq_true rfl) (Nat.le_of_ble_eq_true rfl) (fun v G' hp => ?_) (fun e9 G' hp => by obtain ⟨rfl, h23, e8⟩ := hp; rw [e8]; exact rb_out C EX (Nat.le_of_ble_eq_true rfl) (Nat.le_of_ble_eq_true rfl) (px_2 ((if_neg h2).trans ((if_neg h9).trans ((if_neg h16).trans ((if_pos h23).trans (rfl)))))))
  obtain ⟨h23, rfl, e9⟩ := hp
  rw [e9]
  clear e9 G'
  refine rb_aload_n C dX7_call_26 rfl ?_
  refine rw_getP C FR_X7_35 dX7_call_27 rfl (o := some (4, 2, 0)) (hG.1 5 (by decide)) ?_
  refine rb_callV C M_X7_48 (fun l X => (k_size l X G W (4, 2, 0) (nI (cn 2)) rfl ((hI.1 2 (by decide)))).m) rfl (Nat.le_of_ble_eq_true rfl) rfl dX7_call_30 rfl rfl rfl (Nat.le_of_ble_eq_true rfl) ⟨(Nat.le_of_ble_eq_true rfl), (Nat.le_of_ble_eq_true rfl)⟩ (Nat.le_of_ble_eq_true rfl) (Nat.le_of_ble_eq_true rfl) (fun v G' hp => ?_) (fun _ _ hp => hp.elim)
  obtain ⟨rfl, e9⟩ := hp
  rw [e9]
  clear e9 G'
  refine rb_sipush C dX7_call_33 (v := 200) (by decide) ?_
  refine rb_callS C M_X7_96 (fun l X => k_X7_requireRoom l X G W (nI (cn 2)) (200 : Int32)) dX7_call_36 rfl rfl rfl (Nat.le_of_ble_eq_true rfl) ⟨(Nat.le_of_ble_eq_true rfl), (Nat.le_of_ble_eq_true rfl)⟩ (Nat.le_of_ble_eq_true rfl) (Nat.le_of_ble_eq_true rfl) (fun v G' hp => ?_) (fun e9 G' hp => by obtain ⟨rfl, h36, e8⟩ := hp; rw [e8]; exact rb_out C EX (Nat.le_of_ble_eq_true rfl) (Nat.le_of_ble_eq_true rfl) (px_3 ((if_neg h2).trans ((if_neg h9).trans ((if_neg h16).trans ((if_neg h23).trans ((if_neg h36).trans (rfl))))))))
  obtain ⟨h36, rfl, e9⟩ := hp
  rw [e9]
  clear e9 G'
  refine rb_aload_n C dX7_call_39 rfl ?_
  refine rb_aload C dX7_call_40 rfl ?_
  refine rb_aload C dX7_call_42 rfl ?_
  refine rb_callV C M_X7_204 (fun l X => (k_X7_whyNotFound l X G W cn ag hG s.toNatClampNeg o.toNatClampNeg hI).m) rfl (Nat.le_of_ble_eq_true rfl) rfl dX7_call_44 rfl rfl rfl (Nat.le_of_ble_eq_true rfl) ⟨(Nat.le_of_ble_eq_true rfl), (Nat.le_of_ble_eq_true rfl)⟩ (Nat.le_of_ble_eq_true rfl) (Nat.le_of_ble_eq_true rfl) (fun v G' hp => ?_) (fun _ _ hp => hp.elim)
  obtain ⟨rfl, e9⟩ := hp
  rw [e9]
  clear e9 G'
  refine rb_istore C dX7_call_47 (Nat.le_of_ble_eq_true rfl) rfl (Lv' := [_, _, _, _, _, _, _, _, _, _]) rfl ?_
  refine rb_iload C dX7_call_49 rfl ?_
  refine rb_if_eq C 57 dX7_call_51 (by decide) (fun h51 => ?_) (fun h51 => ?_)
  · refine rb_iload_n C dX7_call_57 rfl ?_
    refine rb_bipush C dX7_call_58 (v := 59) (by decide) ?_
    refine rb_iadd C dX7_call_60 ?_
    refine rb_bipush C dX7_call_61 (v := 60) (by decide) ?_
    refine rb_idiv C dX7_call_63 (by decide) ?_
    refine rb_istore C dX7_call_64 (Nat.le_of_ble_eq_true rfl) rfl (Lv' := [_, _, _, _, _, _, _, _, _, _]) rfl ?_
    refine rb_iload C dX7_call_66 rfl ?_
    refine rb_aload_n C dX7_call_68 rfl ?_
    refine rb_aload C dX7_call_69 rfl ?_
    refine rb_callV C M_X7_208 (fun l X => (k_X7_priceOfCalling l X G W cn ag hG s.toNatClampNeg hI).m) rfl (Nat.le_of_ble_eq_true rfl) rfl dX7_call_71 rfl rfl rfl (Nat.le_of_ble_eq_true rfl) ⟨(Nat.le_of_ble_eq_true rfl), (Nat.le_of_ble_eq_true rfl)⟩ (Nat.le_of_ble_eq_true rfl) (Nat.le_of_ble_eq_true rfl) (fun v G' hp => ?_) (fun _ _ hp => hp.elim)
    obtain ⟨rfl, e9⟩ := hp
    rw [e9]
    clear e9 G'
    refine rb_imul C dX7_call_74 ?_
    refine rb_istore C dX7_call_75 (Nat.le_of_ble_eq_true rfl) rfl (Lv' := [_, _, _, _, _, _, _, _, _, _]) rfl ?_
    refine rb_iload C dX7_call_77 rfl ?_
    refine rb_aload_n C dX7_call_79 rfl ?_
    refine rb_aload C dX7_call_80 rfl ?_
    refine rb_callV C M_X7_212 (fun l X => (k_X7_priceOfBeingCalled l X G W cn ag hG o.toNatClampNeg hI).m) rfl (Nat.le_of_ble_eq_true rfl) rfl dX7_call_82 rfl rfl rfl (Nat.le_of_ble_eq_true rfl) ⟨(Nat.le_of_ble_eq_true rfl), (Nat.le_of_ble_eq_true rfl)⟩ (Nat.le_of_ble_eq_true rfl) (Nat.le_of_ble_eq_true rfl) (fun v G' hp => ?_) (fun _ _ hp => hp.elim)
    obtain ⟨rfl, e9⟩ := hp
    rw [e9]
    clear e9 G'
    refine rb_imul C dX7_call_85 ?_
    refine rb_istore C dX7_call_86 (Nat.le_of_ble_eq_true rfl) rfl (Lv' := [_, _, _, _, _, _, _, _, _, _]) rfl ?_
    refine rb_aload C dX7_call_88 rfl ?_
    refine rb_iload C dX7_call_90 rfl ?_
    refine rb_callV C M_X7_215 (fun l X => (k_X6_wouldComeAboveCap l X G W s.toNatClampNeg (((sec + 59) / 60) * (x7_priceOfCalling W s.toNatClampNeg))).m) rfl (Nat.le_of_ble_eq_true rfl) rfl dX7_call_92 rfl rfl rfl (Nat.le_of_ble_eq_true rfl) ⟨(Nat.le_of_ble_eq_true rfl), (Nat.le_of_ble_eq_true rfl)⟩ (Nat.le_of_ble_eq_true rfl) (Nat.le_of_ble_eq_true rfl) (fun v G' hp => ?_) (fun _ _ hp => hp.elim)
    obtain ⟨rfl, e9⟩ := hp
    rw [e9]
    clear e9 G'
    refine rb_if_eq C 100 dX7_call_95 (by decide) (fun h95 => ?_) (fun h95 => ?_)
    · refine rb_aload C dX7_call_100 rfl ?_
      refine rb_iload C dX7_call_102 rfl ?_
      refine rb_callV C M_X7_215 (fun l X => (k_X6_wouldComeAboveCap l X G W o.toNatClampNeg (((sec + 59) / 60) * (x7_priceOfBeingCalled W o.toNatClampNeg))).m) rfl (Nat.le_of_ble_eq_true rfl) rfl dX7_call_104 rfl rfl rfl (Nat.le_of_ble_eq_true rfl) ⟨(Nat.le_of_ble_eq_true rfl), (Nat.le_of_ble_eq_true rfl)⟩ (Nat.le_of_ble_eq_true rfl) (Nat.le_of_ble_eq_true rfl) (fun v G' hp => ?_) (fun _ _ hp => hp.elim)
      obtain ⟨rfl, e9⟩ := hp
      rw [e9]
      clear e9 G'
      refine rb_if_eq C 113 dX7_call_107 (by decide) (fun h107 => ?_) (fun h107 => ?_)
      · have hb2 : cn 2 < 200 := (nI_ltI (b := 200) (by omega) (by decide)).mp h36
        refine rb_aload_n C dX7_call_113 rfl ?_
        refine rw_getP C FR_X7_35 dX7_call_114 rfl (o := some (4, 2, 0)) (hG.1 5 (by decide)) ?_
        refine rw_new C (11, cn 2, 0) K_X7_218 dX7_call_117 rfl (hG.2.2.2.2.2.2.2.2.2.2.2.2.2.2.1 (cn 2) (Nat.le_refl _)) (Nat.le_of_ble_eq_true rfl) (Nat.le_of_ble_eq_true rfl) ?_
        refine rb_dup C dX7_call_120 rfl ?_
        refine rb_iload_n C dX7_call_121 rfl ?_
        refine rb_iload C dX7_call_122 rfl ?_
        refine rb_iload_n C dX7_call_124 rfl ?_
        refine rb_iload C dX7_call_125 rfl ?_
        refine rb_callI C M_X7_220 (fun l X => k_X3_init l X (sN G (11, cn 2, 0) 0) (zW W (11, cn 2, 0)) (cn 2) s (((sec + 59) / 60) * (x7_priceOfCalling W s.toNatClampNeg)) o (((sec + 59) / 60) * (x7_priceOfBeingCalled W o.toNatClampNeg))) dX7_call_127 rfl rfl rfl (Nat.le_of_ble_eq_true rfl) ⟨(Nat.le_of_ble_eq_true rfl), (Nat.le_of_ble_eq_true rfl)⟩ (Nat.le_of_ble_eq_true rfl) (Nat.le_of_ble_eq_true rfl) (fun v G' hp => ?_)
        obtain ⟨rfl, e9⟩ := hp
        rw [e9]
        clear e9 G'
        have hw9 : (x3_init (zW W (11, cn 2, 0)) (cn 2) s (((sec + 59) / 60) * (x7_priceOfCalling W s.toNatClampNeg)) o (((sec + 59) / 60) * (x7_priceOfBeingCalled W o.toNatClampNeg))) (4, 2, 0) 2 = nI (cn 2) := by
          unfold x3_init zW
          simp only [up2, Prod.mk.injEq]
          simp
          exact hI.1 2 (by decide)
        refine rb_add C (W := (x3_init (zW W (11, cn 2, 0)) (cn 2) s (((sec + 59) / 60) * (x7_priceOfCalling W s.toNatClampNeg)) o (((sec + 59) / 60) * (x7_priceOfBeingCalled W o.toNatClampNeg)))) (id := 2) (n := cn 2) (ci := 4) (el := (fun j => (11, j, 0))) (v := (11, cn 2, 0)) M_X7_104 dX7_call_130 ((xLS.keep (id' := 2) (xKeep_new 3 (by simp)) (by simp) (by decide) hG.2.2.2.2.2.2.2.2.1)) hw9 (by omega) rfl (Or.inr (Or.inr ⟨rfl, Or.inr (Or.inr (Or.inl rfl))⟩)) (fun k _ => Or.inr (Or.inr (Or.inl rfl))) (Or.inr hG.2.2.2.2.2.2.2.2.2.2.2.1.1) (Or.inr hG.2.2.2.2.2.2.2.2.2.2.2.1.2) rfl (Nat.le_of_ble_eq_true rfl) (Nat.le_of_ble_eq_true rfl) (Nat.le_of_ble_eq_true rfl) (Nat.le_of_ble_eq_true rfl) (Nat.le_of_ble_eq_true rfl) (fun G1 W1 hR hL => ?_)
        have hK9 : xKeep G G1 2 (xel 2 (cn 2)) := xKeep_of (fun q => by have h9 := (xel_f (id := 2) (n := cn 2)).2; omega) hR
        have hL9 : xLS G1 2 (cn 2 + 1) (xel 2) := by
          rw [← xel_i (n := cn 2) (fun j => (11, j, 0)) (by funext j; rfl)]
          exact hL
        have hC9 : xCS G1 (bump cn 2) ag := xCS_keep (Or.inl (by decide)) hK9 hL9 (hA_same (by decide) hK9 hG) hG
        have hI1 : xCI W1 (bump cn 2) := ci_xq (xq_of hR) (ci_cW hb2 hI)
        have hm1 : MK G G1 := xMK_keep hK9 xel_f hm
        refine rb_pop C dX7_call_133 rfl ?_
        refine rb_aload_n C dX7_call_134 rfl ?_
        refine rb_aload C dX7_call_135 rfl ?_
        refine rb_iload C dX7_call_137 rfl ?_
        refine rb_iload C dX7_call_139 rfl ?_
        refine rb_callV C M_X7_221 (fun l X => (k_X7_settle l X G1 W1 (bump cn 2) ag hC9 s.toNatClampNeg (((sec + 59) / 60) * (x7_priceOfCalling W s.toNatClampNeg)) ((sec + 59) / 60) hI1 hm1.1).m) rfl (Nat.le_of_ble_eq_true rfl) rfl dX7_call_141 rfl rfl rfl (Nat.le_of_ble_eq_true rfl) ⟨(Nat.le_of_ble_eq_true rfl), (Nat.le_of_ble_eq_true rfl)⟩ (Nat.le_of_ble_eq_true rfl) (Nat.le_of_ble_eq_true rfl) (fun v G' hp => ?_) (fun _ _ hp => hp.elim)
        obtain ⟨rfl, G2, W2, e9, hx2, hm2, hC2⟩ := hp
        rw [e9]
        clear e9 G'
        have hI2 : xCI W2 (x7_scn W1 (bump cn 2) s.toNatClampNeg (((sec + 59) / 60) * (x7_priceOfCalling W s.toNatClampNeg))) := ci_xq hx2 (ci_settle (fun k hk => by rw [bump_n (by omega)]; have := hr hb2 k hk; omega) hI1)
        refine rb_aload_n C dX7_call_144 rfl ?_
        refine rb_aload C dX7_call_145 rfl ?_
        refine rb_iload C dX7_call_147 rfl ?_
        refine rb_iload C dX7_call_149 rfl ?_
        refine rb_callV C M_X7_221 (fun l X => (k_X7_settle l X G2 W2 (x7_scn W1 (bump cn 2) s.toNatClampNeg (((sec + 59) / 60) * (x7_priceOfCalling W s.toNatClampNeg))) (x7_sag W1 (bump cn 2) ag s.toNatClampNeg (((sec + 59) / 60) * (x7_priceOfCalling W s.toNatClampNeg))) hC2 o.toNatClampNeg (((sec + 59) / 60) * (x7_priceOfBeingCalled W o.toNatClampNeg)) ((sec + 59) / 60) hI2 hm2.1).m) rfl (Nat.le_of_ble_eq_true rfl) rfl dX7_call_151 rfl rfl rfl (Nat.le_of_ble_eq_true rfl) ⟨(Nat.le_of_ble_eq_true rfl), (Nat.le_of_ble_eq_true rfl)⟩ (Nat.le_of_ble_eq_true rfl) (Nat.le_of_ble_eq_true rfl) (fun v G' hp => ?_) (fun _ _ hp => hp.elim)
        obtain ⟨rfl, G3, W3, e9, hx3, hm3, hC3⟩ := hp
        rw [e9]
        clear e9 G'
        refine rb_iconst C dX7_call_154 (v := 0) (by decide) ?_
        have hf9 := show x7_call W cn s o sec = (0, (0 : Int32), x7_cW W cn s (((sec + 59) / 60) * (x7_priceOfCalling W s.toNatClampNeg)) o (((sec + 59) / 60) * (x7_priceOfBeingCalled W o.toNatClampNeg))) from (if_neg h2).trans ((if_neg h9).trans ((if_neg h16).trans ((if_neg h23).trans ((if_pos h36).trans ((if_pos h51).trans ((if_pos h95).trans ((if_pos h107).trans (rfl))))))))
        exact rb_iret C E dX7_call_155 (Nat.le_of_ble_eq_true rfl) (Nat.le_of_ble_eq_true rfl) ⟨by rw [hf9], by rw [hf9], Or.inr ⟨by rw [hf9], W1, W2, G3, W3, rfl, by rw [hf9]; exact xq_of hR, hx2, hx3, ⟨hm3.1, hm3.2.trans (hm2.2.trans hm1.2)⟩, hC3⟩⟩
      · refine rb_bipush C dX7_call_110 (v := 6) (by decide) ?_
        have hf9 := (show x7_call W cn s o sec = (0, (6 : Int32), W) from (if_neg h2).trans ((if_neg h9).trans ((if_neg h16).trans ((if_neg h23).trans ((if_pos h36).trans ((if_pos h51).trans ((if_pos h95).trans ((if_neg h107).trans (rfl)))))))))
        exact rb_iret C E dX7_call_112 (Nat.le_of_ble_eq_true rfl) (Nat.le_of_ble_eq_true rfl) ⟨by rw [hf9], by rw [hf9], Or.inl ⟨by rw [hf9]; exact (by decide : ¬ (6 : Int32) = 0), rfl⟩⟩
    · refine rb_iconst C dX7_call_98 (v := 5) (by decide) ?_
      have hf9 := (show x7_call W cn s o sec = (0, (5 : Int32), W) from (if_neg h2).trans ((if_neg h9).trans ((if_neg h16).trans ((if_neg h23).trans ((if_pos h36).trans ((if_pos h51).trans ((if_neg h95).trans (rfl))))))))
      exact rb_iret C E dX7_call_99 (Nat.le_of_ble_eq_true rfl) (Nat.le_of_ble_eq_true rfl) ⟨by rw [hf9], by rw [hf9], Or.inl ⟨by rw [hf9]; exact (by decide : ¬ (5 : Int32) = 0), rfl⟩⟩
  · refine rb_iload C dX7_call_54 rfl ?_
    have hf9 := (show x7_call W cn s o sec = (0, (x7_whyNotFound W s.toNatClampNeg o.toNatClampNeg), W) from (if_neg h2).trans ((if_neg h9).trans ((if_neg h16).trans ((if_neg h23).trans ((if_pos h36).trans ((if_neg h51).trans (rfl)))))))
    exact rb_iret C E dX7_call_56 (Nat.le_of_ble_eq_true rfl) (Nat.le_of_ble_eq_true rfl) ⟨by rw [hf9], by rw [hf9], Or.inl ⟨by rw [hf9]; exact h51, rfl⟩⟩

