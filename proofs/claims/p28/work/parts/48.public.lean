def x7_em_b (W : rb_I) (u : Int32) : Nat → Nat → rb_U
  | 0, _ => (0, (-1), W)
  | d + 1, i => (if (x7_isIn (W (1, 0, 0) (W (9, u.toNatClampNeg, 0) 3).toNatClampNeg) (nI i)) = 0 then (x7_em_b W u d (i + 1)) else (if (W (5, i, 0) 1) = 0 then (0, (nI i), W) else (x7_em_b W u d (i + 1))))
def x7_emergency (W : rb_I) (cn : Nat → Nat) (u : Int32) : rb_U := (if m_in u 0 (nI (cn 1) - 1) = 0 then (1, (0 : Int32), W) else (if (W (9, u.toNatClampNeg, 0) 4) = (-1) then (x7_em_b W u 6 0) else (0, (W (9, u.toNatClampNeg, 0) 4), W)))
set_option maxRecDepth 100000 in
set_option maxHeartbeats 4000000 in
theorem k_X7_emergency (l : Launch) (X : rb_X) (G : rb_G) (W : rb_I) (cn : Nat → Nat) (ag : Nat → Nat → Int32) (hG : xCS G cn ag) (u : Int32) (hI : xCI W cn) : rb_M l X yX7_emergency (.code yX7_emergency cX7_emergency 5 (some .int)) 7 111 12 72 [rbR (0, 0, 0), rbI u] (wI G W) (fun v9 G9 => (x7_emergency W cn u).1 = 0 ∧ v9 = some (rbI (x7_emergency W cn u).2.1) ∧ G9 = wI G (x7_emergency W cn u).2.2) (fun e9 G9 => (x7_emergency W cn u).1 = xc e9 ∧ G9 = wI G (x7_emergency W cn u).2.2) := by
  have hc0 : cn 0 ≤ 30 := hI.2.2.2.2.2.2.2.2.1
  have hc1 : cn 1 ≤ 10 := hI.2.2.2.2.2.2.2.2.2.1
  have hc2 : cn 2 ≤ 200 := hI.2.2.2.2.2.2.2.2.2.2.1
  refine rb_startM RX7 rfl (by decide +kernel) rfl (Nat.le_of_ble_eq_true rfl) ?_
  intro Φ C E EX
  show rb_W Φ 0 0 0 [some (rbR (0, 0, 0)), some (rbI u), none, none, none] [] (wI G W)
  refine rb_aload_n C dX7_emergency_0 rfl ?_
  refine rb_iload_n C dX7_emergency_1 rfl ?_
  refine rb_callV C M_X7_135 (fun l X => k_X7_subscriberAt l X G W cn ag hG u ((hI.1 1 (by decide))) hc1) rfl (Nat.le_of_ble_eq_true rfl) rfl dX7_emergency_2 rfl rfl rfl (Nat.le_of_ble_eq_true rfl) ⟨(Nat.le_of_ble_eq_true rfl), (Nat.le_of_ble_eq_true rfl)⟩ (Nat.le_of_ble_eq_true rfl) (Nat.le_of_ble_eq_true rfl) (fun v G' hp => ?_) (fun e9 G' hp => by obtain ⟨rfl, h2, e8⟩ := hp; rw [e8]; exact rb_out C EX (Nat.le_of_ble_eq_true rfl) (Nat.le_of_ble_eq_true rfl) (px_1 ((if_pos h2).trans (rfl))))
  obtain ⟨h2, rfl, e9⟩ := hp
  rw [e9]
  clear e9 G'
  refine rb_astore_n C dX7_emergency_5 (Nat.le_of_ble_eq_true rfl) rfl (Lv' := [_, _, _, _, _]) rfl ?_
  refine rb_aload_n C dX7_emergency_6 rfl ?_
  refine rw_getI C FR_X7_142 dX7_emergency_7 rfl (x := (W (9, u.toNatClampNeg, 0) 4)) (rfl) ?_
  refine rb_iconst C dX7_emergency_10 (v := (-1)) (by decide) ?_
  refine rb_icmp_eq C 19 dX7_emergency_11 (by decide) (fun h11 => ?_) (fun h11 => ?_)
  · refine rb_aload_n C dX7_emergency_19 rfl ?_
    refine rb_aload_n C dX7_emergency_20 rfl ?_
    refine rw_getI C FR_X7_58 dX7_emergency_21 rfl (x := (W (9, u.toNatClampNeg, 0) 3)) (rfl) ?_
    refine rb_callV C M_X7_40 (fun l X => (k_X7_receivedAt_v l X G W cn ag hG (W (9, u.toNatClampNeg, 0) 3) (hI.2.2.1 u.toNatClampNeg)).m) rfl (Nat.le_of_ble_eq_true rfl) rfl dX7_emergency_24 rfl rfl rfl (Nat.le_of_ble_eq_true rfl) ⟨(Nat.le_of_ble_eq_true rfl), (Nat.le_of_ble_eq_true rfl)⟩ (Nat.le_of_ble_eq_true rfl) (Nat.le_of_ble_eq_true rfl) (fun v G' hp => ?_) (fun _ _ hp => hp.elim)
    obtain ⟨rfl, e9⟩ := hp
    rw [e9]
    clear e9 G'
    refine rb_istore_n C dX7_emergency_27 (Nat.le_of_ble_eq_true rfl) rfl (Lv' := [_, _, _, _, _]) rfl ?_
    refine rb_iconst C dX7_emergency_28 (v := 0) (by decide) ?_
    refine rb_istore C dX7_emergency_29 (Nat.le_of_ble_eq_true rfl) rfl (Lv' := [_, _, _, _, _]) rfl ?_
    have loop : ∀ (d i : Nat), i + d = 6 → (x7_emergency W cn u) = x7_em_b W u d i → rb_W Φ 1 6 31 [some (rbR (0, 0, 0)), some (rbI u), some (rbR (9, u.toNatClampNeg, 0)), some (rbI (W (1, 0, 0) (W (9, u.toNatClampNeg, 0) 3).toNatClampNeg)), some (rbI (nI i))] [] (wI G W) := by
      intro d
      induction d with
      | zero =>
        intro i hi hq
        obtain rfl : i = 6 := by omega
        refine rb_iload C dX7_emergency_31 rfl ?_
        refine rb_aload_n C dX7_emergency_33 rfl ?_
        refine rw_getP C FR_X7_15 dX7_emergency_34 rfl (o := some (2, 0, 0)) (hG.1 1 (by decide)) ?_
        refine rw_alen C (x := 6) 6 dX7_emergency_37 rfl (by first | exact Or.inl rfl | exact Or.inr (Nat.le_of_ble_eq_true rfl)) (Nat.le_of_ble_eq_true rfl) hG.2.2.2.1.2.1 rfl ?_
        refine rb_icmp_ge C 72 dX7_emergency_38 (by decide) (fun _ => ?_) (fun h9 => absurd ((nI_le (a := 6) (b := 6) (Nat.le_refl _) (by decide))) h9)
        refine rb_iconst C dX7_emergency_72 (v := (-1)) (by decide) ?_
        exact rb_iret C E dX7_emergency_73 (Nat.le_of_ble_eq_true rfl) (Nat.le_of_ble_eq_true rfl) (pt_ (hq.trans (rfl)))
      | succ d ih =>
        intro i hi hq
        have hi9 : i < 6 := by omega
        refine rb_iload C dX7_emergency_31 rfl ?_
        refine rb_aload_n C dX7_emergency_33 rfl ?_
        refine rw_getP C FR_X7_15 dX7_emergency_34 rfl (o := some (2, 0, 0)) (hG.1 1 (by decide)) ?_
        refine rw_alen C (x := 6) 6 dX7_emergency_37 rfl (by first | exact Or.inl rfl | exact Or.inr (Nat.le_of_ble_eq_true rfl)) (Nat.le_of_ble_eq_true rfl) hG.2.2.2.1.2.1 rfl ?_
        refine rb_icmp_ge C 72 dX7_emergency_38 (by decide) (fun h9 => absurd h9 ((nI_ge (a := i) (b := 6) hi9 (by decide)))) (fun _ => ?_)
        refine rb_iload_n C dX7_emergency_41 rfl ?_
        refine rb_iload C dX7_emergency_42 rfl ?_
        refine rb_callS C M_X7_167 (fun l X => (k_X7_isIn l X G W (W (1, 0, 0) (W (9, u.toNatClampNeg, 0) 3).toNatClampNeg) (nI i)).m) dX7_emergency_44 rfl rfl rfl (Nat.le_of_ble_eq_true rfl) ⟨(Nat.le_of_ble_eq_true rfl), (Nat.le_of_ble_eq_true rfl)⟩ (Nat.le_of_ble_eq_true rfl) (Nat.le_of_ble_eq_true rfl) (fun v G' hp => ?_) (fun _ _ hp => hp.elim)
        obtain ⟨rfl, e9⟩ := hp
        rw [e9]
        clear e9 G'
        refine rb_if_eq C 66 dX7_emergency_47 (by decide) (fun h47 => ?_) (fun h47 => ?_)
        · refine rb_iinc C dX7_emergency_66 rfl (v := _ + 1) rfl rfl (Lv' := [_, _, _, _, _]) rfl ?_
          refine rb_goto C 31 dX7_emergency_69 (by decide) ?_
          rw [nI_1 i]
          exact ih (i + 1) (by omega) (hq.trans ((if_pos h47).trans (rfl)))
        · refine rb_aload_n C dX7_emergency_50 rfl ?_
          refine rw_getP C FR_X7_15 dX7_emergency_51 rfl (o := some (2, 0, 0)) (hG.1 1 (by decide)) ?_
          refine rb_iload C dX7_emergency_54 rfl ?_
          refine rw_aald C 6 i dX7_emergency_56 rfl (Nat.le_of_ble_eq_true rfl) (Nat.le_of_ble_eq_true rfl) hG.2.2.2.1.2.1 (vp_in_nI (show i < 6 by omega) (by decide)) (nI_clamp (show i < 2 ^ 31 by omega)) (o := some (5, i, 0)) (hG.2.1 i hi9) ?_
          refine rw_getI C FR_X7_70 dX7_emergency_57 rfl (x := (W (5, i, 0) 1)) (rfl) ?_
          refine rb_if_ne C 66 dX7_emergency_60 (by decide) (fun h60 => ?_) (fun h60 => ?_)
          · refine rb_iinc C dX7_emergency_66 rfl (v := _ + 1) rfl rfl (Lv' := [_, _, _, _, _]) rfl ?_
            refine rb_goto C 31 dX7_emergency_69 (by decide) ?_
            rw [nI_1 i]
            exact ih (i + 1) (by omega) (hq.trans ((if_neg h47).trans ((if_neg h60).trans (rfl))))
          · refine rb_iload C dX7_emergency_63 rfl ?_
            exact rb_iret C E dX7_emergency_65 (Nat.le_of_ble_eq_true rfl) (Nat.le_of_ble_eq_true rfl) (pt_ (hq.trans ((if_neg h47).trans ((if_pos h60).trans (rfl)))))
    exact loop 6 0 (Nat.zero_add _) ((if_neg h2).trans ((if_pos h11).trans (rfl)))
  · refine rb_aload_n C dX7_emergency_14 rfl ?_
    refine rw_getI C FR_X7_142 dX7_emergency_15 rfl (x := (W (9, u.toNatClampNeg, 0) 4)) (rfl) ?_
    exact rb_iret C E dX7_emergency_18 (Nat.le_of_ble_eq_true rfl) (Nat.le_of_ble_eq_true rfl) (pt_ ((if_neg h2).trans ((if_neg h11).trans (rfl))))

def x7_ag_b (W : rb_I) (u : Int32) : Nat → Nat → rb_U
  | 0, _ => (if (W (9, u.toNatClampNeg, 0) 4) = (-1) then (0, 1, W) else (if (W (9, u.toNatClampNeg, 0) 5) = (W (9, u.toNatClampNeg, 0) 4) then (0, 1, W) else (0, 0, W)))
  | d + 1, i => (if (nI i) = (W (9, u.toNatClampNeg, 0) 4) then (if (x2_has W i (W (9, u.toNatClampNeg, 0) 0)) = 1 then (x7_ag_b W u d (i + 1)) else (0, 0, W)) else (if (x2_has W i (W (9, u.toNatClampNeg, 0) 0)) = 0 then (x7_ag_b W u d (i + 1)) else (0, 0, W)))
def x7_agrees (W : rb_I) (cn : Nat → Nat) (u : Int32) : rb_U := (if m_in u 0 (nI (cn 1) - 1) = 0 then (1, (0 : Int32), W) else (x7_ag_b W u 6 0))
set_option maxRecDepth 100000 in
set_option maxHeartbeats 4000000 in
theorem k_X7_agrees (l : Launch) (X : rb_X) (G : rb_G) (W : rb_I) (cn : Nat → Nat) (ag : Nat → Nat → Int32) (hG : xCS G cn ag) (u : Int32) (hI : xCI W cn) : rb_M l X yX7_agrees (.code yX7_agrees cX7_agrees 4 (some .boolean)) 7 111 12 72 [rbR (0, 0, 0), rbI u] (wI G W) (fun v9 G9 => (x7_agrees W cn u).1 = 0 ∧ v9 = some (rbI (x7_agrees W cn u).2.1) ∧ G9 = wI G (x7_agrees W cn u).2.2) (fun e9 G9 => (x7_agrees W cn u).1 = xc e9 ∧ G9 = wI G (x7_agrees W cn u).2.2) := by
  have hc0 : cn 0 ≤ 30 := hI.2.2.2.2.2.2.2.2.1
  have hc1 : cn 1 ≤ 10 := hI.2.2.2.2.2.2.2.2.2.1
  have hc2 : cn 2 ≤ 200 := hI.2.2.2.2.2.2.2.2.2.2.1
  refine rb_startM RX7 rfl (by decide +kernel) rfl (Nat.le_of_ble_eq_true rfl) ?_
  intro Φ C E EX
  show rb_W Φ 0 0 0 [some (rbR (0, 0, 0)), some (rbI u), none, none] [] (wI G W)
  refine rb_aload_n C dX7_agrees_0 rfl ?_
  refine rb_iload_n C dX7_agrees_1 rfl ?_
  refine rb_callV C M_X7_135 (fun l X => k_X7_subscriberAt l X G W cn ag hG u ((hI.1 1 (by decide))) hc1) rfl (Nat.le_of_ble_eq_true rfl) rfl dX7_agrees_2 rfl rfl rfl (Nat.le_of_ble_eq_true rfl) ⟨(Nat.le_of_ble_eq_true rfl), (Nat.le_of_ble_eq_true rfl)⟩ (Nat.le_of_ble_eq_true rfl) (Nat.le_of_ble_eq_true rfl) (fun v G' hp => ?_) (fun e9 G' hp => by obtain ⟨rfl, h2, e8⟩ := hp; rw [e8]; exact rb_out C EX (Nat.le_of_ble_eq_true rfl) (Nat.le_of_ble_eq_true rfl) (px_1 ((if_pos h2).trans (rfl))))
  obtain ⟨h2, rfl, e9⟩ := hp
  rw [e9]
  clear e9 G'
  refine rb_astore_n C dX7_agrees_5 (Nat.le_of_ble_eq_true rfl) rfl (Lv' := [_, _, _, _]) rfl ?_
  refine rb_iconst C dX7_agrees_6 (v := 0) (by decide) ?_
  refine rb_istore_n C dX7_agrees_7 (Nat.le_of_ble_eq_true rfl) rfl (Lv' := [_, _, _, _]) rfl ?_
  have loop : ∀ (d i : Nat), i + d = 6 → (x7_agrees W cn u) = x7_ag_b W u d i → rb_W Φ 1 6 8 [some (rbR (0, 0, 0)), some (rbI u), some (rbR (9, u.toNatClampNeg, 0)), some (rbI (nI i))] [] (wI G W) := by
    intro d
    induction d with
    | zero =>
      intro i hi hq
      obtain rfl : i = 6 := by omega
      refine rb_iload_n C dX7_agrees_8 rfl ?_
      refine rb_aload_n C dX7_agrees_9 rfl ?_
      refine rw_getP C FR_X7_15 dX7_agrees_10 rfl (o := some (2, 0, 0)) (hG.1 1 (by decide)) ?_
      refine rw_alen C (x := 6) 6 dX7_agrees_13 rfl (by first | exact Or.inl rfl | exact Or.inr (Nat.le_of_ble_eq_true rfl)) (Nat.le_of_ble_eq_true rfl) hG.2.2.2.1.2.1 rfl ?_
      refine rb_icmp_ge C 57 dX7_agrees_14 (by decide) (fun _ => ?_) (fun h9 => absurd ((nI_le (a := 6) (b := 6) (Nat.le_refl _) (by decide))) h9)
      refine rb_aload_n C dX7_agrees_57 rfl ?_
      refine rw_getI C FR_X7_142 dX7_agrees_58 rfl (x := (W (9, u.toNatClampNeg, 0) 4)) (rfl) ?_
      refine rb_iconst C dX7_agrees_61 (v := (-1)) (by decide) ?_
      refine rb_icmp_eq C 76 dX7_agrees_62 (by decide) (fun h62 => ?_) (fun h62 => ?_)
      · refine rb_iconst C dX7_agrees_76 (v := 1) (by decide) ?_
        refine rb_goto C 81 dX7_agrees_77 (by decide) ?_
        exact rb_zret C E dX7_agrees_81 (rfl) (Nat.le_of_ble_eq_true rfl) (Nat.le_of_ble_eq_true rfl) (pt_ (hq.trans ((if_pos h62).trans (rfl))))
      · refine rb_aload_n C dX7_agrees_65 rfl ?_
        refine rw_getI C FR_X7_171 dX7_agrees_66 rfl (x := (W (9, u.toNatClampNeg, 0) 5)) (rfl) ?_
        refine rb_aload_n C dX7_agrees_69 rfl ?_
        refine rw_getI C FR_X7_142 dX7_agrees_70 rfl (x := (W (9, u.toNatClampNeg, 0) 4)) (rfl) ?_
        refine rb_icmp_ne C 80 dX7_agrees_73 (by decide) (fun h73 => ?_) (fun h73 => ?_)
        · refine rb_iconst C dX7_agrees_80 (v := 0) (by decide) ?_
          exact rb_zret C E dX7_agrees_81 (rfl) (Nat.le_of_ble_eq_true rfl) (Nat.le_of_ble_eq_true rfl) (pt_ (hq.trans ((if_neg h62).trans ((if_neg h73).trans (rfl)))))
        · refine rb_iconst C dX7_agrees_76 (v := 1) (by decide) ?_
          refine rb_goto C 81 dX7_agrees_77 (by decide) ?_
          exact rb_zret C E dX7_agrees_81 (rfl) (Nat.le_of_ble_eq_true rfl) (Nat.le_of_ble_eq_true rfl) (pt_ (hq.trans ((if_neg h62).trans ((if_pos h73).trans (rfl)))))
    | succ d ih =>
      intro i hi hq
      have hi9 : i < 6 := by omega
      refine rb_iload_n C dX7_agrees_8 rfl ?_
      refine rb_aload_n C dX7_agrees_9 rfl ?_
      refine rw_getP C FR_X7_15 dX7_agrees_10 rfl (o := some (2, 0, 0)) (hG.1 1 (by decide)) ?_
      refine rw_alen C (x := 6) 6 dX7_agrees_13 rfl (by first | exact Or.inl rfl | exact Or.inr (Nat.le_of_ble_eq_true rfl)) (Nat.le_of_ble_eq_true rfl) hG.2.2.2.1.2.1 rfl ?_
      refine rb_icmp_ge C 57 dX7_agrees_14 (by decide) (fun h9 => absurd h9 ((nI_ge (a := i) (b := 6) hi9 (by decide)))) (fun _ => ?_)
      refine rb_aload_n C dX7_agrees_17 rfl ?_
      refine rw_getP C FR_X7_15 dX7_agrees_18 rfl (o := some (2, 0, 0)) (hG.1 1 (by decide)) ?_
      refine rb_iload_n C dX7_agrees_21 rfl ?_
      refine rw_aald C 6 i dX7_agrees_22 rfl (Nat.le_of_ble_eq_true rfl) (Nat.le_of_ble_eq_true rfl) hG.2.2.2.1.2.1 (vp_in_nI (show i < 6 by omega) (by decide)) (nI_clamp (show i < 2 ^ 31 by omega)) (o := some (5, i, 0)) (hG.2.1 i hi9) ?_
      refine rw_getP C FR_X7_74 dX7_agrees_23 rfl (o := some (6, i, 0)) (hG.2.2.2.2.1 i hi9).1 ?_
      refine rb_aload_n C dX7_agrees_26 rfl ?_
      refine rw_getI C FR_X7_132 dX7_agrees_27 rfl (x := (W (9, u.toNatClampNeg, 0) 0)) (rfl) ?_
      refine rb_callV C M_X7_177 (fun l X => (k_X2_has l X G W cn ag hG i (W (9, u.toNatClampNeg, 0) 0) hi9).m) rfl (Nat.le_of_ble_eq_true rfl) rfl dX7_agrees_30 rfl rfl rfl (Nat.le_of_ble_eq_true rfl) ⟨(Nat.le_of_ble_eq_true rfl), (Nat.le_of_ble_eq_true rfl)⟩ (Nat.le_of_ble_eq_true rfl) (Nat.le_of_ble_eq_true rfl) (fun v G' hp => ?_) (fun _ _ hp => hp.elim)
      obtain ⟨rfl, e9⟩ := hp
      rw [e9]
      clear e9 G'
      refine rb_iload_n C dX7_agrees_33 rfl ?_
      refine rb_aload_n C dX7_agrees_34 rfl ?_
      refine rw_getI C FR_X7_142 dX7_agrees_35 rfl (x := (W (9, u.toNatClampNeg, 0) 4)) (rfl) ?_
      refine rb_icmp_ne C 45 dX7_agrees_38 (by decide) (fun h38 => ?_) (fun h38 => ?_)
      · refine rb_iconst C dX7_agrees_45 (v := 0) (by decide) ?_
        refine rb_icmp_eq C 51 dX7_agrees_46 (by decide) (fun h46 => ?_) (fun h46 => ?_)
        · refine rb_iinc C dX7_agrees_51 rfl (v := _ + 1) rfl rfl (Lv' := [_, _, _, _]) rfl ?_
          refine rb_goto C 8 dX7_agrees_54 (by decide) ?_
          rw [nI_1 i]
          exact ih (i + 1) (by omega) (hq.trans ((if_neg h38).trans ((if_pos h46).trans (rfl))))
        · refine rb_iconst C dX7_agrees_49 (v := 0) (by decide) ?_
          exact rb_zret C E dX7_agrees_50 (rfl) (Nat.le_of_ble_eq_true rfl) (Nat.le_of_ble_eq_true rfl) (pt_ (hq.trans ((if_neg h38).trans ((if_neg h46).trans (rfl)))))
      · refine rb_iconst C dX7_agrees_41 (v := 1) (by decide) ?_
        refine rb_goto C 46 dX7_agrees_42 (by decide) ?_
        refine rb_icmp_eq C 51 dX7_agrees_46 (by decide) (fun h46 => ?_) (fun h46 => ?_)
        · refine rb_iinc C dX7_agrees_51 rfl (v := _ + 1) rfl rfl (Lv' := [_, _, _, _]) rfl ?_
          refine rb_goto C 8 dX7_agrees_54 (by decide) ?_
          rw [nI_1 i]
          exact ih (i + 1) (by omega) (hq.trans ((if_pos h38).trans ((if_pos h46).trans (rfl))))
        · refine rb_iconst C dX7_agrees_49 (v := 0) (by decide) ?_
          exact rb_zret C E dX7_agrees_50 (rfl) (Nat.le_of_ble_eq_true rfl) (Nat.le_of_ble_eq_true rfl) (pt_ (hq.trans ((if_pos h38).trans ((if_neg h46).trans (rfl)))))
  exact loop 6 0 (Nat.zero_add _) ((if_neg h2).trans (rfl))

