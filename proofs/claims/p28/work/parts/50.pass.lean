theorem ci_hours {W : rb_I} {cn : Nat → Nat} {a b : Nat} (hI : xCI W cn) : xCI (x7_beginHours W cn a b) cn := by
  have h : xCI (fo (x7_hr_b cn a) (x7_hm a b + 1 - a) W) cn := fo_inv (f := x7_hr_b cn a) (a := W) (P := fun w => xCI w cn) hI (fun i a h => ci_bh h) _
  unfold x7_beginHours
  split
  · exact ci_bh h
  · exact h
theorem x7_hours_o {W : rb_I} {cn : Nat → Nat} {a b : Nat} {r : rb_R} {q : Nat} (h5 : ¬ r.1 = 5) (h7 : ¬ r.1 = 7) (h9 : ¬ r.1 = 9) : x7_beginHours W cn a b r q = W r q := by
  have h : fo (x7_hr_b cn a) (x7_hm a b + 1 - a) W r q = W r q := fo_inv (f := x7_hr_b cn a) (a := W) (P := fun w => w r q = W r q) rfl (fun i a h => (x7_bh_o h5 h7 h9).trans h) _
  unfold x7_beginHours
  split
  · exact (x7_bh_o h5 h7 h9).trans h
  · exact h
theorem x7_bm_o {W : rb_I} {cn : Nat → Nat} {r : rb_R} {q : Nat} (h9 : ¬ r.1 = 9) : x7_beginMonth W cn r q = W r q := by
  unfold x7_beginMonth
  refine fo_inv (f := x7_bm_b) (a := W) (P := fun w => w r q = W r q) rfl (fun i a h => ?_) _
  unfold x7_bm_b
  rw [up2_n _ _ _ _ (fun e => h9 (congrArg Prod.fst e.1))]
  exact h
theorem add9 {t : Nat} {x : Int32} {n : Nat} (h : vp_in x n) : nI t + x = nI (t + x.toNatClampNeg) := by
  conv => lhs; rw [vp_in_e h]
  exact nI_add _ _
theorem dv9 {t d : Nat} (c : Int32) (hc : c = nI d) (h0 : 0 < d) (hd : d < 2 ^ 31) (ht : t < 2 ^ 31) : nI t / c = nI (t / d) := by
  rw [hc]
  exact pk_div ht h0 hd
def x7_pass (W : rb_I) (cn : Nat → Nat) (mins : Int32) (t : Nat) : rb_U := (if m_in mins (1 : Int32) ((50000) : Int32) = 0 then (2, (0 : Int32), W) else (if mins ≤ ((999999) - (nI t)) then (if (nI ((t + mins.toNatClampNeg) / 43200)) = (nI (t / 43200)) then (0, (nI (t + mins.toNatClampNeg)), (up2 (x7_beginHours W cn (t / 60 + 1) ((t + mins.toNatClampNeg) / 60)) (0, 0, 0) 6 (nI (t + mins.toNatClampNeg)))) else (0, (nI (t + mins.toNatClampNeg)), (up2 (x7_beginMonth (x7_beginHours W cn (t / 60 + 1) ((t + mins.toNatClampNeg) / 60)) cn) (0, 0, 0) 6 (nI (t + mins.toNatClampNeg))))) else (3, (0 : Int32), W)))
set_option maxRecDepth 100000 in
set_option maxHeartbeats 4000000 in
theorem k_X7_pass (l : Launch) (X : rb_X) (G : rb_G) (W : rb_I) (cn : Nat → Nat) (ag : Nat → Nat → Int32) (hG : xCS G cn ag) (mins : Int32) (t : Nat) (hI : xCI W cn) (ht : t < 1000000) (hmn : W (0, 0, 0) 6 = nI t) : rb_M l X yX7_pass (.code yX7_pass cX7_pass 3 (some .int)) 7 146 12 72 [rbR (0, 0, 0), rbI mins] (wI G W) (fun v9 G9 => (x7_pass W cn mins t).1 = 0 ∧ v9 = some (rbI (x7_pass W cn mins t).2.1) ∧ G9 = wI G (x7_pass W cn mins t).2.2) (fun e9 G9 => (x7_pass W cn mins t).1 = xc e9 ∧ G9 = wI G (x7_pass W cn mins t).2.2) := by
  have hc0 : cn 0 ≤ 30 := hI.2.2.2.2.2.2.2.2.1
  have hc1 : cn 1 ≤ 10 := hI.2.2.2.2.2.2.2.2.2.1
  have hc2 : cn 2 ≤ 200 := hI.2.2.2.2.2.2.2.2.2.2.1
  refine rb_startM RX7 rfl (by decide +kernel) rfl (Nat.le_of_ble_eq_true rfl) ?_
  intro Φ C E EX
  show rb_W Φ 0 0 0 [some (rbR (0, 0, 0)), some (rbI mins), none] [] (wI G W)
  refine rb_iload_n C dX7_pass_0 rfl ?_
  refine rb_iconst C dX7_pass_1 (v := 1) (by decide) ?_
  refine rb_ldcw C dX7_pass_2 N_X7_263 ?_
  refine rb_callS C M_X7_44 (fun l X => k_X7_requireRange l X G W mins (1 : Int32) ((50000) : Int32)) dX7_pass_5 rfl rfl rfl (Nat.le_of_ble_eq_true rfl) ⟨(Nat.le_of_ble_eq_true rfl), (Nat.le_of_ble_eq_true rfl)⟩ (Nat.le_of_ble_eq_true rfl) (Nat.le_of_ble_eq_true rfl) (fun v G' hp => ?_) (fun e9 G' hp => by obtain ⟨rfl, h5, e8⟩ := hp; rw [e8]; exact rb_out C EX (Nat.le_of_ble_eq_true rfl) (Nat.le_of_ble_eq_true rfl) (px_2 ((if_pos h5).trans (rfl))))
  obtain ⟨h5, rfl, e9⟩ := hp
  rw [e9]
  clear e9 G'
  refine rb_iload_n C dX7_pass_8 rfl ?_
  refine rb_ldc C dX7_pass_9 N_X7_94 ?_
  refine rb_aload_n C dX7_pass_11 rfl ?_
  refine rw_getI C FR_X7_160 dX7_pass_12 rfl (x := (nI t)) (hmn) ?_
  refine rb_isub C dX7_pass_15 ?_
  refine rb_icmp_le C 30 dX7_pass_16 (by decide) (fun h16 => ?_) (fun h16 => ?_)
  · have hv9 : vp_in mins 50001 := in1_of h5
    have hl9 := vp_in_lt hv9
    refine rb_aload_n C dX7_pass_30 rfl ?_
    refine rw_getI C FR_X7_160 dX7_pass_31 rfl (x := (nI t)) (hmn) ?_
    refine rb_iload_n C dX7_pass_34 rfl ?_
    refine rb_iadd C dX7_pass_35 ?_
    rw [add9 hv9]
    refine rb_istore_n C dX7_pass_36 (Nat.le_of_ble_eq_true rfl) rfl (Lv' := [_, _, _]) rfl ?_
    refine rb_aload_n C dX7_pass_37 rfl ?_
    refine rb_aload_n C dX7_pass_38 rfl ?_
    refine rw_getI C FR_X7_160 dX7_pass_39 rfl (x := (nI t)) (hmn) ?_
    refine rb_bipush C dX7_pass_42 (v := 60) (by decide) ?_
    refine rb_idiv C dX7_pass_44 (by decide) ?_
    rw [dv9 (d := 60) 60 rfl (by decide) (by decide) (show t < 2 ^ 31 by omega)]
    refine rb_iconst C dX7_pass_45 (v := 1) (by decide) ?_
    refine rb_iadd C dX7_pass_46 ?_
    rw [nI_1]
    refine rb_iload_n C dX7_pass_47 rfl ?_
    refine rb_bipush C dX7_pass_48 (v := 60) (by decide) ?_
    refine rb_idiv C dX7_pass_50 (by decide) ?_
    rw [dv9 (d := 60) 60 rfl (by decide) (by decide) (show (t + mins.toNatClampNeg) < 2 ^ 31 by omega)]
    refine rb_callV C M_X7_266 (fun l X => (k_X7_beginHours l X G W cn ag hG (t / 60 + 1) ((t + mins.toNatClampNeg) / 60) hI (by omega) (by omega)).m) rfl (Nat.le_of_ble_eq_true rfl) rfl dX7_pass_51 rfl rfl rfl (Nat.le_of_ble_eq_true rfl) ⟨(Nat.le_of_ble_eq_true rfl), (Nat.le_of_ble_eq_true rfl)⟩ (Nat.le_of_ble_eq_true rfl) (Nat.le_of_ble_eq_true rfl) (fun v G' hp => ?_) (fun _ _ hp => hp.elim)
    obtain ⟨rfl, e9⟩ := hp
    rw [e9]
    clear e9 G'
    refine rb_iload_n C dX7_pass_54 rfl ?_
    refine rb_ldcw C dX7_pass_55 N_X7_269 ?_
    refine rb_idiv C dX7_pass_58 (by decide) ?_
    rw [dv9 (d := 43200) 43200 rfl (by decide) (by decide) (show (t + mins.toNatClampNeg) < 2 ^ 31 by omega)]
    refine rb_aload_n C dX7_pass_59 rfl ?_
    refine rw_getI C FR_X7_160 dX7_pass_60 rfl (x := (nI t)) ((x7_hours_o (show ¬ ((0 : Nat) = 5) by decide) (show ¬ ((0 : Nat) = 7) by decide) (show ¬ ((0 : Nat) = 9) by decide)).trans (hmn)) ?_
    refine rb_ldcw C dX7_pass_63 N_X7_269 ?_
    refine rb_idiv C dX7_pass_66 (by decide) ?_
    rw [dv9 (d := 43200) 43200 rfl (by decide) (by decide) (show t < 2 ^ 31 by omega)]
    refine rb_icmp_eq C 74 dX7_pass_67 (by decide) (fun h67 => ?_) (fun h67 => ?_)
    · refine rb_aload_n C dX7_pass_74 rfl ?_
      refine rb_iload_n C dX7_pass_75 rfl ?_
      refine rw_putI C F_X7_160 dX7_pass_76 rfl ⟨rfl, rfl⟩ ?_
      refine rb_aload_n C dX7_pass_79 rfl ?_
      refine rw_getI C FR_X7_160 dX7_pass_80 rfl (x := (nI (t + mins.toNatClampNeg))) (up2_s _ _ _ _) ?_
      exact rb_iret C E dX7_pass_83 (Nat.le_of_ble_eq_true rfl) (Nat.le_of_ble_eq_true rfl) (pt_ ((if_neg h5).trans ((if_pos h16).trans ((if_pos h67).trans (rfl)))))
    · refine rb_aload_n C dX7_pass_70 rfl ?_
      refine rb_callV C M_X7_270 (fun l X => (k_X7_beginMonth l X G (x7_beginHours W cn (t / 60 + 1) ((t + mins.toNatClampNeg) / 60)) cn ag hG (ci_hours hI)).m) rfl (Nat.le_of_ble_eq_true rfl) rfl dX7_pass_71 rfl rfl rfl (Nat.le_of_ble_eq_true rfl) ⟨(Nat.le_of_ble_eq_true rfl), (Nat.le_of_ble_eq_true rfl)⟩ (Nat.le_of_ble_eq_true rfl) (Nat.le_of_ble_eq_true rfl) (fun v G' hp => ?_) (fun _ _ hp => hp.elim)
      obtain ⟨rfl, e9⟩ := hp
      rw [e9]
      clear e9 G'
      refine rb_aload_n C dX7_pass_74 rfl ?_
      refine rb_iload_n C dX7_pass_75 rfl ?_
      refine rw_putI C F_X7_160 dX7_pass_76 rfl ⟨rfl, rfl⟩ ?_
      refine rb_aload_n C dX7_pass_79 rfl ?_
      refine rw_getI C FR_X7_160 dX7_pass_80 rfl (x := (nI (t + mins.toNatClampNeg))) (up2_s _ _ _ _) ?_
      exact rb_iret C E dX7_pass_83 (Nat.le_of_ble_eq_true rfl) (Nat.le_of_ble_eq_true rfl) (pt_ ((if_neg h5).trans ((if_pos h16).trans ((if_neg h67).trans (rfl)))))
  · exact rb_throwW C EX Thr_is (text := "time ends before that") (by decide +kernel) dX7_pass_19 dX7_pass_22 dX7_pass_23 dX7_pass_26 dX7_pass_29 rfl (Nat.le_of_ble_eq_true rfl) (Nat.le_of_ble_eq_true rfl) (Nat.le_of_ble_eq_true rfl) (Nat.le_of_ble_eq_true rfl) (px_3 ((if_neg h5).trans ((if_neg h16).trans (rfl))))

