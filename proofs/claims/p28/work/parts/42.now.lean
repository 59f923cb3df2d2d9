theorem acc_lt {a b : Int32} (ha : ¬ m_isNetwork a = 0) (hb : ¬ m_isNetwork b = 0) : 6 * a.toNatClampNeg + b.toNatClampNeg < 36 := by
  have h1 := vp_in_lt (isNetwork_in ha)
  have h2 := vp_in_lt (isNetwork_in hb)
  omega
def x7_agNow (W : rb_I) (ho vi : Int32) : Nat → Int32
  | 0 => -1
  | n + 1 => if x1_holds W n ho vi (W (0, 0, 0) 6) = 0 then x7_agNow W ho vi n else nI n
def x7_isIn (a : Int32) (k : Int32) : Int32 := (if ((a >>> (k &&& 31)) &&& 1) = 1 then (1 : Int32) else (0 : Int32))
theorem z_x7_isIn (a : Int32) (k : Int32) : x7_isIn a k = 0 ∨ x7_isIn a k = 1 := by
  unfold x7_isIn
  repeat' split
  all_goals first | exact Or.inl rfl | exact Or.inr rfl
set_option maxRecDepth 100000 in
set_option maxHeartbeats 4000000 in
theorem k_X7_isIn (l : Launch) (X : rb_X) (G : rb_G) (W : rb_I)  (a : Int32) (k : Int32)  : rb_N l X yX7_isIn (.code yX7_isIn cX7_isIn 2 (some .boolean)) 1 12 0 0 [rbI a, rbI k] (wI G W) (fun v9 G9 => v9 = some (rbI (x7_isIn a k)) ∧ G9 = wI G W) := by
  refine rb_startN RX7 rfl (by decide +kernel) rfl (Nat.le_of_ble_eq_true rfl) ?_
  intro Φ C E nm
  show rb_W Φ 0 0 0 [some (rbI a), some (rbI k)] [] (wI G W)
  refine rb_iload_n C dX7_isIn_0 rfl ?_
  refine rb_iload_n C dX7_isIn_1 rfl ?_
  refine rb_ishr C dX7_isIn_2 ?_
  refine rb_iconst C dX7_isIn_3 (v := 1) (by decide) ?_
  refine rb_iand C dX7_isIn_4 ?_
  refine rb_iconst C dX7_isIn_5 (v := 1) (by decide) ?_
  refine rb_icmp_ne C 13 dX7_isIn_6 (by decide) (fun h6 => ?_) (fun h6 => ?_)
  · refine rb_iconst C dX7_isIn_13 (v := 0) (by decide) ?_
    exact rb_zret C E dX7_isIn_14 (rfl) (Nat.le_of_ble_eq_true rfl) (Nat.le_of_ble_eq_true rfl) (pv_ ((if_neg h6).trans (rfl)))
  · refine rb_iconst C dX7_isIn_9 (v := 1) (by decide) ?_
    refine rb_goto C 14 dX7_isIn_10 (by decide) ?_
    exact rb_zret C E dX7_isIn_14 (rfl) (Nat.le_of_ble_eq_true rfl) (Nat.le_of_ble_eq_true rfl) (pv_ ((if_pos h6).trans (rfl)))

set_option maxRecDepth 100000 in
set_option maxHeartbeats 4000000 in
theorem k_X7_agreementNow (l : Launch) (X : rb_X) (G : rb_G) (W : rb_I) (cn : Nat → Nat) (ag : Nat → Nat → Int32) (hG : xCS G cn ag) (ho vi : Int32) (hw : W (4, 0, 0) 2 = nI (cn 0)) (hc9 : cn 0 ≤ 30) : rb_N l X yX7_agreementNow (.code yX7_agreementNow cX7_agreementNow 5 (some (.object "RoamBooks$Agreement"))) 4 76 0 0 [rbR (0, 0, 0), rbI ho, rbI vi] (wI G W) (fun v9 G9 => v9 = some (rbO (agr (x7_agNow W ho vi (cn 0)))) ∧ G9 = wI G W) := by
  refine rb_startN RX7 rfl (by decide +kernel) rfl (Nat.le_of_ble_eq_true rfl) ?_
  intro Φ C E nm
  show rb_W Φ 0 0 0 [some (rbR (0, 0, 0)), some (rbI ho), some (rbI vi), none, none] [] (wI G W)
  have loop : ∀ (n : Nat) (c : Int32), c = nI n - 1 → n ≤ cn 0 → x7_agNow W ho vi n = x7_agNow W ho vi (cn 0) → rb_W Φ 0 0 10 [some (rbR (0, 0, 0)), some (rbI ho), some (rbI vi), some (rbI c), none] [] (wI G W) := by
    intro n
    induction n with
    | zero =>
      intro c hc hn hq
      refine rb_iload_n C dX7_agreementNow_10 rfl ?_
      refine rb_if_lt C 50 dX7_agreementNow_11 (by decide) (fun _ => ?_) (fun h9 => absurd (by rw [hc]; decide) h9)
      refine rb_null C dX7_agreementNow_50 ?_
      exact rb_aret C E (Or.inl ⟨_, rfl⟩) dX7_agreementNow_51 (Nat.le_of_ble_eq_true rfl) (Nat.le_of_ble_eq_true rfl) ⟨by rw [← hq]; rfl, rfl⟩
    | succ n ih =>
      intro c hc hn hq
      have e9 : c = nI n := by rw [hc, nI_pred]
      subst e9
      refine rb_iload_n C dX7_agreementNow_10 rfl ?_
      refine rb_if_lt C 50 dX7_agreementNow_11 (by decide) (fun h9 => absurd h9 (nI_pos (by omega))) (fun _ => ?_)
      refine rb_aload_n C dX7_agreementNow_14 rfl ?_
      refine rw_getP C FR_X7_28 dX7_agreementNow_15 rfl (o := some (4, 0, 0)) (hG.1 3 (by decide)) ?_
      refine rb_iload_n C dX7_agreementNow_18 rfl ?_
      refine rb_callV C M_X7_52 (fun l X => (k_get l X G W 0 (cn 0) n (nI n) (fun j => (10, j, 0)) hG.2.2.2.2.2.2.1 hw rfl (by omega) (by omega)).m) rfl (Nat.le_of_ble_eq_true rfl) rfl dX7_agreementNow_19 rfl rfl rfl (Nat.le_of_ble_eq_true rfl) ⟨(Nat.le_of_ble_eq_true rfl), (Nat.le_of_ble_eq_true rfl)⟩ (Nat.le_of_ble_eq_true rfl) (Nat.le_of_ble_eq_true rfl) (fun v G' hp => ?_) (fun _ _ hp => hp.elim)
      obtain ⟨rfl, e9⟩ := hp
      rw [e9]
      clear e9 G'
      refine rb_cast C (ci := 2) L_X7_99 rfl (by decide) dX7_agreementNow_22 rfl ?_
      refine rb_astore C dX7_agreementNow_25 (Nat.le_of_ble_eq_true rfl) rfl (Lv' := [_, _, _, _, _]) rfl ?_
      refine rb_aload C dX7_agreementNow_27 rfl ?_
      refine rb_iload_n C dX7_agreementNow_29 rfl ?_
      refine rb_iload_n C dX7_agreementNow_30 rfl ?_
      refine rb_aload_n C dX7_agreementNow_31 rfl ?_
      refine rw_getI C FR_X7_160 dX7_agreementNow_32 rfl (x := W (0, 0, 0) 6) rfl ?_
      refine rb_callV C M_X7_285 (fun l X => (k_X1_holds l X G W n ho vi (W (0, 0, 0) 6)).m) rfl (Nat.le_of_ble_eq_true rfl) rfl dX7_agreementNow_35 rfl rfl rfl (Nat.le_of_ble_eq_true rfl) ⟨(Nat.le_of_ble_eq_true rfl), (Nat.le_of_ble_eq_true rfl)⟩ (Nat.le_of_ble_eq_true rfl) (Nat.le_of_ble_eq_true rfl) (fun v G' hp => ?_) (fun _ _ hp => hp.elim)
      obtain ⟨rfl, e9⟩ := hp
      rw [e9]
      clear e9 G'
      refine rb_if_eq C 44 dX7_agreementNow_38 (by decide) (fun h38 => ?_) (fun h38 => ?_)
      · refine rb_iinc C dX7_agreementNow_44 rfl (v := _ + (-1)) rfl rfl (Lv' := [_, _, _, _, _]) rfl ?_
        refine rb_goto C 10 dX7_agreementNow_47 (by decide) ?_
        refine rb_W.unset 4 ?_
        exact ih _ (by rw [Int32.sub_eq_add_neg]) (by omega) (by rw [← hq, x7_agNow, if_pos h38])
      · refine rb_aload C dX7_agreementNow_41 rfl ?_
        exact rb_aret C E (Or.inl ⟨_, rfl⟩) dX7_agreementNow_43 (Nat.le_of_ble_eq_true rfl) (Nat.le_of_ble_eq_true rfl) ⟨by rw [← hq, x7_agNow, if_neg h38, agr_ne (in_ne (n := n + 1) (vp_in_nI (by omega) (by omega))), nI_clamp (by omega)], rfl⟩
  refine rb_aload_n C dX7_agreementNow_0 rfl ?_
  refine rw_getP C FR_X7_28 dX7_agreementNow_1 rfl (o := some (4, 0, 0)) (hG.1 3 (by decide)) ?_
  refine rb_callV C M_X7_48 (fun l X => (k_size l X G W (4, 0, 0) (nI (cn 0)) rfl hw).m) rfl (Nat.le_of_ble_eq_true rfl) rfl dX7_agreementNow_4 rfl rfl rfl (Nat.le_of_ble_eq_true rfl) ⟨(Nat.le_of_ble_eq_true rfl), (Nat.le_of_ble_eq_true rfl)⟩ (Nat.le_of_ble_eq_true rfl) (Nat.le_of_ble_eq_true rfl) (fun v G' hp => ?_) (fun _ _ hp => hp.elim)
  obtain ⟨rfl, e9⟩ := hp
  rw [e9]
  clear e9 G'
  refine rb_iconst C dX7_agreementNow_7 (v := 1) (by decide) ?_
  refine rb_isub C dX7_agreementNow_8 ?_
  refine rb_istore_n C dX7_agreementNow_9 (Nat.le_of_ble_eq_true rfl) rfl (Lv' := [_, _, _, _, _]) rfl ?_
  exact loop (cn 0) _ rfl (Nat.le_refl _) rfl

