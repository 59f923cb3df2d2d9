theorem agr_ne {x : Int32} (h : ¬ x = -1) : agr x = some (10, x.toNatClampNeg, 0) := if_neg h
theorem agr_some {x : Int32} {r : rb_R} (h : agr x = some r) : ¬ x = -1 := fun q => by
  unfold agr at h
  rw [if_pos q] at h
  cases h
theorem agr_none {x : Int32} (h : agr x = none) : x = -1 := by
  rcases Classical.em (x = -1) with q | q
  · exact q
  · rw [agr_ne q] at h
    cases h
def x4_owed (W : rb_I) (k : Nat) (j : Nat) (a : Int32) (m : Int32) : Int32 := (if (W (12, k, j) 3) = 2 then (if a = (-1) then (0 : Int32) else ((W (12, k, j) 0) * (x1_priceAt W a.toNatClampNeg m))) else (0 : Int32))
set_option maxRecDepth 100000 in
set_option maxHeartbeats 4000000 in
theorem k_X4_owed (l : Launch) (X : rb_X) (G : rb_G) (W : rb_I)  (k : Nat) (j : Nat) (a : Int32) (m : Int32) (hA : gP G (12, k, j) 2 = agr a) : rb_N l X yX4_owed (.code yX4_owed cX4_owed 2 (some .int)) 2 33 0 0 [rbR (12, k, j), rbI m] (wI G W) (fun v9 G9 => v9 = some (rbI (x4_owed W k j a m)) ∧ G9 = wI G W) := by
  refine rb_startN RX4 rfl (by decide +kernel) rfl (Nat.le_of_ble_eq_true rfl) ?_
  intro Φ C E nm
  show rb_W Φ 0 0 0 [some (rbR (12, k, j)), some (rbI m)] [] (wI G W)
  refine rb_aload_n C dX4_owed_0 rfl ?_
  refine rw_getI C FR_X4_9 dX4_owed_1 rfl (x := (W (12, k, j) 3)) (rfl) ?_
  refine rb_iconst C dX4_owed_4 (v := 2) (by decide) ?_
  refine rb_icmp_ne C 15 dX4_owed_5 (by decide) (fun h5 => ?_) (fun h5 => ?_)
  · refine rb_iconst C dX4_owed_15 (v := 0) (by decide) ?_
    exact rb_iret C E dX4_owed_16 (Nat.le_of_ble_eq_true rfl) (Nat.le_of_ble_eq_true rfl) (pv_ ((if_neg h5).trans (rfl)))
  · refine rb_aload_n C dX4_owed_8 rfl ?_
    refine rw_getP C FR_X4_24 dX4_owed_9 rfl (o := agr a) hA ?_
    refine rb_ifnonnull C 17 dX4_owed_12 (by decide) (fun r9 q9 => ?_) (fun q9 => ?_)
    · have h12 := agr_some q9
      refine rb_aload_n C dX4_owed_17 rfl ?_
      refine rw_getI C FR_X4_18 dX4_owed_18 rfl (x := (W (12, k, j) 0)) (rfl) ?_
      refine rb_aload_n C dX4_owed_21 rfl ?_
      refine rw_getP C FR_X4_24 dX4_owed_22 rfl (o := some (10, a.toNatClampNeg, 0)) (hA.trans (agr_ne h12)) ?_
      refine rb_iload_n C dX4_owed_25 rfl ?_
      refine rb_callV C M_X4_28 (fun l X => (k_X1_priceAt l X G W a.toNatClampNeg m).m) rfl (Nat.le_of_ble_eq_true rfl) rfl dX4_owed_26 rfl rfl rfl (Nat.le_of_ble_eq_true rfl) ⟨(Nat.le_of_ble_eq_true rfl), (Nat.le_of_ble_eq_true rfl)⟩ (Nat.le_of_ble_eq_true rfl) (Nat.le_of_ble_eq_true rfl) (fun v G' hp => ?_) (fun _ _ hp => hp.elim)
      obtain ⟨rfl, e9⟩ := hp
      rw [e9]
      clear e9 G'
      refine rb_imul C dX4_owed_29 ?_
      exact rb_iret C E dX4_owed_30 (Nat.le_of_ble_eq_true rfl) (Nat.le_of_ble_eq_true rfl) (pv_ ((if_pos h5).trans ((if_neg h12).trans (rfl))))
    · have h12 := agr_none q9
      refine rb_iconst C dX4_owed_15 (v := 0) (by decide) ?_
      exact rb_iret C E dX4_owed_16 (Nat.le_of_ble_eq_true rfl) (Nat.le_of_ble_eq_true rfl) (pv_ ((if_pos h5).trans ((if_pos h12).trans (rfl))))

def x0_mta_b (W : rb_I) (k : Nat) (st0 : Int32) (i : Nat) (s : Int32) : Int32 := (if (W (12, k, i) 3) = st0 then (s + (W (12, k, i) 0)) else s)
def x0_minutesThatAre (W : rb_I) (cn : Nat → Nat) (k : Nat) (st0 : Int32) : Int32 := (fo (x0_mta_b W k st0) (cn (10 + k)) (0 : Int32))
set_option maxRecDepth 100000 in
set_option maxHeartbeats 4000000 in
theorem k_X0_minutesThatAre (l : Launch) (X : rb_X) (G : rb_G) (W : rb_I) (cn : Nat → Nat) (ag : Nat → Nat → Int32) (hG : xCS G cn ag) (k : Nat) (st0 : Int32) (hk : k < 36) (hw : W (4, 10 + k, 0) 2 = nI (cn (10 + k))) (hc9 : cn (10 + k) ≤ 400) : rb_N l X yX0_minutesThatAre (.code yX0_minutesThatAre cX0_minutesThatAre 5 (some .int)) 4 76 0 0 [rbR (8, k, 0), rbI st0] (wI G W) (fun v9 G9 => v9 = some (rbI (x0_minutesThatAre W cn k st0)) ∧ G9 = wI G W) := by
  refine rb_startN RX0 rfl (by decide +kernel) rfl (Nat.le_of_ble_eq_true rfl) ?_
  intro Φ C E nm
  show rb_W Φ 0 0 0 [some (rbR (8, k, 0)), some (rbI st0), none, none, none] [] (wI G W)
  refine rb_iconst C dX0_minutesThatAre_0 (v := 0) (by decide) ?_
  refine rb_istore_n C dX0_minutesThatAre_1 (Nat.le_of_ble_eq_true rfl) rfl (Lv' := [_, _, _, _, _]) rfl ?_
  refine rb_iconst C dX0_minutesThatAre_2 (v := 0) (by decide) ?_
  refine rb_istore_n C dX0_minutesThatAre_3 (Nat.le_of_ble_eq_true rfl) rfl (Lv' := [_, _, _, _, _]) rfl ?_
  have loop : ∀ (d i : Nat) (s : Int32), i + d = (cn (10 + k)) → s = fo (x0_mta_b W k st0) i (0 : Int32) → rb_W Φ 0 0 4 [some (rbR (8, k, 0)), some (rbI st0), some (rbI s), some (rbI (nI i)), none] [] (wI G W) := by
    intro d
    induction d with
    | zero =>
      intro i s hi hs
      obtain rfl : i = (cn (10 + k)) := by omega
      subst hs
      refine rb_iload_n C dX0_minutesThatAre_4 rfl ?_
      refine rb_aload_n C dX0_minutesThatAre_5 rfl ?_
      refine rw_getP C FR_X0_12 dX0_minutesThatAre_6 rfl (o := some (4, (10 + k), 0)) (hG.2.2.2.2.2.1 k hk) ?_
      refine rb_callV C M_X0_18 (fun l X => (k_size l X G W (4, (10 + k), 0) (nI (cn (10 + k))) rfl (hw)).m) rfl (Nat.le_of_ble_eq_true rfl) rfl dX0_minutesThatAre_9 rfl rfl rfl (Nat.le_of_ble_eq_true rfl) ⟨(Nat.le_of_ble_eq_true rfl), (Nat.le_of_ble_eq_true rfl)⟩ (Nat.le_of_ble_eq_true rfl) (Nat.le_of_ble_eq_true rfl) (fun v G' hp => ?_) (fun _ _ hp => hp.elim)
      obtain ⟨rfl, e9⟩ := hp
      rw [e9]
      clear e9 G'
      refine rb_icmp_ge C 51 dX0_minutesThatAre_12 (by decide) (fun _ => ?_) (fun h9 => absurd ((nI_le (a := cn (10 + k)) (b := cn (10 + k)) (Nat.le_refl _) (by omega))) h9)
      refine rb_iload_n C dX0_minutesThatAre_51 rfl ?_
      exact rb_iret C E dX0_minutesThatAre_52 (Nat.le_of_ble_eq_true rfl) (Nat.le_of_ble_eq_true rfl) (pv_ (rfl))
    | succ d ih =>
      intro i s hi hs
      have hi9 : i < (cn (10 + k)) := by omega
      refine rb_iload_n C dX0_minutesThatAre_4 rfl ?_
      refine rb_aload_n C dX0_minutesThatAre_5 rfl ?_
      refine rw_getP C FR_X0_12 dX0_minutesThatAre_6 rfl (o := some (4, (10 + k), 0)) (hG.2.2.2.2.2.1 k hk) ?_
      refine rb_callV C M_X0_18 (fun l X => (k_size l X G W (4, (10 + k), 0) (nI (cn (10 + k))) rfl (hw)).m) rfl (Nat.le_of_ble_eq_true rfl) rfl dX0_minutesThatAre_9 rfl rfl rfl (Nat.le_of_ble_eq_true rfl) ⟨(Nat.le_of_ble_eq_true rfl), (Nat.le_of_ble_eq_true rfl)⟩ (Nat.le_of_ble_eq_true rfl) (Nat.le_of_ble_eq_true rfl) (fun v G' hp => ?_) (fun _ _ hp => hp.elim)
      obtain ⟨rfl, e9⟩ := hp
      rw [e9]
      clear e9 G'
      refine rb_icmp_ge C 51 dX0_minutesThatAre_12 (by decide) (fun h9 => absurd h9 ((nI_ge (a := i) (b := cn (10 + k)) hi9 (by omega)))) (fun _ => ?_)
      refine rb_aload_n C dX0_minutesThatAre_15 rfl ?_
      refine rw_getP C FR_X0_12 dX0_minutesThatAre_16 rfl (o := some (4, (10 + k), 0)) (hG.2.2.2.2.2.1 k hk) ?_
      refine rb_iload_n C dX0_minutesThatAre_19 rfl ?_
      refine rb_callV C M_X0_22 (fun l X => (k_get l X G W (10 + k) (cn (10 + k)) i (nI i) (fun j => (12, k, j)) (hG.2.2.2.2.2.2.2.2.2.1 k hk) (hw) rfl hi9 (by omega)).m) rfl (Nat.le_of_ble_eq_true rfl) rfl dX0_minutesThatAre_20 rfl rfl rfl (Nat.le_of_ble_eq_true rfl) ⟨(Nat.le_of_ble_eq_true rfl), (Nat.le_of_ble_eq_true rfl)⟩ (Nat.le_of_ble_eq_true rfl) (Nat.le_of_ble_eq_true rfl) (fun v G' hp => ?_) (fun _ _ hp => hp.elim)
      obtain ⟨rfl, e9⟩ := hp
      rw [e9]
      clear e9 G'
      refine rb_cast C (ci := 5) L_X0_26 rfl (by decide) dX0_minutesThatAre_23 rfl ?_
      refine rb_astore C dX0_minutesThatAre_26 (Nat.le_of_ble_eq_true rfl) rfl (Lv' := [_, _, _, _, _]) rfl ?_
      refine rb_aload C dX0_minutesThatAre_28 rfl ?_
      refine rw_getI C FR_X0_28 dX0_minutesThatAre_30 rfl (x := (W (12, k, i) 3)) (rfl) ?_
      refine rb_iload_n C dX0_minutesThatAre_33 rfl ?_
      refine rb_icmp_ne C 45 dX0_minutesThatAre_34 (by decide) (fun h34 => ?_) (fun h34 => ?_)
      · refine rb_iinc C dX0_minutesThatAre_45 rfl (v := _ + 1) rfl rfl (Lv' := [_, _, _, _, _]) rfl ?_
        refine rb_goto C 4 dX0_minutesThatAre_48 (by decide) ?_
        refine rb_W.unset 4 ?_
        rw [nI_1 i]
        exact ih (i + 1) s (by omega) (by rw [fo_s, ← hs]; exact Eq.symm ((if_neg h34).trans (rfl)))
      · refine rb_iload_n C dX0_minutesThatAre_37 rfl ?_
        refine rb_aload C dX0_minutesThatAre_38 rfl ?_
        refine rw_getI C FR_X0_32 dX0_minutesThatAre_40 rfl (x := (W (12, k, i) 0)) (rfl) ?_
        refine rb_iadd C dX0_minutesThatAre_43 ?_
        refine rb_istore_n C dX0_minutesThatAre_44 (Nat.le_of_ble_eq_true rfl) rfl (Lv' := [_, _, _, _, _]) rfl ?_
        refine rb_iinc C dX0_minutesThatAre_45 rfl (v := _ + 1) rfl rfl (Lv' := [_, _, _, _, _]) rfl ?_
        refine rb_goto C 4 dX0_minutesThatAre_48 (by decide) ?_
        refine rb_W.unset 4 ?_
        rw [nI_1 i]
        exact ih (i + 1) (s + (W (12, k, i) 0)) (by omega) (by rw [fo_s, ← hs]; exact Eq.symm ((if_pos h34).trans (rfl)))
  exact loop (cn (10 + k)) 0 (0 : Int32) (Nat.zero_add _) (fo_0 _ _).symm

def x0_hasUnfiled (W : rb_I) (cn : Nat → Nat) (k : Nat) : Int32 := (if (x0_minutesThatAre W cn k (0 : Int32)) ≤ 0 then (0 : Int32) else (1 : Int32))
theorem z_x0_hasUnfiled (W : rb_I) (cn : Nat → Nat) (k : Nat) : x0_hasUnfiled W cn k = 0 ∨ x0_hasUnfiled W cn k = 1 := by
  unfold x0_hasUnfiled
  repeat' split
  all_goals first | exact Or.inl rfl | exact Or.inr rfl
set_option maxRecDepth 100000 in
set_option maxHeartbeats 4000000 in
theorem k_X0_hasUnfiled (l : Launch) (X : rb_X) (G : rb_G) (W : rb_I) (cn : Nat → Nat) (ag : Nat → Nat → Int32) (hG : xCS G cn ag) (k : Nat) (hk : k < 36) (hw : W (4, 10 + k, 0) 2 = nI (cn (10 + k))) (hc9 : cn (10 + k) ≤ 400) : rb_N l X yX0_hasUnfiled (.code yX0_hasUnfiled cX0_hasUnfiled 1 (some .boolean)) 5 100 0 0 [rbR (8, k, 0)] (wI G W) (fun v9 G9 => v9 = some (rbI (x0_hasUnfiled W cn k)) ∧ G9 = wI G W) := by
  refine rb_startN RX0 rfl (by decide +kernel) rfl (Nat.le_of_ble_eq_true rfl) ?_
  intro Φ C E nm
  show rb_W Φ 0 0 0 [some (rbR (8, k, 0))] [] (wI G W)
  refine rb_aload_n C dX0_hasUnfiled_0 rfl ?_
  refine rb_iconst C dX0_hasUnfiled_1 (v := 0) (by decide) ?_
  refine rb_callV C M_X0_35 (fun l X => (k_X0_minutesThatAre l X G W cn ag hG k (0 : Int32) hk (hw) hc9).m) rfl (Nat.le_of_ble_eq_true rfl) rfl dX0_hasUnfiled_2 rfl rfl rfl (Nat.le_of_ble_eq_true rfl) ⟨(Nat.le_of_ble_eq_true rfl), (Nat.le_of_ble_eq_true rfl)⟩ (Nat.le_of_ble_eq_true rfl) (Nat.le_of_ble_eq_true rfl) (fun v G' hp => ?_) (fun _ _ hp => hp.elim)
  obtain ⟨rfl, e9⟩ := hp
  rw [e9]
  clear e9 G'
  refine rb_if_le C 12 dX0_hasUnfiled_5 (by decide) (fun h5 => ?_) (fun h5 => ?_)
  · refine rb_iconst C dX0_hasUnfiled_12 (v := 0) (by decide) ?_
    exact rb_zret C E dX0_hasUnfiled_13 (rfl) (Nat.le_of_ble_eq_true rfl) (Nat.le_of_ble_eq_true rfl) (pv_ ((if_pos h5).trans (rfl)))
  · refine rb_iconst C dX0_hasUnfiled_8 (v := 1) (by decide) ?_
    refine rb_goto C 13 dX0_hasUnfiled_9 (by decide) ?_
    exact rb_zret C E dX0_hasUnfiled_13 (rfl) (Nat.le_of_ble_eq_true rfl) (Nat.le_of_ble_eq_true rfl) (pv_ ((if_neg h5).trans (rfl)))

def x0_ftr_b (W : rb_I) (k : Nat) (i : Nat) (s : rb_I) : rb_I := (if (s (12, k, i) 3) = 0 then (up2 (up2 s (12, k, i) 3 1) (12, k, i) 4 (W (8, k, 0) 1)) else s)
def x0_fileTheRest (W : rb_I) (cn : Nat → Nat) (k : Nat) : Int32 × rb_I := ((W (8, k, 0) 1), (up2 (fo (x0_ftr_b W k) (cn (10 + k)) W) (8, k, 0) 1 (((fo (x0_ftr_b W k) (cn (10 + k)) W) (8, k, 0) 1) + 1)))
set_option maxRecDepth 100000 in
set_option maxHeartbeats 4000000 in
theorem k_X0_fileTheRest (l : Launch) (X : rb_X) (G : rb_G) (W : rb_I) (cn : Nat → Nat) (ag : Nat → Nat → Int32) (hG : xCS G cn ag) (k : Nat) (hk : k < 36) (hw : W (4, 10 + k, 0) 2 = nI (cn (10 + k))) (hc9 : cn (10 + k) ≤ 400) : rb_N l X yX0_fileTheRest (.code yX0_fileTheRest cX0_fileTheRest 4 (some .int)) 4 76 0 0 [rbR (8, k, 0)] (wI G W) (fun v9 G9 => v9 = some (rbI (x0_fileTheRest W cn k).1) ∧ G9 = wI G (x0_fileTheRest W cn k).2) := by
  refine rb_startN RX0 rfl (by decide +kernel) rfl (Nat.le_of_ble_eq_true rfl) ?_
  intro Φ C E nm
  show rb_W Φ 0 0 0 [some (rbR (8, k, 0)), none, none, none] [] (wI G W)
  refine rb_aload_n C dX0_fileTheRest_0 rfl ?_
  refine rw_getI C FR_X0_39 dX0_fileTheRest_1 rfl (x := (W (8, k, 0) 1)) (rfl) ?_
  refine rb_istore_n C dX0_fileTheRest_4 (Nat.le_of_ble_eq_true rfl) rfl (Lv' := [_, _, _, _]) rfl ?_
  refine rb_iconst C dX0_fileTheRest_5 (v := 0) (by decide) ?_
  refine rb_istore_n C dX0_fileTheRest_6 (Nat.le_of_ble_eq_true rfl) rfl (Lv' := [_, _, _, _]) rfl ?_
  have loop : ∀ (d i : Nat) (s : rb_I), i + d = (cn (10 + k)) → s = fo (x0_ftr_b W k) i W → rb_W Φ 0 0 7 [some (rbR (8, k, 0)), some (rbI (W (8, k, 0) 1)), some (rbI (nI i)), none] [] (wI G s) := by
    intro d
    induction d with
    | zero =>
      intro i s hi hs
      obtain rfl : i = (cn (10 + k)) := by omega
      have hc8 : s (4, 10 + k, 0) 2 = nI (cn (10 + k)) := by
        rw [hs]
        refine fo_inv (f := x0_ftr_b W k) (a := W) (P := fun w : rb_I => w (4, 10 + k, 0) 2 = nI (cn (10 + k))) (by simpa [up2] using hw) (fun i a h => ?_) _
        unfold x0_ftr_b; (repeat (any_goals split)) <;> simpa [up2] using h
      subst hs
      refine rb_iload_n C dX0_fileTheRest_7 rfl ?_
      refine rb_aload_n C dX0_fileTheRest_8 rfl ?_
      refine rw_getP C FR_X0_12 dX0_fileTheRest_9 rfl (o := some (4, (10 + k), 0)) (hG.2.2.2.2.2.1 k hk) ?_
      refine rb_callV C M_X0_18 (fun l X => (k_size l X G (fo (x0_ftr_b W k) (cn (10 + k)) W) (4, (10 + k), 0) (nI (cn (10 + k))) rfl (hc8)).m) rfl (Nat.le_of_ble_eq_true rfl) rfl dX0_fileTheRest_12 rfl rfl rfl (Nat.le_of_ble_eq_true rfl) ⟨(Nat.le_of_ble_eq_true rfl), (Nat.le_of_ble_eq_true rfl)⟩ (Nat.le_of_ble_eq_true rfl) (Nat.le_of_ble_eq_true rfl) (fun v G' hp => ?_) (fun _ _ hp => hp.elim)
      obtain ⟨rfl, e9⟩ := hp
      rw [e9]
      clear e9 G'
      refine rb_icmp_ge C 53 dX0_fileTheRest_15 (by decide) (fun _ => ?_) (fun h9 => absurd ((nI_le (a := cn (10 + k)) (b := cn (10 + k)) (Nat.le_refl _) (by omega))) h9)
      refine rb_aload_n C dX0_fileTheRest_53 rfl ?_
      refine rb_dup C dX0_fileTheRest_54 rfl ?_
      refine rw_getI C FR_X0_39 dX0_fileTheRest_55 rfl (x := ((fo (x0_ftr_b W k) (cn (10 + k)) W) (8, k, 0) 1)) (rfl) ?_
      refine rb_iconst C dX0_fileTheRest_58 (v := 1) (by decide) ?_
      refine rb_iadd C dX0_fileTheRest_59 ?_
      refine rw_putI C F_X0_39 dX0_fileTheRest_60 rfl ⟨rfl, rfl⟩ ?_
      refine rb_iload_n C dX0_fileTheRest_63 rfl ?_
      exact rb_iret C E dX0_fileTheRest_64 (Nat.le_of_ble_eq_true rfl) (Nat.le_of_ble_eq_true rfl) (pp_ (rfl))
    | succ d ih =>
      intro i s hi hs
      have hi9 : i < (cn (10 + k)) := by omega
      have hc8 : s (4, 10 + k, 0) 2 = nI (cn (10 + k)) := by
        rw [hs]
        refine fo_inv (f := x0_ftr_b W k) (a := W) (P := fun w : rb_I => w (4, 10 + k, 0) 2 = nI (cn (10 + k))) (by simpa [up2] using hw) (fun i a h => ?_) _
        unfold x0_ftr_b; (repeat (any_goals split)) <;> simpa [up2] using h
      refine rb_iload_n C dX0_fileTheRest_7 rfl ?_
      refine rb_aload_n C dX0_fileTheRest_8 rfl ?_
      refine rw_getP C FR_X0_12 dX0_fileTheRest_9 rfl (o := some (4, (10 + k), 0)) (hG.2.2.2.2.2.1 k hk) ?_
      refine rb_callV C M_X0_18 (fun l X => (k_size l X G s (4, (10 + k), 0) (nI (cn (10 + k))) rfl (hc8)).m) rfl (Nat.le_of_ble_eq_true rfl) rfl dX0_fileTheRest_12 rfl rfl rfl (Nat.le_of_ble_eq_true rfl) ⟨(Nat.le_of_ble_eq_true rfl), (Nat.le_of_ble_eq_true rfl)⟩ (Nat.le_of_ble_eq_true rfl) (Nat.le_of_ble_eq_true rfl) (fun v G' hp => ?_) (fun _ _ hp => hp.elim)
      obtain ⟨rfl, e9⟩ := hp
      rw [e9]
      clear e9 G'
      refine rb_icmp_ge C 53 dX0_fileTheRest_15 (by decide) (fun h9 => absurd h9 ((nI_ge (a := i) (b := cn (10 + k)) hi9 (by omega)))) (fun _ => ?_)
      refine rb_aload_n C dX0_fileTheRest_18 rfl ?_
      refine rw_getP C FR_X0_12 dX0_fileTheRest_19 rfl (o := some (4, (10 + k), 0)) (hG.2.2.2.2.2.1 k hk) ?_
      refine rb_iload_n C dX0_fileTheRest_22 rfl ?_
      refine rb_callV C M_X0_22 (fun l X => (k_get l X G s (10 + k) (cn (10 + k)) i (nI i) (fun j => (12, k, j)) (hG.2.2.2.2.2.2.2.2.2.1 k hk) (hc8) rfl hi9 (by omega)).m) rfl (Nat.le_of_ble_eq_true rfl) rfl dX0_fileTheRest_23 rfl rfl rfl (Nat.le_of_ble_eq_true rfl) ⟨(Nat.le_of_ble_eq_true rfl), (Nat.le_of_ble_eq_true rfl)⟩ (Nat.le_of_ble_eq_true rfl) (Nat.le_of_ble_eq_true rfl) (fun v G' hp => ?_) (fun _ _ hp => hp.elim)
      obtain ⟨rfl, e9⟩ := hp
      rw [e9]
      clear e9 G'
      refine rb_cast C (ci := 5) L_X0_26 rfl (by decide) dX0_fileTheRest_26 rfl ?_
      refine rb_astore_n C dX0_fileTheRest_29 (Nat.le_of_ble_eq_true rfl) rfl (Lv' := [_, _, _, _]) rfl ?_
      refine rb_aload_n C dX0_fileTheRest_30 rfl ?_
      refine rw_getI C FR_X0_28 dX0_fileTheRest_31 rfl (x := (s (12, k, i) 3)) (rfl) ?_
      refine rb_if_ne C 47 dX0_fileTheRest_34 (by decide) (fun h34 => ?_) (fun h34 => ?_)
      · refine rb_iinc C dX0_fileTheRest_47 rfl (v := _ + 1) rfl rfl (Lv' := [_, _, _, _]) rfl ?_
        refine rb_goto C 7 dX0_fileTheRest_50 (by decide) ?_
        refine rb_W.unset 3 ?_
        rw [nI_1 i]
        exact ih (i + 1) s (by omega) (by rw [fo_s, ← hs]; exact Eq.symm ((if_neg h34).trans (rfl)))
      · refine rb_aload_n C dX0_fileTheRest_37 rfl ?_
        refine rb_iconst C dX0_fileTheRest_38 (v := 1) (by decide) ?_
        refine rw_putI C F_X0_28 dX0_fileTheRest_39 rfl ⟨rfl, rfl⟩ ?_
        refine rb_aload_n C dX0_fileTheRest_42 rfl ?_
        refine rb_iload_n C dX0_fileTheRest_43 rfl ?_
        refine rw_putI C F_X0_42 dX0_fileTheRest_44 rfl ⟨rfl, rfl⟩ ?_
        refine rb_iinc C dX0_fileTheRest_47 rfl (v := _ + 1) rfl rfl (Lv' := [_, _, _, _]) rfl ?_
        refine rb_goto C 7 dX0_fileTheRest_50 (by decide) ?_
        refine rb_W.unset 3 ?_
        rw [nI_1 i]
        exact ih (i + 1) (up2 (up2 s (12, k, i) 3 1) (12, k, i) 4 (W (8, k, 0) 1)) (by omega) (by rw [fo_s, ← hs]; exact Eq.symm ((if_pos h34).trans (rfl)))
  exact loop (cn (10 + k)) 0 W (Nat.zero_add _) (fo_0 _ _).symm

def x0_tnf_b (k : Nat) (now : Int32) (i : Nat) (s : Int32 × rb_I) : Int32 × rb_I := (if (s.2 (12, k, i) 4) = (s.2 (8, k, 0) 2) then (if (now - (s.2 (12, k, i) 1)) < (43200) then (s.1, (up2 s.2 (12, k, i) 3 2)) else ((s.1 + 1), (up2 s.2 (12, k, i) 3 3))) else (s.1, s.2))
def x0_takeNextFile (W : rb_I) (cn : Nat → Nat) (k : Nat) (now : Int32) : Int32 × rb_I := ((fo (x0_tnf_b k now) (cn (10 + k)) ((0 : Int32), W)).1, (up2 (fo (x0_tnf_b k now) (cn (10 + k)) ((0 : Int32), W)).2 (8, k, 0) 2 (((fo (x0_tnf_b k now) (cn (10 + k)) ((0 : Int32), W)).2 (8, k, 0) 2) + 1)))
set_option maxRecDepth 100000 in
set_option maxHeartbeats 4000000 in
theorem k_X0_takeNextFile (l : Launch) (X : rb_X) (G : rb_G) (W : rb_I) (cn : Nat → Nat) (ag : Nat → Nat → Int32) (hG : xCS G cn ag) (k : Nat) (now : Int32) (hk : k < 36) (hw : W (4, 10 + k, 0) 2 = nI (cn (10 + k))) (hc9 : cn (10 + k) ≤ 400) : rb_N l X yX0_takeNextFile (.code yX0_takeNextFile cX0_takeNextFile 5 (some .int)) 4 76 0 0 [rbR (8, k, 0), rbI now] (wI G W) (fun v9 G9 => v9 = some (rbI (x0_takeNextFile W cn k now).1) ∧ G9 = wI G (x0_takeNextFile W cn k now).2) := by
  refine rb_startN RX0 rfl (by decide +kernel) rfl (Nat.le_of_ble_eq_true rfl) ?_
  intro Φ C E nm
  show rb_W Φ 0 0 0 [some (rbR (8, k, 0)), some (rbI now), none, none, none] [] (wI G W)
  refine rb_iconst C dX0_takeNextFile_0 (v := 0) (by decide) ?_
  refine rb_istore_n C dX0_takeNextFile_1 (Nat.le_of_ble_eq_true rfl) rfl (Lv' := [_, _, _, _, _]) rfl ?_
  refine rb_iconst C dX0_takeNextFile_2 (v := 0) (by decide) ?_
  refine rb_istore_n C dX0_takeNextFile_3 (Nat.le_of_ble_eq_true rfl) rfl (Lv' := [_, _, _, _, _]) rfl ?_
  have loop : ∀ (d i : Nat) (s : Int32 × rb_I), i + d = (cn (10 + k)) → s = fo (x0_tnf_b k now) i ((0 : Int32), W) → rb_W Φ 0 0 4 [some (rbR (8, k, 0)), some (rbI now), some (rbI s.1), some (rbI (nI i)), none] [] (wI G s.2) := by
    intro d
    induction d with
    | zero =>
      intro i s hi hs
      obtain rfl : i = (cn (10 + k)) := by omega
      have hc8 : s.2 (4, 10 + k, 0) 2 = nI (cn (10 + k)) := by
        rw [hs]
        refine fo_inv (f := x0_tnf_b k now) (a := ((0 : Int32), W)) (P := fun w : Int32 × rb_I => w.2 (4, 10 + k, 0) 2 = nI (cn (10 + k))) (by simpa [up2] using hw) (fun i a h => ?_) _
        unfold x0_tnf_b; (repeat (any_goals split)) <;> simpa [up2] using h
      subst hs
      refine rb_iload_n C dX0_takeNextFile_4 rfl ?_
      refine rb_aload_n C dX0_takeNextFile_5 rfl ?_
      refine rw_getP C FR_X0_12 dX0_takeNextFile_6 rfl (o := some (4, (10 + k), 0)) (hG.2.2.2.2.2.1 k hk) ?_
      refine rb_callV C M_X0_18 (fun l X => (k_size l X G (fo (x0_tnf_b k now) (cn (10 + k)) ((0 : Int32), W)).2 (4, (10 + k), 0) (nI (cn (10 + k))) rfl (hc8)).m) rfl (Nat.le_of_ble_eq_true rfl) rfl dX0_takeNextFile_9 rfl rfl rfl (Nat.le_of_ble_eq_true rfl) ⟨(Nat.le_of_ble_eq_true rfl), (Nat.le_of_ble_eq_true rfl)⟩ (Nat.le_of_ble_eq_true rfl) (Nat.le_of_ble_eq_true rfl) (fun v G' hp => ?_) (fun _ _ hp => hp.elim)
      obtain ⟨rfl, e9⟩ := hp
      rw [e9]
      clear e9 G'
      refine rb_icmp_ge C 79 dX0_takeNextFile_12 (by decide) (fun _ => ?_) (fun h9 => absurd ((nI_le (a := cn (10 + k)) (b := cn (10 + k)) (Nat.le_refl _) (by omega))) h9)
      refine rb_aload_n C dX0_takeNextFile_79 rfl ?_
      refine rb_dup C dX0_takeNextFile_80 rfl ?_
      refine rw_getI C FR_X0_45 dX0_takeNextFile_81 rfl (x := ((fo (x0_tnf_b k now) (cn (10 + k)) ((0 : Int32), W)).2 (8, k, 0) 2)) (rfl) ?_
      refine rb_iconst C dX0_takeNextFile_84 (v := 1) (by decide) ?_
      refine rb_iadd C dX0_takeNextFile_85 ?_
      refine rw_putI C F_X0_45 dX0_takeNextFile_86 rfl ⟨rfl, rfl⟩ ?_
      refine rb_iload_n C dX0_takeNextFile_89 rfl ?_
      exact rb_iret C E dX0_takeNextFile_90 (Nat.le_of_ble_eq_true rfl) (Nat.le_of_ble_eq_true rfl) (pp_ (rfl))
    | succ d ih =>
      intro i s hi hs
      have hi9 : i < (cn (10 + k)) := by omega
      have hc8 : s.2 (4, 10 + k, 0) 2 = nI (cn (10 + k)) := by
        rw [hs]
        refine fo_inv (f := x0_tnf_b k now) (a := ((0 : Int32), W)) (P := fun w : Int32 × rb_I => w.2 (4, 10 + k, 0) 2 = nI (cn (10 + k))) (by simpa [up2] using hw) (fun i a h => ?_) _
        unfold x0_tnf_b; (repeat (any_goals split)) <;> simpa [up2] using h
      refine rb_iload_n C dX0_takeNextFile_4 rfl ?_
      refine rb_aload_n C dX0_takeNextFile_5 rfl ?_
      refine rw_getP C FR_X0_12 dX0_takeNextFile_6 rfl (o := some (4, (10 + k), 0)) (hG.2.2.2.2.2.1 k hk) ?_
      refine rb_callV C M_X0_18 (fun l X => (k_size l X G s.2 (4, (10 + k), 0) (nI (cn (10 + k))) rfl (hc8)).m) rfl (Nat.le_of_ble_eq_true rfl) rfl dX0_takeNextFile_9 rfl rfl rfl (Nat.le_of_ble_eq_true rfl) ⟨(Nat.le_of_ble_eq_true rfl), (Nat.le_of_ble_eq_true rfl)⟩ (Nat.le_of_ble_eq_true rfl) (Nat.le_of_ble_eq_true rfl) (fun v G' hp => ?_) (fun _ _ hp => hp.elim)
      obtain ⟨rfl, e9⟩ := hp
      rw [e9]
      clear e9 G'
      refine rb_icmp_ge C 79 dX0_takeNextFile_12 (by decide) (fun h9 => absurd h9 ((nI_ge (a := i) (b := cn (10 + k)) hi9 (by omega)))) (fun _ => ?_)
      refine rb_aload_n C dX0_takeNextFile_15 rfl ?_
      refine rw_getP C FR_X0_12 dX0_takeNextFile_16 rfl (o := some (4, (10 + k), 0)) (hG.2.2.2.2.2.1 k hk) ?_
      refine rb_iload_n C dX0_takeNextFile_19 rfl ?_
      refine rb_callV C M_X0_22 (fun l X => (k_get l X G s.2 (10 + k) (cn (10 + k)) i (nI i) (fun j => (12, k, j)) (hG.2.2.2.2.2.2.2.2.2.1 k hk) (hc8) rfl hi9 (by omega)).m) rfl (Nat.le_of_ble_eq_true rfl) rfl dX0_takeNextFile_20 rfl rfl rfl (Nat.le_of_ble_eq_true rfl) ⟨(Nat.le_of_ble_eq_true rfl), (Nat.le_of_ble_eq_true rfl)⟩ (Nat.le_of_ble_eq_true rfl) (Nat.le_of_ble_eq_true rfl) (fun v G' hp => ?_) (fun _ _ hp => hp.elim)
      obtain ⟨rfl, e9⟩ := hp
      rw [e9]
      clear e9 G'
      refine rb_cast C (ci := 5) L_X0_26 rfl (by decide) dX0_takeNextFile_23 rfl ?_
      refine rb_astore C dX0_takeNextFile_26 (Nat.le_of_ble_eq_true rfl) rfl (Lv' := [_, _, _, _, _]) rfl ?_
      refine rb_aload C dX0_takeNextFile_28 rfl ?_
      refine rw_getI C FR_X0_42 dX0_takeNextFile_30 rfl (x := (s.2 (12, k, i) 4)) (rfl) ?_
      refine rb_aload_n C dX0_takeNextFile_33 rfl ?_
      refine rw_getI C FR_X0_45 dX0_takeNextFile_34 rfl (x := (s.2 (8, k, 0) 2)) (rfl) ?_
      refine rb_icmp_eq C 43 dX0_takeNextFile_37 (by decide) (fun h37 => ?_) (fun h37 => ?_)
      · refine rb_iload_n C dX0_takeNextFile_43 rfl ?_
        refine rb_aload C dX0_takeNextFile_44 rfl ?_
        refine rw_getI C FR_X0_48 dX0_takeNextFile_46 rfl (x := (s.2 (12, k, i) 1)) (rfl) ?_
        refine rb_isub C dX0_takeNextFile_49 ?_
        refine rb_ldc C dX0_takeNextFile_50 N_X0_51 ?_
        refine rb_icmp_lt C 67 dX0_takeNextFile_52 (by decide) (fun h52 => ?_) (fun h52 => ?_)
        · refine rb_aload C dX0_takeNextFile_67 rfl ?_
          refine rb_iconst C dX0_takeNextFile_69 (v := 2) (by decide) ?_
          refine rw_putI C F_X0_28 dX0_takeNextFile_70 rfl ⟨rfl, rfl⟩ ?_
          refine rb_iinc C dX0_takeNextFile_73 rfl (v := _ + 1) rfl rfl (Lv' := [_, _, _, _, _]) rfl ?_
          refine rb_goto C 4 dX0_takeNextFile_76 (by decide) ?_
          refine rb_W.unset 4 ?_
          rw [nI_1 i]
          exact ih (i + 1) (s.1, (up2 s.2 (12, k, i) 3 2)) (by omega) (by rw [fo_s, ← hs]; exact Eq.symm ((if_pos h37).trans ((if_pos h52).trans (rfl))))
        · refine rb_aload C dX0_takeNextFile_55 rfl ?_
          refine rb_iconst C dX0_takeNextFile_57 (v := 3) (by decide) ?_
          refine rw_putI C F_X0_28 dX0_takeNextFile_58 rfl ⟨rfl, rfl⟩ ?_
          refine rb_iinc C dX0_takeNextFile_61 rfl (v := _ + 1) rfl rfl (Lv' := [_, _, _, _, _]) rfl ?_
          refine rb_goto C 73 dX0_takeNextFile_64 (by decide) ?_
          refine rb_iinc C dX0_takeNextFile_73 rfl (v := _ + 1) rfl rfl (Lv' := [_, _, _, _, _]) rfl ?_
          refine rb_goto C 4 dX0_takeNextFile_76 (by decide) ?_
          refine rb_W.unset 4 ?_
          rw [nI_1 i]
          exact ih (i + 1) ((s.1 + 1), (up2 s.2 (12, k, i) 3 3)) (by omega) (by rw [fo_s, ← hs]; exact Eq.symm ((if_pos h37).trans ((if_neg h52).trans (rfl))))
      · refine rb_goto C 73 dX0_takeNextFile_40 (by decide) ?_
        refine rb_iinc C dX0_takeNextFile_73 rfl (v := _ + 1) rfl rfl (Lv' := [_, _, _, _, _]) rfl ?_
        refine rb_goto C 4 dX0_takeNextFile_76 (by decide) ?_
        refine rb_W.unset 4 ?_
        rw [nI_1 i]
        exact ih (i + 1) (s.1, s.2) (by omega) (by rw [fo_s, ← hs]; exact Eq.symm ((if_neg h37).trans (rfl)))
  exact loop (cn (10 + k)) 0 ((0 : Int32), W) (Nat.zero_add _) (fo_0 _ _).symm

def x0_mti_b (W : rb_I) (k : Nat) (fl : Int32) (i : Nat) (s : Int32) : Int32 := (if (W (12, k, i) 4) = fl then (if (W (12, k, i) 3) = 2 then (s + (W (12, k, i) 0)) else s) else s)
def x0_minutesTakenIn (W : rb_I) (cn : Nat → Nat) (k : Nat) (fl : Int32) : Int32 := (fo (x0_mti_b W k fl) (cn (10 + k)) (0 : Int32))
set_option maxRecDepth 100000 in
set_option maxHeartbeats 4000000 in
theorem k_X0_minutesTakenIn (l : Launch) (X : rb_X) (G : rb_G) (W : rb_I) (cn : Nat → Nat) (ag : Nat → Nat → Int32) (hG : xCS G cn ag) (k : Nat) (fl : Int32) (hk : k < 36) (hw : W (4, 10 + k, 0) 2 = nI (cn (10 + k))) (hc9 : cn (10 + k) ≤ 400) : rb_N l X yX0_minutesTakenIn (.code yX0_minutesTakenIn cX0_minutesTakenIn 5 (some .int)) 4 76 0 0 [rbR (8, k, 0), rbI fl] (wI G W) (fun v9 G9 => v9 = some (rbI (x0_minutesTakenIn W cn k fl)) ∧ G9 = wI G W) := by
  refine rb_startN RX0 rfl (by decide +kernel) rfl (Nat.le_of_ble_eq_true rfl) ?_
  intro Φ C E nm
  show rb_W Φ 0 0 0 [some (rbR (8, k, 0)), some (rbI fl), none, none, none] [] (wI G W)
  refine rb_iconst C dX0_minutesTakenIn_0 (v := 0) (by decide) ?_
  refine rb_istore_n C dX0_minutesTakenIn_1 (Nat.le_of_ble_eq_true rfl) rfl (Lv' := [_, _, _, _, _]) rfl ?_
  refine rb_iconst C dX0_minutesTakenIn_2 (v := 0) (by decide) ?_
  refine rb_istore_n C dX0_minutesTakenIn_3 (Nat.le_of_ble_eq_true rfl) rfl (Lv' := [_, _, _, _, _]) rfl ?_
  have loop : ∀ (d i : Nat) (s : Int32), i + d = (cn (10 + k)) → s = fo (x0_mti_b W k fl) i (0 : Int32) → rb_W Φ 0 0 4 [some (rbR (8, k, 0)), some (rbI fl), some (rbI s), some (rbI (nI i)), none] [] (wI G W) := by
    intro d
    induction d with
    | zero =>
      intro i s hi hs
      obtain rfl : i = (cn (10 + k)) := by omega
      subst hs
      refine rb_iload_n C dX0_minutesTakenIn_4 rfl ?_
      refine rb_aload_n C dX0_minutesTakenIn_5 rfl ?_
      refine rw_getP C FR_X0_12 dX0_minutesTakenIn_6 rfl (o := some (4, (10 + k), 0)) (hG.2.2.2.2.2.1 k hk) ?_
      refine rb_callV C M_X0_18 (fun l X => (k_size l X G W (4, (10 + k), 0) (nI (cn (10 + k))) rfl (hw)).m) rfl (Nat.le_of_ble_eq_true rfl) rfl dX0_minutesTakenIn_9 rfl rfl rfl (Nat.le_of_ble_eq_true rfl) ⟨(Nat.le_of_ble_eq_true rfl), (Nat.le_of_ble_eq_true rfl)⟩ (Nat.le_of_ble_eq_true rfl) (Nat.le_of_ble_eq_true rfl) (fun v G' hp => ?_) (fun _ _ hp => hp.elim)
      obtain ⟨rfl, e9⟩ := hp
      rw [e9]
      clear e9 G'
      refine rb_icmp_ge C 60 dX0_minutesTakenIn_12 (by decide) (fun _ => ?_) (fun h9 => absurd ((nI_le (a := cn (10 + k)) (b := cn (10 + k)) (Nat.le_refl _) (by omega))) h9)
      refine rb_iload_n C dX0_minutesTakenIn_60 rfl ?_
      exact rb_iret C E dX0_minutesTakenIn_61 (Nat.le_of_ble_eq_true rfl) (Nat.le_of_ble_eq_true rfl) (pv_ (rfl))
    | succ d ih =>
      intro i s hi hs
      have hi9 : i < (cn (10 + k)) := by omega
      refine rb_iload_n C dX0_minutesTakenIn_4 rfl ?_
      refine rb_aload_n C dX0_minutesTakenIn_5 rfl ?_
      refine rw_getP C FR_X0_12 dX0_minutesTakenIn_6 rfl (o := some (4, (10 + k), 0)) (hG.2.2.2.2.2.1 k hk) ?_
      refine rb_callV C M_X0_18 (fun l X => (k_size l X G W (4, (10 + k), 0) (nI (cn (10 + k))) rfl (hw)).m) rfl (Nat.le_of_ble_eq_true rfl) rfl dX0_minutesTakenIn_9 rfl rfl rfl (Nat.le_of_ble_eq_true rfl) ⟨(Nat.le_of_ble_eq_true rfl), (Nat.le_of_ble_eq_true rfl)⟩ (Nat.le_of_ble_eq_true rfl) (Nat.le_of_ble_eq_true rfl) (fun v G' hp => ?_) (fun _ _ hp => hp.elim)
      obtain ⟨rfl, e9⟩ := hp
      rw [e9]
      clear e9 G'
      refine rb_icmp_ge C 60 dX0_minutesTakenIn_12 (by decide) (fun h9 => absurd h9 ((nI_ge (a := i) (b := cn (10 + k)) hi9 (by omega)))) (fun _ => ?_)
      refine rb_aload_n C dX0_minutesTakenIn_15 rfl ?_
      refine rw_getP C FR_X0_12 dX0_minutesTakenIn_16 rfl (o := some (4, (10 + k), 0)) (hG.2.2.2.2.2.1 k hk) ?_
      refine rb_iload_n C dX0_minutesTakenIn_19 rfl ?_
      refine rb_callV C M_X0_22 (fun l X => (k_get l X G W (10 + k) (cn (10 + k)) i (nI i) (fun j => (12, k, j)) (hG.2.2.2.2.2.2.2.2.2.1 k hk) (hw) rfl hi9 (by omega)).m) rfl (Nat.le_of_ble_eq_true rfl) rfl dX0_minutesTakenIn_20 rfl rfl rfl (Nat.le_of_ble_eq_true rfl) ⟨(Nat.le_of_ble_eq_true rfl), (Nat.le_of_ble_eq_true rfl)⟩ (Nat.le_of_ble_eq_true rfl) (Nat.le_of_ble_eq_true rfl) (fun v G' hp => ?_) (fun _ _ hp => hp.elim)
      obtain ⟨rfl, e9⟩ := hp
      rw [e9]
      clear e9 G'
      refine rb_cast C (ci := 5) L_X0_26 rfl (by decide) dX0_minutesTakenIn_23 rfl ?_
      refine rb_astore C dX0_minutesTakenIn_26 (Nat.le_of_ble_eq_true rfl) rfl (Lv' := [_, _, _, _, _]) rfl ?_
      refine rb_aload C dX0_minutesTakenIn_28 rfl ?_
      refine rw_getI C FR_X0_42 dX0_minutesTakenIn_30 rfl (x := (W (12, k, i) 4)) (rfl) ?_
      refine rb_iload_n C dX0_minutesTakenIn_33 rfl ?_
      refine rb_icmp_ne C 54 dX0_minutesTakenIn_34 (by decide) (fun h34 => ?_) (fun h34 => ?_)
      · refine rb_iinc C dX0_minutesTakenIn_54 rfl (v := _ + 1) rfl rfl (Lv' := [_, _, _, _, _]) rfl ?_
        refine rb_goto C 4 dX0_minutesTakenIn_57 (by decide) ?_
        refine rb_W.unset 4 ?_
        rw [nI_1 i]
        exact ih (i + 1) s (by omega) (by rw [fo_s, ← hs]; exact Eq.symm ((if_neg h34).trans (rfl)))
      · refine rb_aload C dX0_minutesTakenIn_37 rfl ?_
        refine rw_getI C FR_X0_28 dX0_minutesTakenIn_39 rfl (x := (W (12, k, i) 3)) (rfl) ?_
        refine rb_iconst C dX0_minutesTakenIn_42 (v := 2) (by decide) ?_
        refine rb_icmp_ne C 54 dX0_minutesTakenIn_43 (by decide) (fun h43 => ?_) (fun h43 => ?_)
        · refine rb_iinc C dX0_minutesTakenIn_54 rfl (v := _ + 1) rfl rfl (Lv' := [_, _, _, _, _]) rfl ?_
          refine rb_goto C 4 dX0_minutesTakenIn_57 (by decide) ?_
          refine rb_W.unset 4 ?_
          rw [nI_1 i]
          exact ih (i + 1) s (by omega) (by rw [fo_s, ← hs]; exact Eq.symm ((if_pos h34).trans ((if_neg h43).trans (rfl))))
        · refine rb_iload_n C dX0_minutesTakenIn_46 rfl ?_
          refine rb_aload C dX0_minutesTakenIn_47 rfl ?_
          refine rw_getI C FR_X0_32 dX0_minutesTakenIn_49 rfl (x := (W (12, k, i) 0)) (rfl) ?_
          refine rb_iadd C dX0_minutesTakenIn_52 ?_
          refine rb_istore_n C dX0_minutesTakenIn_53 (Nat.le_of_ble_eq_true rfl) rfl (Lv' := [_, _, _, _, _]) rfl ?_
          refine rb_iinc C dX0_minutesTakenIn_54 rfl (v := _ + 1) rfl rfl (Lv' := [_, _, _, _, _]) rfl ?_
          refine rb_goto C 4 dX0_minutesTakenIn_57 (by decide) ?_
          refine rb_W.unset 4 ?_
          rw [nI_1 i]
          exact ih (i + 1) (s + (W (12, k, i) 0)) (by omega) (by rw [fo_s, ← hs]; exact Eq.symm ((if_pos h34).trans ((if_pos h43).trans (rfl))))
  exact loop (cn (10 + k)) 0 (0 : Int32) (Nat.zero_add _) (fo_0 _ _).symm

