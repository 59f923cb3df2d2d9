theorem x2_put_o {W : rb_I} {n : Nat} {k x : Int32} {r : rb_R} {q : Nat} (h7 : ¬ r.1 = 7) : x2_put W n k x r q = W r q := by
  unfold x2_put
  split
  · rfl
  · rw [up2_n _ _ _ _ (fun e => h7 (congrArg Prod.fst e.1))]
theorem x2_takeOut_o {W : rb_I} {n : Nat} {k : Int32} {r : rb_R} {q : Nat} (h7 : ¬ r.1 = 7) : x2_takeOut W n k r q = W r q := by
  exact x2_put_o h7
theorem x2_takeOutUpTo_o {W : rb_I} {n : Nat} {x : Int32} {r : rb_R} {q : Nat} (h7 : ¬ r.1 = 7) : x2_takeOutUpTo W n x r q = W r q := by
  unfold x2_takeOutUpTo
  refine fo_inv (f := x2_takeOutUpTo_b n x) (a := W) (P := fun w => w r q = W r q) rfl (fun i a h => ?_) _
  unfold x2_takeOutUpTo_b
  split
  · exact h
  · rw [up2_n _ _ _ _ (fun e => h7 (congrArg Prod.fst e.1))]; exact h
theorem x_fill_o {W : rb_I} {n : Nat} {x : Int32} {r : rb_R} {q : Nat} (h7 : ¬ r.1 = 7) : x_fill W n x r q = W r q := by
  unfold x_fill
  refine fo_inv (f := x_fill_b n x) (a := W) (P := fun w => w r q = W r q) rfl (fun i a h => ?_) _
  unfold x_fill_b
  rw [up2_n _ _ _ _ (fun e => h7 (congrArg Prod.fst e.1))]
  exact h
theorem x2_clear_o {W : rb_I} {n : Nat} {r : rb_R} {q : Nat} (h7 : ¬ r.1 = 7) : x2_clear W n r q = W r q := by
  exact x_fill_o h7
def x7_detachIfNotReceived (W : rb_I) (j : Nat) : rb_I := (if (W (9, j, 0) 4) = (-1) then W else (if (x7_isIn (W (1, 0, 0) (W (9, j, 0) 3).toNatClampNeg) (W (9, j, 0) 4)) = 0 then (up2 W (9, j, 0) 4 (-1)) else W))
set_option maxRecDepth 100000 in
set_option maxHeartbeats 4000000 in
theorem k_X7_detachIfNotReceived (l : Launch) (X : rb_X) (G : rb_G) (W : rb_I) (cn : Nat → Nat) (ag : Nat → Nat → Int32) (hG : xCS G cn ag) (j : Nat) (hI : xCI W cn) : rb_N l X yX7_detachIfNotReceived (.code yX7_detachIfNotReceived cX7_detachIfNotReceived 2 none) 3 54 0 0 [rbR (0, 0, 0), rbR (9, j, 0)] (wI G W) (fun v9 G9 => v9 = none ∧ G9 = wI G (x7_detachIfNotReceived W j)) := by
  have hc0 : cn 0 ≤ 30 := hI.2.2.2.2.2.2.2.2.1
  have hc1 : cn 1 ≤ 10 := hI.2.2.2.2.2.2.2.2.2.1
  have hc2 : cn 2 ≤ 200 := hI.2.2.2.2.2.2.2.2.2.2.1
  refine rb_startN RX7 rfl (by decide +kernel) rfl (Nat.le_of_ble_eq_true rfl) ?_
  intro Φ C E nm
  show rb_W Φ 0 0 0 [some (rbR (0, 0, 0)), some (rbR (9, j, 0))] [] (wI G W)
  refine rb_aload_n C dX7_detachIfNotReceived_0 rfl ?_
  refine rw_getI C FR_X7_142 dX7_detachIfNotReceived_1 rfl (x := (W (9, j, 0) 4)) (rfl) ?_
  refine rb_iconst C dX7_detachIfNotReceived_4 (v := (-1)) (by decide) ?_
  refine rb_icmp_eq C 31 dX7_detachIfNotReceived_5 (by decide) (fun h5 => ?_) (fun h5 => ?_)
  · exact rb_vret C E dX7_detachIfNotReceived_31 (Nat.le_of_ble_eq_true rfl) (Nat.le_of_ble_eq_true rfl) (pw_ ((if_pos h5).trans (rfl)))
  · refine rb_aload_n C dX7_detachIfNotReceived_8 rfl ?_
    refine rb_aload_n C dX7_detachIfNotReceived_9 rfl ?_
    refine rw_getI C FR_X7_58 dX7_detachIfNotReceived_10 rfl (x := (W (9, j, 0) 3)) (rfl) ?_
    refine rb_callV C M_X7_40 (fun l X => (k_X7_receivedAt_v l X G W cn ag hG (W (9, j, 0) 3) (hI.2.2.1 j)).m) rfl (Nat.le_of_ble_eq_true rfl) rfl dX7_detachIfNotReceived_13 rfl rfl rfl (Nat.le_of_ble_eq_true rfl) ⟨(Nat.le_of_ble_eq_true rfl), (Nat.le_of_ble_eq_true rfl)⟩ (Nat.le_of_ble_eq_true rfl) (Nat.le_of_ble_eq_true rfl) (fun v G' hp => ?_) (fun _ _ hp => hp.elim)
    obtain ⟨rfl, e9⟩ := hp
    rw [e9]
    clear e9 G'
    refine rb_aload_n C dX7_detachIfNotReceived_16 rfl ?_
    refine rw_getI C FR_X7_142 dX7_detachIfNotReceived_17 rfl (x := (W (9, j, 0) 4)) (rfl) ?_
    refine rb_callS C M_X7_167 (fun l X => (k_X7_isIn l X G W (W (1, 0, 0) (W (9, j, 0) 3).toNatClampNeg) (W (9, j, 0) 4)).m) dX7_detachIfNotReceived_20 rfl rfl rfl (Nat.le_of_ble_eq_true rfl) ⟨(Nat.le_of_ble_eq_true rfl), (Nat.le_of_ble_eq_true rfl)⟩ (Nat.le_of_ble_eq_true rfl) (Nat.le_of_ble_eq_true rfl) (fun v G' hp => ?_) (fun _ _ hp => hp.elim)
    obtain ⟨rfl, e9⟩ := hp
    rw [e9]
    clear e9 G'
    refine rb_if_ne C 31 dX7_detachIfNotReceived_23 (by decide) (fun h23 => ?_) (fun h23 => ?_)
    · exact rb_vret C E dX7_detachIfNotReceived_31 (Nat.le_of_ble_eq_true rfl) (Nat.le_of_ble_eq_true rfl) (pw_ ((if_neg h5).trans ((if_neg h23).trans (rfl))))
    · refine rb_aload_n C dX7_detachIfNotReceived_26 rfl ?_
      refine rb_iconst C dX7_detachIfNotReceived_27 (v := (-1)) (by decide) ?_
      refine rw_putI C F_X7_142 dX7_detachIfNotReceived_28 rfl ⟨rfl, rfl⟩ ?_
      exact rb_vret C E dX7_detachIfNotReceived_31 (Nat.le_of_ble_eq_true rfl) (Nat.le_of_ble_eq_true rfl) (pw_ ((if_neg h5).trans ((if_pos h23).trans (rfl))))

theorem x7_detachIfNotReceived_o {W : rb_I} {j : Nat} {r : rb_R} {q : Nat} (h9 : ¬ r.1 = 9) : x7_detachIfNotReceived W j r q = W r q := by
  unfold x7_detachIfNotReceived
  repeat (any_goals split)
  all_goals first | rfl | (rw [up2_n _ _ _ _ (fun e => h9 (congrArg Prod.fst e.1))])
def x7_daf_b (n : Int32) (i : Nat) (s : rb_I) : rb_I := (if (s (9, i, 0) 4) = n then (up2 s (9, i, 0) 4 (-1)) else s)
def x7_detachAllFrom (W : rb_I) (cn : Nat → Nat) (n : Int32) : rb_I := (fo (x7_daf_b n) (cn 1) W)
set_option maxRecDepth 100000 in
set_option maxHeartbeats 4000000 in
theorem k_X7_detachAllFrom (l : Launch) (X : rb_X) (G : rb_G) (W : rb_I) (cn : Nat → Nat) (ag : Nat → Nat → Int32) (hG : xCS G cn ag) (n : Int32) (hI : xCI W cn) : rb_N l X yX7_detachAllFrom (.code yX7_detachAllFrom cX7_detachAllFrom 4 none) 4 76 0 0 [rbR (0, 0, 0), rbI n] (wI G W) (fun v9 G9 => v9 = none ∧ G9 = wI G (x7_detachAllFrom W cn n)) := by
  have hc0 : cn 0 ≤ 30 := hI.2.2.2.2.2.2.2.2.1
  have hc1 : cn 1 ≤ 10 := hI.2.2.2.2.2.2.2.2.2.1
  have hc2 : cn 2 ≤ 200 := hI.2.2.2.2.2.2.2.2.2.2.1
  refine rb_startN RX7 rfl (by decide +kernel) rfl (Nat.le_of_ble_eq_true rfl) ?_
  intro Φ C E nm
  show rb_W Φ 0 0 0 [some (rbR (0, 0, 0)), some (rbI n), none, none] [] (wI G W)
  refine rb_iconst C dX7_detachAllFrom_0 (v := 0) (by decide) ?_
  refine rb_istore_n C dX7_detachAllFrom_1 (Nat.le_of_ble_eq_true rfl) rfl (Lv' := [_, _, _, _]) rfl ?_
  have loop : ∀ (d i : Nat) (s : rb_I), i + d = (cn 1) → s = fo (x7_daf_b n) i W → rb_W Φ 0 0 2 [some (rbR (0, 0, 0)), some (rbI n), some (rbI (nI i)), none] [] (wI G s) := by
    intro d
    induction d with
    | zero =>
      intro i s hi hs
      obtain rfl : i = (cn 1) := by omega
      have hc8 : s (4, 1, 0) 2 = nI (cn 1) := by
        rw [hs]
        refine fo_inv (f := (x7_daf_b n)) (a := W) (P := fun w : rb_I => w (4, 1, 0) 2 = nI (cn 1)) (by simpa [up2] using hI.1 1 (by decide)) (fun i a h => ?_) _
        unfold x7_daf_b; (repeat (any_goals split)) <;> simpa [up2] using h
      subst hs
      refine rb_iload_n C dX7_detachAllFrom_2 rfl ?_
      refine rb_aload_n C dX7_detachAllFrom_3 rfl ?_
      refine rw_getP C FR_X7_32 dX7_detachAllFrom_4 rfl (o := some (4, 1, 0)) (hG.1 4 (by decide)) ?_
      refine rb_callV C M_X7_48 (fun l X => (k_size l X G (fo (x7_daf_b n) (cn 1) W) (4, 1, 0) (nI (cn 1)) rfl (hc8)).m) rfl (Nat.le_of_ble_eq_true rfl) rfl dX7_detachAllFrom_7 rfl rfl rfl (Nat.le_of_ble_eq_true rfl) ⟨(Nat.le_of_ble_eq_true rfl), (Nat.le_of_ble_eq_true rfl)⟩ (Nat.le_of_ble_eq_true rfl) (Nat.le_of_ble_eq_true rfl) (fun v G' hp => ?_) (fun _ _ hp => hp.elim)
      obtain ⟨rfl, e9⟩ := hp
      rw [e9]
      clear e9 G'
      refine rb_icmp_ge C 44 dX7_detachAllFrom_10 (by decide) (fun _ => ?_) (fun h9 => absurd ((nI_le (a := cn 1) (b := cn 1) (Nat.le_refl _) (by omega))) h9)
      exact rb_vret C E dX7_detachAllFrom_44 (Nat.le_of_ble_eq_true rfl) (Nat.le_of_ble_eq_true rfl) (pw_ (rfl))
    | succ d ih =>
      intro i s hi hs
      have hi9 : i < (cn 1) := by omega
      have hc8 : s (4, 1, 0) 2 = nI (cn 1) := by
        rw [hs]
        refine fo_inv (f := (x7_daf_b n)) (a := W) (P := fun w : rb_I => w (4, 1, 0) 2 = nI (cn 1)) (by simpa [up2] using hI.1 1 (by decide)) (fun i a h => ?_) _
        unfold x7_daf_b; (repeat (any_goals split)) <;> simpa [up2] using h
      refine rb_iload_n C dX7_detachAllFrom_2 rfl ?_
      refine rb_aload_n C dX7_detachAllFrom_3 rfl ?_
      refine rw_getP C FR_X7_32 dX7_detachAllFrom_4 rfl (o := some (4, 1, 0)) (hG.1 4 (by decide)) ?_
      refine rb_callV C M_X7_48 (fun l X => (k_size l X G s (4, 1, 0) (nI (cn 1)) rfl (hc8)).m) rfl (Nat.le_of_ble_eq_true rfl) rfl dX7_detachAllFrom_7 rfl rfl rfl (Nat.le_of_ble_eq_true rfl) ⟨(Nat.le_of_ble_eq_true rfl), (Nat.le_of_ble_eq_true rfl)⟩ (Nat.le_of_ble_eq_true rfl) (Nat.le_of_ble_eq_true rfl) (fun v G' hp => ?_) (fun _ _ hp => hp.elim)
      obtain ⟨rfl, e9⟩ := hp
      rw [e9]
      clear e9 G'
      refine rb_icmp_ge C 44 dX7_detachAllFrom_10 (by decide) (fun h9 => absurd h9 ((nI_ge (a := i) (b := cn 1) hi9 (by omega)))) (fun _ => ?_)
      refine rb_aload_n C dX7_detachAllFrom_13 rfl ?_
      refine rw_getP C FR_X7_32 dX7_detachAllFrom_14 rfl (o := some (4, 1, 0)) (hG.1 4 (by decide)) ?_
      refine rb_iload_n C dX7_detachAllFrom_17 rfl ?_
      refine rb_callV C M_X7_52 (fun l X => (k_get l X G s 1 (cn 1) i (nI i) (fun j => (9, j, 0)) hG.2.2.2.2.2.2.2.1 (hc8) rfl hi9 (by omega)).m) rfl (Nat.le_of_ble_eq_true rfl) rfl dX7_detachAllFrom_18 rfl rfl rfl (Nat.le_of_ble_eq_true rfl) ⟨(Nat.le_of_ble_eq_true rfl), (Nat.le_of_ble_eq_true rfl)⟩ (Nat.le_of_ble_eq_true rfl) (Nat.le_of_ble_eq_true rfl) (fun v G' hp => ?_) (fun _ _ hp => hp.elim)
      obtain ⟨rfl, e9⟩ := hp
      rw [e9]
      clear e9 G'
      refine rb_cast C (ci := 7) L_X7_56 rfl (by decide) dX7_detachAllFrom_21 rfl ?_
      refine rb_astore_n C dX7_detachAllFrom_24 (Nat.le_of_ble_eq_true rfl) rfl (Lv' := [_, _, _, _]) rfl ?_
      refine rb_aload_n C dX7_detachAllFrom_25 rfl ?_
      refine rw_getI C FR_X7_142 dX7_detachAllFrom_26 rfl (x := (s (9, i, 0) 4)) (rfl) ?_
      refine rb_iload_n C dX7_detachAllFrom_29 rfl ?_
      refine rb_icmp_ne C 38 dX7_detachAllFrom_30 (by decide) (fun h30 => ?_) (fun h30 => ?_)
      · refine rb_iinc C dX7_detachAllFrom_38 rfl (v := _ + 1) rfl rfl (Lv' := [_, _, _, _]) rfl ?_
        refine rb_goto C 2 dX7_detachAllFrom_41 (by decide) ?_
        refine rb_W.unset 3 ?_
        rw [nI_1 i]
        exact ih (i + 1) s (by omega) (by rw [fo_s, ← hs]; exact Eq.symm ((if_neg h30).trans (rfl)))
      · refine rb_aload_n C dX7_detachAllFrom_33 rfl ?_
        refine rb_iconst C dX7_detachAllFrom_34 (v := (-1)) (by decide) ?_
        refine rw_putI C F_X7_142 dX7_detachAllFrom_35 rfl ⟨rfl, rfl⟩ ?_
        refine rb_iinc C dX7_detachAllFrom_38 rfl (v := _ + 1) rfl rfl (Lv' := [_, _, _, _]) rfl ?_
        refine rb_goto C 2 dX7_detachAllFrom_41 (by decide) ?_
        refine rb_W.unset 3 ?_
        rw [nI_1 i]
        exact ih (i + 1) (up2 s (9, i, 0) 4 (-1)) (by omega) (by rw [fo_s, ← hs]; exact Eq.symm ((if_pos h30).trans (rfl)))
  exact loop (cn 1) 0 W (Nat.zero_add _) (fo_0 _ _).symm

theorem x7_detachAllFrom_o {W : rb_I} {cn : Nat → Nat} {n : Int32} {r : rb_R} {q : Nat} (h9 : ¬ r.1 = 9) : x7_detachAllFrom W cn n r q = W r q := by
  unfold x7_detachAllFrom
  refine fo_inv (f := x7_daf_b n) (a := W) (P := fun w => w r q = W r q) rfl (fun i a h => ?_) _
  unfold x7_daf_b
  repeat (any_goals split)
  all_goals first | exact h | (rw [up2_n _ _ _ _ (fun e => h9 (congrArg Prod.fst e.1))]; exact h)
def x7_whyNotUsable (W : rb_I) (cn : Nat → Nat) (j : Nat) (n : Int32) : Int32 := (if (x7_isIn (W (1, 0, 0) (W (9, j, 0) 3).toNatClampNeg) n) = 0 then (1 : Int32) else (if (W (5, n.toNatClampNeg, 0) 1) = 0 then (if (x7_isIn (W (9, j, 0) 2) n) = 0 then (if n = (W (9, j, 0) 1) then (0 : Int32) else (if (x7_agNow W (W (9, j, 0) 1) n (cn 0)) = (-1) then (4 : Int32) else (0 : Int32))) else (3 : Int32)) else (2 : Int32)))
set_option maxRecDepth 100000 in
set_option maxHeartbeats 4000000 in
theorem k_X7_whyNotUsable (l : Launch) (X : rb_X) (G : rb_G) (W : rb_I) (cn : Nat → Nat) (ag : Nat → Nat → Int32) (hG : xCS G cn ag) (j : Nat) (n : Int32) (hI : xCI W cn) (hn : vp_in n 6) : rb_N l X yX7_whyNotUsable (.code yX7_whyNotUsable cX7_whyNotUsable 3 (some .int)) 5 100 0 0 [rbR (0, 0, 0), rbR (9, j, 0), rbI n] (wI G W) (fun v9 G9 => v9 = some (rbI (x7_whyNotUsable W cn j n)) ∧ G9 = wI G W) := by
  have hc0 : cn 0 ≤ 30 := hI.2.2.2.2.2.2.2.2.1
  have hc1 : cn 1 ≤ 10 := hI.2.2.2.2.2.2.2.2.2.1
  have hc2 : cn 2 ≤ 200 := hI.2.2.2.2.2.2.2.2.2.2.1
  refine rb_startN RX7 rfl (by decide +kernel) rfl (Nat.le_of_ble_eq_true rfl) ?_
  intro Φ C E nm
  show rb_W Φ 0 0 0 [some (rbR (0, 0, 0)), some (rbR (9, j, 0)), some (rbI n)] [] (wI G W)
  refine rb_aload_n C dX7_whyNotUsable_0 rfl ?_
  refine rb_aload_n C dX7_whyNotUsable_1 rfl ?_
  refine rw_getI C FR_X7_58 dX7_whyNotUsable_2 rfl (x := (W (9, j, 0) 3)) (rfl) ?_
  refine rb_callV C M_X7_40 (fun l X => (k_X7_receivedAt_v l X G W cn ag hG (W (9, j, 0) 3) (hI.2.2.1 j)).m) rfl (Nat.le_of_ble_eq_true rfl) rfl dX7_whyNotUsable_5 rfl rfl rfl (Nat.le_of_ble_eq_true rfl) ⟨(Nat.le_of_ble_eq_true rfl), (Nat.le_of_ble_eq_true rfl)⟩ (Nat.le_of_ble_eq_true rfl) (Nat.le_of_ble_eq_true rfl) (fun v G' hp => ?_) (fun _ _ hp => hp.elim)
  obtain ⟨rfl, e9⟩ := hp
  rw [e9]
  clear e9 G'
  refine rb_iload_n C dX7_whyNotUsable_8 rfl ?_
  refine rb_callS C M_X7_167 (fun l X => (k_X7_isIn l X G W (W (1, 0, 0) (W (9, j, 0) 3).toNatClampNeg) n).m) dX7_whyNotUsable_9 rfl rfl rfl (Nat.le_of_ble_eq_true rfl) ⟨(Nat.le_of_ble_eq_true rfl), (Nat.le_of_ble_eq_true rfl)⟩ (Nat.le_of_ble_eq_true rfl) (Nat.le_of_ble_eq_true rfl) (fun v G' hp => ?_) (fun _ _ hp => hp.elim)
  obtain ⟨rfl, e9⟩ := hp
  rw [e9]
  clear e9 G'
  refine rb_if_ne C 17 dX7_whyNotUsable_12 (by decide) (fun h12 => ?_) (fun h12 => ?_)
  · refine rb_aload_n C dX7_whyNotUsable_17 rfl ?_
    refine rb_iload_n C dX7_whyNotUsable_18 rfl ?_
    refine rb_callV C M_X7_66 (fun l X => (k_X7_networkAt_v l X G W cn ag hG n hn).m) rfl (Nat.le_of_ble_eq_true rfl) rfl dX7_whyNotUsable_19 rfl rfl rfl (Nat.le_of_ble_eq_true rfl) ⟨(Nat.le_of_ble_eq_true rfl), (Nat.le_of_ble_eq_true rfl)⟩ (Nat.le_of_ble_eq_true rfl) (Nat.le_of_ble_eq_true rfl) (fun v G' hp => ?_) (fun _ _ hp => hp.elim)
    obtain ⟨rfl, e9⟩ := hp
    rw [e9]
    clear e9 G'
    refine rw_getI C FR_X7_70 dX7_whyNotUsable_22 rfl (x := (W (5, n.toNatClampNeg, 0) 1)) (rfl) ?_
    refine rb_if_eq C 30 dX7_whyNotUsable_25 (by decide) (fun h25 => ?_) (fun h25 => ?_)
    · refine rb_aload_n C dX7_whyNotUsable_30 rfl ?_
      refine rw_getI C FR_X7_289 dX7_whyNotUsable_31 rfl (x := (W (9, j, 0) 2)) (rfl) ?_
      refine rb_iload_n C dX7_whyNotUsable_34 rfl ?_
      refine rb_callS C M_X7_167 (fun l X => (k_X7_isIn l X G W (W (9, j, 0) 2) n).m) dX7_whyNotUsable_35 rfl rfl rfl (Nat.le_of_ble_eq_true rfl) ⟨(Nat.le_of_ble_eq_true rfl), (Nat.le_of_ble_eq_true rfl)⟩ (Nat.le_of_ble_eq_true rfl) (Nat.le_of_ble_eq_true rfl) (fun v G' hp => ?_) (fun _ _ hp => hp.elim)
      obtain ⟨rfl, e9⟩ := hp
      rw [e9]
      clear e9 G'
      refine rb_if_eq C 43 dX7_whyNotUsable_38 (by decide) (fun h38 => ?_) (fun h38 => ?_)
      · refine rb_iload_n C dX7_whyNotUsable_43 rfl ?_
        refine rb_aload_n C dX7_whyNotUsable_44 rfl ?_
        refine rw_getI C FR_X7_292 dX7_whyNotUsable_45 rfl (x := (W (9, j, 0) 1)) (rfl) ?_
        refine rb_icmp_eq C 65 dX7_whyNotUsable_48 (by decide) (fun h48 => ?_) (fun h48 => ?_)
        · refine rb_iconst C dX7_whyNotUsable_65 (v := 0) (by decide) ?_
          exact rb_iret C E dX7_whyNotUsable_66 (Nat.le_of_ble_eq_true rfl) (Nat.le_of_ble_eq_true rfl) (pv_ ((if_neg h12).trans ((if_pos h25).trans ((if_pos h38).trans ((if_pos h48).trans (rfl))))))
        · refine rb_aload_n C dX7_whyNotUsable_51 rfl ?_
          refine rb_aload_n C dX7_whyNotUsable_52 rfl ?_
          refine rw_getI C FR_X7_292 dX7_whyNotUsable_53 rfl (x := (W (9, j, 0) 1)) (rfl) ?_
          refine rb_iload_n C dX7_whyNotUsable_56 rfl ?_
          refine rb_callV C M_X7_295 (fun l X => (k_X7_agreementNow l X G W cn ag hG (W (9, j, 0) 1) n ((hI.1 0 (by decide))) hc0).m) rfl (Nat.le_of_ble_eq_true rfl) rfl dX7_whyNotUsable_57 rfl rfl rfl (Nat.le_of_ble_eq_true rfl) ⟨(Nat.le_of_ble_eq_true rfl), (Nat.le_of_ble_eq_true rfl)⟩ (Nat.le_of_ble_eq_true rfl) (Nat.le_of_ble_eq_true rfl) (fun v G' hp => ?_) (fun _ _ hp => hp.elim)
          obtain ⟨rfl, e9⟩ := hp
          rw [e9]
          clear e9 G'
          refine rb_ifnonnull C 65 dX7_whyNotUsable_60 (by decide) (fun r9 q9 => ?_) (fun q9 => ?_)
          · have h60 := agr_some q9
            refine rb_iconst C dX7_whyNotUsable_65 (v := 0) (by decide) ?_
            exact rb_iret C E dX7_whyNotUsable_66 (Nat.le_of_ble_eq_true rfl) (Nat.le_of_ble_eq_true rfl) (pv_ ((if_neg h12).trans ((if_pos h25).trans ((if_pos h38).trans ((if_neg h48).trans ((if_neg h60).trans (rfl)))))))
          · have h60 := agr_none q9
            refine rb_iconst C dX7_whyNotUsable_63 (v := 4) (by decide) ?_
            exact rb_iret C E dX7_whyNotUsable_64 (Nat.le_of_ble_eq_true rfl) (Nat.le_of_ble_eq_true rfl) (pv_ ((if_neg h12).trans ((if_pos h25).trans ((if_pos h38).trans ((if_neg h48).trans ((if_pos h60).trans (rfl)))))))
      · refine rb_iconst C dX7_whyNotUsable_41 (v := 3) (by decide) ?_
        exact rb_iret C E dX7_whyNotUsable_42 (Nat.le_of_ble_eq_true rfl) (Nat.le_of_ble_eq_true rfl) (pv_ ((if_neg h12).trans ((if_pos h25).trans ((if_neg h38).trans (rfl)))))
    · refine rb_iconst C dX7_whyNotUsable_28 (v := 2) (by decide) ?_
      exact rb_iret C E dX7_whyNotUsable_29 (Nat.le_of_ble_eq_true rfl) (Nat.le_of_ble_eq_true rfl) (pv_ ((if_neg h12).trans ((if_neg h25).trans (rfl))))
  · refine rb_iconst C dX7_whyNotUsable_15 (v := 1) (by decide) ?_
    exact rb_iret C E dX7_whyNotUsable_16 (Nat.le_of_ble_eq_true rfl) (Nat.le_of_ble_eq_true rfl) (pv_ ((if_pos h12).trans (rfl)))

def x7_isSteered (W : rb_I) (cn : Nat → Nat) (j : Nat) (n : Int32) : Int32 := (if (W (5, (W (9, j, 0) 1).toNatClampNeg, 0) 2) = (-1) then (0 : Int32) else (if (W (5, (W (9, j, 0) 1).toNatClampNeg, 0) 2) = n then (0 : Int32) else (if (2 : Int32) ≤ (W (9, j, 0) 6) then (0 : Int32) else (if (x7_whyNotUsable W cn j (W (5, (W (9, j, 0) 1).toNatClampNeg, 0) 2)) = 0 then (1 : Int32) else (0 : Int32)))))
theorem z_x7_isSteered (W : rb_I) (cn : Nat → Nat) (j : Nat) (n : Int32) : x7_isSteered W cn j n = 0 ∨ x7_isSteered W cn j n = 1 := by
  unfold x7_isSteered
  repeat' split
  all_goals first | exact Or.inl rfl | exact Or.inr rfl
set_option maxRecDepth 100000 in
set_option maxHeartbeats 4000000 in
theorem k_X7_isSteered (l : Launch) (X : rb_X) (G : rb_G) (W : rb_I) (cn : Nat → Nat) (ag : Nat → Nat → Int32) (hG : xCS G cn ag) (j : Nat) (n : Int32) (hI : xCI W cn) (hn : vp_in n 6) : rb_N l X yX7_isSteered (.code yX7_isSteered cX7_isSteered 4 (some .boolean)) 6 122 0 0 [rbR (0, 0, 0), rbR (9, j, 0), rbI n] (wI G W) (fun v9 G9 => v9 = some (rbI (x7_isSteered W cn j n)) ∧ G9 = wI G W) := by
  have hc0 : cn 0 ≤ 30 := hI.2.2.2.2.2.2.2.2.1
  have hc1 : cn 1 ≤ 10 := hI.2.2.2.2.2.2.2.2.2.1
  have hc2 : cn 2 ≤ 200 := hI.2.2.2.2.2.2.2.2.2.2.1
  refine rb_startN RX7 rfl (by decide +kernel) rfl (Nat.le_of_ble_eq_true rfl) ?_
  intro Φ C E nm
  show rb_W Φ 0 0 0 [some (rbR (0, 0, 0)), some (rbR (9, j, 0)), some (rbI n), none] [] (wI G W)
  refine rb_aload_n C dX7_isSteered_0 rfl ?_
  refine rb_aload_n C dX7_isSteered_1 rfl ?_
  refine rw_getI C FR_X7_292 dX7_isSteered_2 rfl (x := (W (9, j, 0) 1)) (rfl) ?_
  refine rb_callV C M_X7_66 (fun l X => (k_X7_networkAt_v l X G W cn ag hG (W (9, j, 0) 1) (hI.2.1 j)).m) rfl (Nat.le_of_ble_eq_true rfl) rfl dX7_isSteered_5 rfl rfl rfl (Nat.le_of_ble_eq_true rfl) ⟨(Nat.le_of_ble_eq_true rfl), (Nat.le_of_ble_eq_true rfl)⟩ (Nat.le_of_ble_eq_true rfl) (Nat.le_of_ble_eq_true rfl) (fun v G' hp => ?_) (fun _ _ hp => hp.elim)
  obtain ⟨rfl, e9⟩ := hp
  rw [e9]
  clear e9 G'
  refine rw_getI C FR_X7_108 dX7_isSteered_8 rfl (x := (W (5, (W (9, j, 0) 1).toNatClampNeg, 0) 2)) (rfl) ?_
  refine rb_istore_n C dX7_isSteered_11 (Nat.le_of_ble_eq_true rfl) rfl (Lv' := [_, _, _, _]) rfl ?_
  refine rb_iload_n C dX7_isSteered_12 rfl ?_
  refine rb_iconst C dX7_isSteered_13 (v := (-1)) (by decide) ?_
  refine rb_icmp_eq C 43 dX7_isSteered_14 (by decide) (fun h14 => ?_) (fun h14 => ?_)
  · refine rb_iconst C dX7_isSteered_43 (v := 0) (by decide) ?_
    exact rb_zret C E dX7_isSteered_44 (rfl) (Nat.le_of_ble_eq_true rfl) (Nat.le_of_ble_eq_true rfl) (pv_ ((if_pos h14).trans (rfl)))
  · refine rb_iload_n C dX7_isSteered_17 rfl ?_
    refine rb_iload_n C dX7_isSteered_18 rfl ?_
    refine rb_icmp_eq C 43 dX7_isSteered_19 (by decide) (fun h19 => ?_) (fun h19 => ?_)
    · refine rb_iconst C dX7_isSteered_43 (v := 0) (by decide) ?_
      exact rb_zret C E dX7_isSteered_44 (rfl) (Nat.le_of_ble_eq_true rfl) (Nat.le_of_ble_eq_true rfl) (pv_ ((if_neg h14).trans ((if_pos h19).trans (rfl))))
    · refine rb_aload_n C dX7_isSteered_22 rfl ?_
      refine rw_getI C FR_X7_139 dX7_isSteered_23 rfl (x := (W (9, j, 0) 6)) (rfl) ?_
      refine rb_iconst C dX7_isSteered_26 (v := 2) (by decide) ?_
      refine rb_icmp_ge C 43 dX7_isSteered_27 (by decide) (fun h27 => ?_) (fun h27 => ?_)
      · refine rb_iconst C dX7_isSteered_43 (v := 0) (by decide) ?_
        exact rb_zret C E dX7_isSteered_44 (rfl) (Nat.le_of_ble_eq_true rfl) (Nat.le_of_ble_eq_true rfl) (pv_ ((if_neg h14).trans ((if_neg h19).trans ((if_pos h27).trans (rfl)))))
      · refine rb_aload_n C dX7_isSteered_30 rfl ?_
        refine rb_aload_n C dX7_isSteered_31 rfl ?_
        refine rb_iload_n C dX7_isSteered_32 rfl ?_
        refine rb_callV C M_X7_152 (fun l X => (k_X7_whyNotUsable l X G W cn ag hG j (W (5, (W (9, j, 0) 1).toNatClampNeg, 0) 2) hI ((hI.2.2.2.2.2.1 (W (9, j, 0) 1).toNatClampNeg).resolve_left h14)).m) rfl (Nat.le_of_ble_eq_true rfl) rfl dX7_isSteered_33 rfl rfl rfl (Nat.le_of_ble_eq_true rfl) ⟨(Nat.le_of_ble_eq_true rfl), (Nat.le_of_ble_eq_true rfl)⟩ (Nat.le_of_ble_eq_true rfl) (Nat.le_of_ble_eq_true rfl) (fun v G' hp => ?_) (fun _ _ hp => hp.elim)
        obtain ⟨rfl, e9⟩ := hp
        rw [e9]
        clear e9 G'
        refine rb_if_ne C 43 dX7_isSteered_36 (by decide) (fun h36 => ?_) (fun h36 => ?_)
        · refine rb_iconst C dX7_isSteered_43 (v := 0) (by decide) ?_
          exact rb_zret C E dX7_isSteered_44 (rfl) (Nat.le_of_ble_eq_true rfl) (Nat.le_of_ble_eq_true rfl) (pv_ ((if_neg h14).trans ((if_neg h19).trans ((if_neg h27).trans ((if_neg h36).trans (rfl))))))
        · refine rb_iconst C dX7_isSteered_39 (v := 1) (by decide) ?_
          refine rb_goto C 44 dX7_isSteered_40 (by decide) ?_
          exact rb_zret C E dX7_isSteered_44 (rfl) (Nat.le_of_ble_eq_true rfl) (Nat.le_of_ble_eq_true rfl) (pv_ ((if_neg h14).trans ((if_neg h19).trans ((if_neg h27).trans ((if_pos h36).trans (rfl))))))

def x7_makeContact (W : rb_I) (j : Nat) (wh : Int32) : rb_I := (if (W (5, (W (9, j, 0) 4).toNatClampNeg, 0) 6) ≤ 0 then (if (W (9, j, 0) 5) = (-1) then (up2 (x2_put W (W (9, j, 0) 4).toNatClampNeg (W (9, j, 0) 0) wh) (9, j, 0) 5 (W (9, j, 0) 4)) else (if (W (9, j, 0) 5) = (W (9, j, 0) 4) then (up2 (x2_put W (W (9, j, 0) 4).toNatClampNeg (W (9, j, 0) 0) wh) (9, j, 0) 5 (W (9, j, 0) 4)) else (up2 (x2_takeOut (x2_put W (W (9, j, 0) 4).toNatClampNeg (W (9, j, 0) 0) wh) (W (9, j, 0) 5).toNatClampNeg (W (9, j, 0) 0)) (9, j, 0) 5 (W (9, j, 0) 4)))) else (up2 (x2_put W (W (9, j, 0) 4).toNatClampNeg (W (9, j, 0) 0) wh) (5, (W (9, j, 0) 4).toNatClampNeg, 0) 6 ((W (5, (W (9, j, 0) 4).toNatClampNeg, 0) 6) - 1)))
set_option maxRecDepth 100000 in
set_option maxHeartbeats 4000000 in
theorem k_X7_makeContact (l : Launch) (X : rb_X) (G : rb_G) (W : rb_I) (cn : Nat → Nat) (ag : Nat → Nat → Int32) (hG : xCS G cn ag) (j : Nat) (wh : Int32) (hI : xCI W cn) (ha : ¬ W (9, j, 0) 4 = -1) : rb_N l X yX7_makeContact (.code yX7_makeContact cX7_makeContact 4 none) 4 76 0 0 [rbR (0, 0, 0), rbR (9, j, 0), rbI wh] (wI G W) (fun v9 G9 => v9 = none ∧ G9 = wI G (x7_makeContact W j wh)) := by
  have hc0 : cn 0 ≤ 30 := hI.2.2.2.2.2.2.2.2.1
  have hc1 : cn 1 ≤ 10 := hI.2.2.2.2.2.2.2.2.2.1
  have hc2 : cn 2 ≤ 200 := hI.2.2.2.2.2.2.2.2.2.2.1
  refine rb_startN RX7 rfl (by decide +kernel) rfl (Nat.le_of_ble_eq_true rfl) ?_
  intro Φ C E nm
  show rb_W Φ 0 0 0 [some (rbR (0, 0, 0)), some (rbR (9, j, 0)), some (rbI wh), none] [] (wI G W)
  refine rb_aload_n C dX7_makeContact_0 rfl ?_
  refine rb_aload_n C dX7_makeContact_1 rfl ?_
  refine rw_getI C FR_X7_142 dX7_makeContact_2 rfl (x := (W (9, j, 0) 4)) (rfl) ?_
  refine rb_callV C M_X7_66 (fun l X => (k_X7_networkAt_v l X G W cn ag hG (W (9, j, 0) 4) ((hI.2.2.2.1 j).resolve_left ha)).m) rfl (Nat.le_of_ble_eq_true rfl) rfl dX7_makeContact_5 rfl rfl rfl (Nat.le_of_ble_eq_true rfl) ⟨(Nat.le_of_ble_eq_true rfl), (Nat.le_of_ble_eq_true rfl)⟩ (Nat.le_of_ble_eq_true rfl) (Nat.le_of_ble_eq_true rfl) (fun v G' hp => ?_) (fun _ _ hp => hp.elim)
  obtain ⟨rfl, e9⟩ := hp
  rw [e9]
  clear e9 G'
  refine rb_astore_n C dX7_makeContact_8 (Nat.le_of_ble_eq_true rfl) rfl (Lv' := [_, _, _, _]) rfl ?_
  refine rb_aload_n C dX7_makeContact_9 rfl ?_
  refine rw_getP C FR_X7_74 dX7_makeContact_10 rfl (o := some (6, (W (9, j, 0) 4).toNatClampNeg, 0)) (hG.2.2.2.2.1 (W (9, j, 0) 4).toNatClampNeg (vp_in_lt ((hI.2.2.2.1 j).resolve_left ha))).1 ?_
  refine rb_aload_n C dX7_makeContact_13 rfl ?_
  refine rw_getI C FR_X7_132 dX7_makeContact_14 rfl (x := (W (9, j, 0) 0)) (rfl) ?_
  refine rb_iload_n C dX7_makeContact_17 rfl ?_
  refine rb_callV C M_X7_299 (fun l X => (k_X2_put l X G W cn ag hG (W (9, j, 0) 4).toNatClampNeg (W (9, j, 0) 0) wh (vp_in_lt ((hI.2.2.2.1 j).resolve_left ha))).m) rfl (Nat.le_of_ble_eq_true rfl) rfl dX7_makeContact_18 rfl rfl rfl (Nat.le_of_ble_eq_true rfl) ⟨(Nat.le_of_ble_eq_true rfl), (Nat.le_of_ble_eq_true rfl)⟩ (Nat.le_of_ble_eq_true rfl) (Nat.le_of_ble_eq_true rfl) (fun v G' hp => ?_) (fun _ _ hp => hp.elim)
  obtain ⟨rfl, e9⟩ := hp
  rw [e9]
  clear e9 G'
  refine rb_aload_n C dX7_makeContact_21 rfl ?_
  refine rw_getI C FR_X7_120 dX7_makeContact_22 rfl (x := (W (5, (W (9, j, 0) 4).toNatClampNeg, 0) 6)) ((x2_put_o (show ¬ ((5 : Nat) = 7) by decide)).trans (rfl)) ?_
  refine rb_if_le C 39 dX7_makeContact_25 (by decide) (fun h25 => ?_) (fun h25 => ?_)
  · refine rb_aload_n C dX7_makeContact_39 rfl ?_
    refine rw_getI C FR_X7_171 dX7_makeContact_40 rfl (x := (W (9, j, 0) 5)) ((x2_put_o (show ¬ ((9 : Nat) = 7) by decide)).trans (rfl)) ?_
    refine rb_iconst C dX7_makeContact_43 (v := (-1)) (by decide) ?_
    refine rb_icmp_eq C 76 dX7_makeContact_44 (by decide) (fun h44 => ?_) (fun h44 => ?_)
    · refine rb_aload_n C dX7_makeContact_76 rfl ?_
      refine rb_aload_n C dX7_makeContact_77 rfl ?_
      refine rw_getI C FR_X7_142 dX7_makeContact_78 rfl (x := (W (9, j, 0) 4)) ((x2_put_o (show ¬ ((9 : Nat) = 7) by decide)).trans (rfl)) ?_
      refine rw_putI C F_X7_171 dX7_makeContact_81 rfl ⟨rfl, rfl⟩ ?_
      exact rb_vret C E dX7_makeContact_84 (Nat.le_of_ble_eq_true rfl) (Nat.le_of_ble_eq_true rfl) (pw_ ((if_pos h25).trans ((if_pos h44).trans (rfl))))
    · refine rb_aload_n C dX7_makeContact_47 rfl ?_
      refine rw_getI C FR_X7_171 dX7_makeContact_48 rfl (x := (W (9, j, 0) 5)) ((x2_put_o (show ¬ ((9 : Nat) = 7) by decide)).trans (rfl)) ?_
      refine rb_aload_n C dX7_makeContact_51 rfl ?_
      refine rw_getI C FR_X7_142 dX7_makeContact_52 rfl (x := (W (9, j, 0) 4)) ((x2_put_o (show ¬ ((9 : Nat) = 7) by decide)).trans (rfl)) ?_
      refine rb_icmp_eq C 76 dX7_makeContact_55 (by decide) (fun h55 => ?_) (fun h55 => ?_)
      · refine rb_aload_n C dX7_makeContact_76 rfl ?_
        refine rb_aload_n C dX7_makeContact_77 rfl ?_
        refine rw_getI C FR_X7_142 dX7_makeContact_78 rfl (x := (W (9, j, 0) 4)) ((x2_put_o (show ¬ ((9 : Nat) = 7) by decide)).trans (rfl)) ?_
        refine rw_putI C F_X7_171 dX7_makeContact_81 rfl ⟨rfl, rfl⟩ ?_
        exact rb_vret C E dX7_makeContact_84 (Nat.le_of_ble_eq_true rfl) (Nat.le_of_ble_eq_true rfl) (pw_ ((if_pos h25).trans ((if_neg h44).trans ((if_pos h55).trans (rfl)))))
      · refine rb_aload_n C dX7_makeContact_58 rfl ?_
        refine rb_aload_n C dX7_makeContact_59 rfl ?_
        refine rw_getI C FR_X7_171 dX7_makeContact_60 rfl (x := (W (9, j, 0) 5)) ((x2_put_o (show ¬ ((9 : Nat) = 7) by decide)).trans (rfl)) ?_
        refine rb_callV C M_X7_66 (fun l X => (k_X7_networkAt_v l X G (x2_put W (W (9, j, 0) 4).toNatClampNeg (W (9, j, 0) 0) wh) cn ag hG (W (9, j, 0) 5) ((hI.2.2.2.2.1 j).resolve_left h44)).m) rfl (Nat.le_of_ble_eq_true rfl) rfl dX7_makeContact_63 rfl rfl rfl (Nat.le_of_ble_eq_true rfl) ⟨(Nat.le_of_ble_eq_true rfl), (Nat.le_of_ble_eq_true rfl)⟩ (Nat.le_of_ble_eq_true rfl) (Nat.le_of_ble_eq_true rfl) (fun v G' hp => ?_) (fun _ _ hp => hp.elim)
        obtain ⟨rfl, e9⟩ := hp
        rw [e9]
        clear e9 G'
        refine rw_getP C FR_X7_74 dX7_makeContact_66 rfl (o := some (6, (W (9, j, 0) 5).toNatClampNeg, 0)) (hG.2.2.2.2.1 (W (9, j, 0) 5).toNatClampNeg (vp_in_lt ((hI.2.2.2.2.1 j).resolve_left h44))).1 ?_
        refine rb_aload_n C dX7_makeContact_69 rfl ?_
        refine rw_getI C FR_X7_132 dX7_makeContact_70 rfl (x := (W (9, j, 0) 0)) ((x2_put_o (show ¬ ((9 : Nat) = 7) by decide)).trans (rfl)) ?_
        refine rb_callV C M_X7_302 (fun l X => (k_X2_takeOut l X G (x2_put W (W (9, j, 0) 4).toNatClampNeg (W (9, j, 0) 0) wh) cn ag hG (W (9, j, 0) 5).toNatClampNeg (W (9, j, 0) 0) (vp_in_lt ((hI.2.2.2.2.1 j).resolve_left h44))).m) rfl (Nat.le_of_ble_eq_true rfl) rfl dX7_makeContact_73 rfl rfl rfl (Nat.le_of_ble_eq_true rfl) ⟨(Nat.le_of_ble_eq_true rfl), (Nat.le_of_ble_eq_true rfl)⟩ (Nat.le_of_ble_eq_true rfl) (Nat.le_of_ble_eq_true rfl) (fun v G' hp => ?_) (fun _ _ hp => hp.elim)
        obtain ⟨rfl, e9⟩ := hp
        rw [e9]
        clear e9 G'
        refine rb_aload_n C dX7_makeContact_76 rfl ?_
        refine rb_aload_n C dX7_makeContact_77 rfl ?_
        refine rw_getI C FR_X7_142 dX7_makeContact_78 rfl (x := (W (9, j, 0) 4)) ((x2_takeOut_o (show ¬ ((9 : Nat) = 7) by decide)).trans ((x2_put_o (show ¬ ((9 : Nat) = 7) by decide)).trans (rfl))) ?_
        refine rw_putI C F_X7_171 dX7_makeContact_81 rfl ⟨rfl, rfl⟩ ?_
        exact rb_vret C E dX7_makeContact_84 (Nat.le_of_ble_eq_true rfl) (Nat.le_of_ble_eq_true rfl) (pw_ ((if_pos h25).trans ((if_neg h44).trans ((if_neg h55).trans (rfl)))))
  · refine rb_aload_n C dX7_makeContact_28 rfl ?_
    refine rb_dup C dX7_makeContact_29 rfl ?_
    refine rw_getI C FR_X7_120 dX7_makeContact_30 rfl (x := (W (5, (W (9, j, 0) 4).toNatClampNeg, 0) 6)) ((x2_put_o (show ¬ ((5 : Nat) = 7) by decide)).trans (rfl)) ?_
    refine rb_iconst C dX7_makeContact_33 (v := 1) (by decide) ?_
    refine rb_isub C dX7_makeContact_34 ?_
    refine rw_putI C F_X7_120 dX7_makeContact_35 rfl ⟨rfl, rfl⟩ ?_
    exact rb_vret C E dX7_makeContact_38 (Nat.le_of_ble_eq_true rfl) (Nat.le_of_ble_eq_true rfl) (pw_ ((if_neg h25).trans (rfl)))

def x7_whyNotFound (W : rb_I) (j : Nat) (k : Nat) : Int32 := (if (W (9, j, 0) 4) = (-1) then (1 : Int32) else (if (W (9, k, 0) 5) = (-1) then (2 : Int32) else (if (x2_has W (W (9, k, 0) 5).toNatClampNeg (W (9, k, 0) 0)) = 0 then (3 : Int32) else (if (W (9, k, 0) 4) = (W (9, k, 0) 5) then (0 : Int32) else (4 : Int32)))))
set_option maxRecDepth 100000 in
set_option maxHeartbeats 4000000 in
theorem k_X7_whyNotFound (l : Launch) (X : rb_X) (G : rb_G) (W : rb_I) (cn : Nat → Nat) (ag : Nat → Nat → Int32) (hG : xCS G cn ag) (j : Nat) (k : Nat) (hI : xCI W cn) : rb_N l X yX7_whyNotFound (.code yX7_whyNotFound cX7_whyNotFound 3 (some .int)) 4 75 0 0 [rbR (0, 0, 0), rbR (9, j, 0), rbR (9, k, 0)] (wI G W) (fun v9 G9 => v9 = some (rbI (x7_whyNotFound W j k)) ∧ G9 = wI G W) := by
  have hc0 : cn 0 ≤ 30 := hI.2.2.2.2.2.2.2.2.1
  have hc1 : cn 1 ≤ 10 := hI.2.2.2.2.2.2.2.2.2.1
  have hc2 : cn 2 ≤ 200 := hI.2.2.2.2.2.2.2.2.2.2.1
  refine rb_startN RX7 rfl (by decide +kernel) rfl (Nat.le_of_ble_eq_true rfl) ?_
  intro Φ C E nm
  show rb_W Φ 0 0 0 [some (rbR (0, 0, 0)), some (rbR (9, j, 0)), some (rbR (9, k, 0))] [] (wI G W)
  refine rb_aload_n C dX7_whyNotFound_0 rfl ?_
  refine rw_getI C FR_X7_142 dX7_whyNotFound_1 rfl (x := (W (9, j, 0) 4)) (rfl) ?_
  refine rb_iconst C dX7_whyNotFound_4 (v := (-1)) (by decide) ?_
  refine rb_icmp_ne C 10 dX7_whyNotFound_5 (by decide) (fun h5 => ?_) (fun h5 => ?_)
  · refine rb_aload_n C dX7_whyNotFound_10 rfl ?_
    refine rw_getI C FR_X7_171 dX7_whyNotFound_11 rfl (x := (W (9, k, 0) 5)) (rfl) ?_
    refine rb_iconst C dX7_whyNotFound_14 (v := (-1)) (by decide) ?_
    refine rb_icmp_ne C 20 dX7_whyNotFound_15 (by decide) (fun h15 => ?_) (fun h15 => ?_)
    · refine rb_aload_n C dX7_whyNotFound_20 rfl ?_
      refine rb_aload_n C dX7_whyNotFound_21 rfl ?_
      refine rw_getI C FR_X7_171 dX7_whyNotFound_22 rfl (x := (W (9, k, 0) 5)) (rfl) ?_
      refine rb_callV C M_X7_66 (fun l X => (k_X7_networkAt_v l X G W cn ag hG (W (9, k, 0) 5) ((hI.2.2.2.2.1 k).resolve_left h15)).m) rfl (Nat.le_of_ble_eq_true rfl) rfl dX7_whyNotFound_25 rfl rfl rfl (Nat.le_of_ble_eq_true rfl) ⟨(Nat.le_of_ble_eq_true rfl), (Nat.le_of_ble_eq_true rfl)⟩ (Nat.le_of_ble_eq_true rfl) (Nat.le_of_ble_eq_true rfl) (fun v G' hp => ?_) (fun _ _ hp => hp.elim)
      obtain ⟨rfl, e9⟩ := hp
      rw [e9]
      clear e9 G'
      refine rw_getP C FR_X7_74 dX7_whyNotFound_28 rfl (o := some (6, (W (9, k, 0) 5).toNatClampNeg, 0)) (hG.2.2.2.2.1 (W (9, k, 0) 5).toNatClampNeg (vp_in_lt ((hI.2.2.2.2.1 k).resolve_left h15))).1 ?_
      refine rb_aload_n C dX7_whyNotFound_31 rfl ?_
      refine rw_getI C FR_X7_132 dX7_whyNotFound_32 rfl (x := (W (9, k, 0) 0)) (rfl) ?_
      refine rb_callV C M_X7_177 (fun l X => (k_X2_has l X G W cn ag hG (W (9, k, 0) 5).toNatClampNeg (W (9, k, 0) 0) (vp_in_lt ((hI.2.2.2.2.1 k).resolve_left h15))).m) rfl (Nat.le_of_ble_eq_true rfl) rfl dX7_whyNotFound_35 rfl rfl rfl (Nat.le_of_ble_eq_true rfl) ⟨(Nat.le_of_ble_eq_true rfl), (Nat.le_of_ble_eq_true rfl)⟩ (Nat.le_of_ble_eq_true rfl) (Nat.le_of_ble_eq_true rfl) (fun v G' hp => ?_) (fun _ _ hp => hp.elim)
      obtain ⟨rfl, e9⟩ := hp
      rw [e9]
      clear e9 G'
      refine rb_if_ne C 43 dX7_whyNotFound_38 (by decide) (fun h38 => ?_) (fun h38 => ?_)
      · refine rb_aload_n C dX7_whyNotFound_43 rfl ?_
        refine rw_getI C FR_X7_142 dX7_whyNotFound_44 rfl (x := (W (9, k, 0) 4)) (rfl) ?_
        refine rb_aload_n C dX7_whyNotFound_47 rfl ?_
        refine rw_getI C FR_X7_171 dX7_whyNotFound_48 rfl (x := (W (9, k, 0) 5)) (rfl) ?_
        refine rb_icmp_ne C 58 dX7_whyNotFound_51 (by decide) (fun h51 => ?_) (fun h51 => ?_)
        · refine rb_iconst C dX7_whyNotFound_58 (v := 4) (by decide) ?_
          exact rb_iret C E dX7_whyNotFound_59 (Nat.le_of_ble_eq_true rfl) (Nat.le_of_ble_eq_true rfl) (pv_ ((if_neg h5).trans ((if_neg h15).trans ((if_neg h38).trans ((if_neg h51).trans (rfl))))))
        · refine rb_iconst C dX7_whyNotFound_54 (v := 0) (by decide) ?_
          refine rb_goto C 59 dX7_whyNotFound_55 (by decide) ?_
          exact rb_iret C E dX7_whyNotFound_59 (Nat.le_of_ble_eq_true rfl) (Nat.le_of_ble_eq_true rfl) (pv_ ((if_neg h5).trans ((if_neg h15).trans ((if_neg h38).trans ((if_pos h51).trans (rfl))))))
      · refine rb_iconst C dX7_whyNotFound_41 (v := 3) (by decide) ?_
        exact rb_iret C E dX7_whyNotFound_42 (Nat.le_of_ble_eq_true rfl) (Nat.le_of_ble_eq_true rfl) (pv_ ((if_neg h5).trans ((if_neg h15).trans ((if_pos h38).trans (rfl)))))
    · refine rb_iconst C dX7_whyNotFound_18 (v := 2) (by decide) ?_
      exact rb_iret C E dX7_whyNotFound_19 (Nat.le_of_ble_eq_true rfl) (Nat.le_of_ble_eq_true rfl) (pv_ ((if_neg h5).trans ((if_pos h15).trans (rfl))))
  · refine rb_iconst C dX7_whyNotFound_8 (v := 1) (by decide) ?_
    exact rb_iret C E dX7_whyNotFound_9 (Nat.le_of_ble_eq_true rfl) (Nat.le_of_ble_eq_true rfl) (pv_ ((if_pos h5).trans (rfl)))

def x7_priceOfCalling (W : rb_I) (j : Nat) : Int32 := (if (x6_isAbroad W j) = 0 then (W (5, (W (9, j, 0) 1).toNatClampNeg, 0) 3) else (W (5, (W (9, j, 0) 1).toNatClampNeg, 0) 4))
set_option maxRecDepth 100000 in
set_option maxHeartbeats 4000000 in
theorem k_X7_priceOfCalling (l : Launch) (X : rb_X) (G : rb_G) (W : rb_I) (cn : Nat → Nat) (ag : Nat → Nat → Int32) (hG : xCS G cn ag) (j : Nat) (hI : xCI W cn) : rb_N l X yX7_priceOfCalling (.code yX7_priceOfCalling cX7_priceOfCalling 3 (some .int)) 3 54 0 0 [rbR (0, 0, 0), rbR (9, j, 0)] (wI G W) (fun v9 G9 => v9 = some (rbI (x7_priceOfCalling W j)) ∧ G9 = wI G W) := by
  have hc0 : cn 0 ≤ 30 := hI.2.2.2.2.2.2.2.2.1
  have hc1 : cn 1 ≤ 10 := hI.2.2.2.2.2.2.2.2.2.1
  have hc2 : cn 2 ≤ 200 := hI.2.2.2.2.2.2.2.2.2.2.1
  refine rb_startN RX7 rfl (by decide +kernel) rfl (Nat.le_of_ble_eq_true rfl) ?_
  intro Φ C E nm
  show rb_W Φ 0 0 0 [some (rbR (0, 0, 0)), some (rbR (9, j, 0)), none] [] (wI G W)
  refine rb_aload_n C dX7_priceOfCalling_0 rfl ?_
  refine rb_aload_n C dX7_priceOfCalling_1 rfl ?_
  refine rw_getI C FR_X7_292 dX7_priceOfCalling_2 rfl (x := (W (9, j, 0) 1)) (rfl) ?_
  refine rb_callV C M_X7_66 (fun l X => (k_X7_networkAt_v l X G W cn ag hG (W (9, j, 0) 1) (hI.2.1 j)).m) rfl (Nat.le_of_ble_eq_true rfl) rfl dX7_priceOfCalling_5 rfl rfl rfl (Nat.le_of_ble_eq_true rfl) ⟨(Nat.le_of_ble_eq_true rfl), (Nat.le_of_ble_eq_true rfl)⟩ (Nat.le_of_ble_eq_true rfl) (Nat.le_of_ble_eq_true rfl) (fun v G' hp => ?_) (fun _ _ hp => hp.elim)
  obtain ⟨rfl, e9⟩ := hp
  rw [e9]
  clear e9 G'
  refine rb_astore_n C dX7_priceOfCalling_8 (Nat.le_of_ble_eq_true rfl) rfl (Lv' := [_, _, _]) rfl ?_
  refine rb_aload_n C dX7_priceOfCalling_9 rfl ?_
  refine rb_callV C M_X7_317 (fun l X => (k_X6_isAbroad l X G W j).m) rfl (Nat.le_of_ble_eq_true rfl) rfl dX7_priceOfCalling_10 rfl rfl rfl (Nat.le_of_ble_eq_true rfl) ⟨(Nat.le_of_ble_eq_true rfl), (Nat.le_of_ble_eq_true rfl)⟩ (Nat.le_of_ble_eq_true rfl) (Nat.le_of_ble_eq_true rfl) (fun v G' hp => ?_) (fun _ _ hp => hp.elim)
  obtain ⟨rfl, e9⟩ := hp
  rw [e9]
  clear e9 G'
  refine rb_if_eq C 23 dX7_priceOfCalling_13 (by decide) (fun h13 => ?_) (fun h13 => ?_)
  · refine rb_aload_n C dX7_priceOfCalling_23 rfl ?_
    refine rw_getI C FR_X7_111 dX7_priceOfCalling_24 rfl (x := (W (5, (W (9, j, 0) 1).toNatClampNeg, 0) 3)) (rfl) ?_
    exact rb_iret C E dX7_priceOfCalling_27 (Nat.le_of_ble_eq_true rfl) (Nat.le_of_ble_eq_true rfl) (pv_ ((if_pos h13).trans (rfl)))
  · refine rb_aload_n C dX7_priceOfCalling_16 rfl ?_
    refine rw_getI C FR_X7_114 dX7_priceOfCalling_17 rfl (x := (W (5, (W (9, j, 0) 1).toNatClampNeg, 0) 4)) (rfl) ?_
    refine rb_goto C 27 dX7_priceOfCalling_20 (by decide) ?_
    exact rb_iret C E dX7_priceOfCalling_27 (Nat.le_of_ble_eq_true rfl) (Nat.le_of_ble_eq_true rfl) (pv_ ((if_neg h13).trans (rfl)))

def x7_priceOfBeingCalled (W : rb_I) (j : Nat) : Int32 := (if (x6_isAbroad W j) = 0 then (0 : Int32) else (W (5, (W (9, j, 0) 1).toNatClampNeg, 0) 5))
set_option maxRecDepth 100000 in
set_option maxHeartbeats 4000000 in
theorem k_X7_priceOfBeingCalled (l : Launch) (X : rb_X) (G : rb_G) (W : rb_I) (cn : Nat → Nat) (ag : Nat → Nat → Int32) (hG : xCS G cn ag) (j : Nat) (hI : xCI W cn) : rb_N l X yX7_priceOfBeingCalled (.code yX7_priceOfBeingCalled cX7_priceOfBeingCalled 2 (some .int)) 3 54 0 0 [rbR (0, 0, 0), rbR (9, j, 0)] (wI G W) (fun v9 G9 => v9 = some (rbI (x7_priceOfBeingCalled W j)) ∧ G9 = wI G W) := by
  have hc0 : cn 0 ≤ 30 := hI.2.2.2.2.2.2.2.2.1
  have hc1 : cn 1 ≤ 10 := hI.2.2.2.2.2.2.2.2.2.1
  have hc2 : cn 2 ≤ 200 := hI.2.2.2.2.2.2.2.2.2.2.1
  refine rb_startN RX7 rfl (by decide +kernel) rfl (Nat.le_of_ble_eq_true rfl) ?_
  intro Φ C E nm
  show rb_W Φ 0 0 0 [some (rbR (0, 0, 0)), some (rbR (9, j, 0))] [] (wI G W)
  refine rb_aload_n C dX7_priceOfBeingCalled_0 rfl ?_
  refine rb_callV C M_X7_317 (fun l X => (k_X6_isAbroad l X G W j).m) rfl (Nat.le_of_ble_eq_true rfl) rfl dX7_priceOfBeingCalled_1 rfl rfl rfl (Nat.le_of_ble_eq_true rfl) ⟨(Nat.le_of_ble_eq_true rfl), (Nat.le_of_ble_eq_true rfl)⟩ (Nat.le_of_ble_eq_true rfl) (Nat.le_of_ble_eq_true rfl) (fun v G' hp => ?_) (fun _ _ hp => hp.elim)
  obtain ⟨rfl, e9⟩ := hp
  rw [e9]
  clear e9 G'
  refine rb_if_eq C 21 dX7_priceOfBeingCalled_4 (by decide) (fun h4 => ?_) (fun h4 => ?_)
  · refine rb_iconst C dX7_priceOfBeingCalled_21 (v := 0) (by decide) ?_
    exact rb_iret C E dX7_priceOfBeingCalled_22 (Nat.le_of_ble_eq_true rfl) (Nat.le_of_ble_eq_true rfl) (pv_ ((if_pos h4).trans (rfl)))
  · refine rb_aload_n C dX7_priceOfBeingCalled_7 rfl ?_
    refine rb_aload_n C dX7_priceOfBeingCalled_8 rfl ?_
    refine rw_getI C FR_X7_292 dX7_priceOfBeingCalled_9 rfl (x := (W (9, j, 0) 1)) (rfl) ?_
    refine rb_callV C M_X7_66 (fun l X => (k_X7_networkAt_v l X G W cn ag hG (W (9, j, 0) 1) (hI.2.1 j)).m) rfl (Nat.le_of_ble_eq_true rfl) rfl dX7_priceOfBeingCalled_12 rfl rfl rfl (Nat.le_of_ble_eq_true rfl) ⟨(Nat.le_of_ble_eq_true rfl), (Nat.le_of_ble_eq_true rfl)⟩ (Nat.le_of_ble_eq_true rfl) (Nat.le_of_ble_eq_true rfl) (fun v G' hp => ?_) (fun _ _ hp => hp.elim)
    obtain ⟨rfl, e9⟩ := hp
    rw [e9]
    clear e9 G'
    refine rw_getI C FR_X7_117 dX7_priceOfBeingCalled_15 rfl (x := (W (5, (W (9, j, 0) 1).toNatClampNeg, 0) 5)) (rfl) ?_
    refine rb_goto C 22 dX7_priceOfBeingCalled_18 (by decide) ?_
    exact rb_iret C E dX7_priceOfBeingCalled_22 (Nat.le_of_ble_eq_true rfl) (Nat.le_of_ble_eq_true rfl) (pv_ ((if_neg h4).trans (rfl)))

def x7_bm_b  (i : Nat) (s : rb_I) : rb_I := (up2 s (9, i, 0) 10 0)
def x7_beginMonth (W : rb_I) (cn : Nat → Nat)  : rb_I := (fo x7_bm_b (cn 1) W)
set_option maxRecDepth 100000 in
set_option maxHeartbeats 4000000 in
theorem k_X7_beginMonth (l : Launch) (X : rb_X) (G : rb_G) (W : rb_I) (cn : Nat → Nat) (ag : Nat → Nat → Int32) (hG : xCS G cn ag)  (hI : xCI W cn) : rb_N l X yX7_beginMonth (.code yX7_beginMonth cX7_beginMonth 2 none) 4 76 0 0 [rbR (0, 0, 0)] (wI G W) (fun v9 G9 => v9 = none ∧ G9 = wI G (x7_beginMonth W cn)) := by
  have hc0 : cn 0 ≤ 30 := hI.2.2.2.2.2.2.2.2.1
  have hc1 : cn 1 ≤ 10 := hI.2.2.2.2.2.2.2.2.2.1
  have hc2 : cn 2 ≤ 200 := hI.2.2.2.2.2.2.2.2.2.2.1
  refine rb_startN RX7 rfl (by decide +kernel) rfl (Nat.le_of_ble_eq_true rfl) ?_
  intro Φ C E nm
  show rb_W Φ 0 0 0 [some (rbR (0, 0, 0)), none] [] (wI G W)
  refine rb_iconst C dX7_beginMonth_0 (v := 0) (by decide) ?_
  refine rb_istore_n C dX7_beginMonth_1 (Nat.le_of_ble_eq_true rfl) rfl (Lv' := [_, _]) rfl ?_
  have loop : ∀ (d i : Nat) (s : rb_I), i + d = (cn 1) → s = fo x7_bm_b i W → rb_W Φ 0 0 2 [some (rbR (0, 0, 0)), some (rbI (nI i))] [] (wI G s) := by
    intro d
    induction d with
    | zero =>
      intro i s hi hs
      obtain rfl : i = (cn 1) := by omega
      have hc8 : s (4, 1, 0) 2 = nI (cn 1) := by
        rw [hs]
        refine fo_inv (f := x7_bm_b) (a := W) (P := fun w : rb_I => w (4, 1, 0) 2 = nI (cn 1)) (by simpa [up2] using hI.1 1 (by decide)) (fun i a h => ?_) _
        unfold x7_bm_b; (repeat (any_goals split)) <;> simpa [up2] using h
      subst hs
      refine rb_iload_n C dX7_beginMonth_2 rfl ?_
      refine rb_aload_n C dX7_beginMonth_3 rfl ?_
      refine rw_getP C FR_X7_32 dX7_beginMonth_4 rfl (o := some (4, 1, 0)) (hG.1 4 (by decide)) ?_
      refine rb_callV C M_X7_48 (fun l X => (k_size l X G (fo x7_bm_b (cn 1) W) (4, 1, 0) (nI (cn 1)) rfl (hc8)).m) rfl (Nat.le_of_ble_eq_true rfl) rfl dX7_beginMonth_7 rfl rfl rfl (Nat.le_of_ble_eq_true rfl) ⟨(Nat.le_of_ble_eq_true rfl), (Nat.le_of_ble_eq_true rfl)⟩ (Nat.le_of_ble_eq_true rfl) (Nat.le_of_ble_eq_true rfl) (fun v G' hp => ?_) (fun _ _ hp => hp.elim)
      obtain ⟨rfl, e9⟩ := hp
      rw [e9]
      clear e9 G'
      refine rb_icmp_ge C 34 dX7_beginMonth_10 (by decide) (fun _ => ?_) (fun h9 => absurd ((nI_le (a := cn 1) (b := cn 1) (Nat.le_refl _) (by omega))) h9)
      exact rb_vret C E dX7_beginMonth_34 (Nat.le_of_ble_eq_true rfl) (Nat.le_of_ble_eq_true rfl) (pw_ (rfl))
    | succ d ih =>
      intro i s hi hs
      have hi9 : i < (cn 1) := by omega
      have hc8 : s (4, 1, 0) 2 = nI (cn 1) := by
        rw [hs]
        refine fo_inv (f := x7_bm_b) (a := W) (P := fun w : rb_I => w (4, 1, 0) 2 = nI (cn 1)) (by simpa [up2] using hI.1 1 (by decide)) (fun i a h => ?_) _
        unfold x7_bm_b; (repeat (any_goals split)) <;> simpa [up2] using h
      refine rb_iload_n C dX7_beginMonth_2 rfl ?_
      refine rb_aload_n C dX7_beginMonth_3 rfl ?_
      refine rw_getP C FR_X7_32 dX7_beginMonth_4 rfl (o := some (4, 1, 0)) (hG.1 4 (by decide)) ?_
      refine rb_callV C M_X7_48 (fun l X => (k_size l X G s (4, 1, 0) (nI (cn 1)) rfl (hc8)).m) rfl (Nat.le_of_ble_eq_true rfl) rfl dX7_beginMonth_7 rfl rfl rfl (Nat.le_of_ble_eq_true rfl) ⟨(Nat.le_of_ble_eq_true rfl), (Nat.le_of_ble_eq_true rfl)⟩ (Nat.le_of_ble_eq_true rfl) (Nat.le_of_ble_eq_true rfl) (fun v G' hp => ?_) (fun _ _ hp => hp.elim)
      obtain ⟨rfl, e9⟩ := hp
      rw [e9]
      clear e9 G'
      refine rb_icmp_ge C 34 dX7_beginMonth_10 (by decide) (fun h9 => absurd h9 ((nI_ge (a := i) (b := cn 1) hi9 (by omega)))) (fun _ => ?_)
      refine rb_aload_n C dX7_beginMonth_13 rfl ?_
      refine rw_getP C FR_X7_32 dX7_beginMonth_14 rfl (o := some (4, 1, 0)) (hG.1 4 (by decide)) ?_
      refine rb_iload_n C dX7_beginMonth_17 rfl ?_
      refine rb_callV C M_X7_52 (fun l X => (k_get l X G s 1 (cn 1) i (nI i) (fun j => (9, j, 0)) hG.2.2.2.2.2.2.2.1 (hc8) rfl hi9 (by omega)).m) rfl (Nat.le_of_ble_eq_true rfl) rfl dX7_beginMonth_18 rfl rfl rfl (Nat.le_of_ble_eq_true rfl) ⟨(Nat.le_of_ble_eq_true rfl), (Nat.le_of_ble_eq_true rfl)⟩ (Nat.le_of_ble_eq_true rfl) (Nat.le_of_ble_eq_true rfl) (fun v G' hp => ?_) (fun _ _ hp => hp.elim)
      obtain ⟨rfl, e9⟩ := hp
      rw [e9]
      clear e9 G'
      refine rb_cast C (ci := 7) L_X7_56 rfl (by decide) dX7_beginMonth_21 rfl ?_
      refine rb_iconst C dX7_beginMonth_24 (v := 0) (by decide) ?_
      refine rw_putI C F_X7_184 dX7_beginMonth_25 rfl ⟨rfl, rfl⟩ ?_
      refine rb_iinc C dX7_beginMonth_28 rfl (v := _ + 1) rfl rfl (Lv' := [_, _]) rfl ?_
      refine rb_goto C 2 dX7_beginMonth_31 (by decide) ?_
      rw [nI_1 i]
      exact ih (i + 1) (up2 s (9, i, 0) 10 0) (by omega) (by rw [fo_s, ← hs]; exact Eq.symm (rfl))
  exact loop (cn 1) 0 W (Nat.zero_add _) (fo_0 _ _).symm

