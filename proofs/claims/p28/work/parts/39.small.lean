def x2_isLine (k : Int32) : Int32 := (if k < 0 then (0 : Int32) else (if (10 : Int32) ≤ k then (0 : Int32) else (1 : Int32)))
theorem z_x2_isLine (k : Int32) : x2_isLine k = 0 ∨ x2_isLine k = 1 := by
  unfold x2_isLine
  repeat' split
  all_goals first | exact Or.inl rfl | exact Or.inr rfl
set_option maxRecDepth 100000 in
set_option maxHeartbeats 4000000 in
theorem k_X2_isLine (l : Launch) (X : rb_X) (G : rb_G) (W : rb_I) (cn : Nat → Nat) (ag : Nat → Nat → Int32) (hG : xCS G cn ag) (k : Int32) (n : Nat) (hn : n < 6) : rb_N l X yX2_isLine (.code yX2_isLine cX2_isLine 2 (some .boolean)) 1 12 0 0 [rbR (6, n, 0), rbI k] (wI G W) (fun v9 G9 => v9 = some (rbI (x2_isLine k)) ∧ G9 = wI G W) := by
  refine rb_startN RX2 rfl (by decide +kernel) rfl (Nat.le_of_ble_eq_true rfl) ?_
  intro Φ C E nm
  show rb_W Φ 0 0 0 [some (rbR (6, n, 0)), some (rbI k)] [] (wI G W)
  refine rb_iload_n C dX2_isLine_0 rfl ?_
  refine rb_if_lt C 17 dX2_isLine_1 (by decide) (fun h1 => ?_) (fun h1 => ?_)
  · refine rb_iconst C dX2_isLine_17 (v := 0) (by decide) ?_
    exact rb_zret C E dX2_isLine_18 (rfl) (Nat.le_of_ble_eq_true rfl) (Nat.le_of_ble_eq_true rfl) (pv_ ((if_pos h1).trans (rfl)))
  · refine rb_iload_n C dX2_isLine_4 rfl ?_
    refine rb_aload_n C dX2_isLine_5 rfl ?_
    refine rw_getP C FR_X2_9 dX2_isLine_6 rfl (o := some (7, n, 0)) (hG.2.2.2.2.1 n hn).2.1 ?_
    refine rw_alen C (x := 10) 10 dX2_isLine_9 rfl (by first | exact Or.inl rfl | exact Or.inr (Nat.le_of_ble_eq_true rfl)) (Nat.le_of_ble_eq_true rfl) (hG.2.2.2.2.1 n hn).2.2 rfl ?_
    refine rb_icmp_ge C 17 dX2_isLine_10 (by decide) (fun h10 => ?_) (fun h10 => ?_)
    · refine rb_iconst C dX2_isLine_17 (v := 0) (by decide) ?_
      exact rb_zret C E dX2_isLine_18 (rfl) (Nat.le_of_ble_eq_true rfl) (Nat.le_of_ble_eq_true rfl) (pv_ ((if_neg h1).trans ((if_pos h10).trans (rfl))))
    · refine rb_iconst C dX2_isLine_13 (v := 1) (by decide) ?_
      refine rb_goto C 18 dX2_isLine_14 (by decide) ?_
      exact rb_zret C E dX2_isLine_18 (rfl) (Nat.le_of_ble_eq_true rfl) (Nat.le_of_ble_eq_true rfl) (pv_ ((if_neg h1).trans ((if_neg h10).trans (rfl))))

theorem isLine_in {k : Int32} (h : ¬ x2_isLine k = 0) : vp_in k 10 := by
  unfold x2_isLine at h
  split at h
  · exact absurd rfl h
  · split at h
    · exact absurd rfl h
    · rename_i h1 h2
      obtain ⟨j, hj, e⟩ := nI_of h1
      subst e
      refine vp_in_nI ?_ (by decide)
      have h3 : ¬ nI 10 ≤ nI j := h2
      rw [nI_leI (by decide) hj] at h3
      omega
theorem isLine_ne {k : Int32} (h : vp_in k 10) : ¬ x2_isLine k = 0 := by
  unfold x2_isLine
  rw [if_neg (vp_in_0 h), if_neg]
  · decide
  · have h1 := vp_in_lt h
    rw [vp_in_e h]
    exact nI_ge h1 (by decide)
def x2_latest (W : rb_I) (n : Nat) (k : Int32) : Int32 := (if (x2_isLine k) = 0 then ((-1) : Int32) else (W (7, n, 0) k.toNatClampNeg))
set_option maxRecDepth 100000 in
set_option maxHeartbeats 4000000 in
theorem k_X2_latest (l : Launch) (X : rb_X) (G : rb_G) (W : rb_I) (cn : Nat → Nat) (ag : Nat → Nat → Int32) (hG : xCS G cn ag) (n : Nat) (k : Int32) (hn : n < 6) : rb_N l X yX2_latest (.code yX2_latest cX2_latest 2 (some .int)) 2 33 0 0 [rbR (6, n, 0), rbI k] (wI G W) (fun v9 G9 => v9 = some (rbI (x2_latest W n k)) ∧ G9 = wI G W) := by
  refine rb_startN RX2 rfl (by decide +kernel) rfl (Nat.le_of_ble_eq_true rfl) ?_
  intro Φ C E nm
  show rb_W Φ 0 0 0 [some (rbR (6, n, 0)), some (rbI k)] [] (wI G W)
  refine rb_aload_n C dX2_latest_0 rfl ?_
  refine rb_iload_n C dX2_latest_1 rfl ?_
  refine rb_callV C M_X2_21 (fun l X => (k_X2_isLine l X G W cn ag hG k _ hn).m) rfl (Nat.le_of_ble_eq_true rfl) rfl dX2_latest_2 rfl rfl rfl (Nat.le_of_ble_eq_true rfl) ⟨(Nat.le_of_ble_eq_true rfl), (Nat.le_of_ble_eq_true rfl)⟩ (Nat.le_of_ble_eq_true rfl) (Nat.le_of_ble_eq_true rfl) (fun v G' hp => ?_) (fun _ _ hp => hp.elim)
  obtain ⟨rfl, e9⟩ := hp
  rw [e9]
  clear e9 G'
  refine rb_if_eq C 17 dX2_latest_5 (by decide) (fun h5 => ?_) (fun h5 => ?_)
  · refine rb_iconst C dX2_latest_17 (v := (-1)) (by decide) ?_
    exact rb_iret C E dX2_latest_18 (Nat.le_of_ble_eq_true rfl) (Nat.le_of_ble_eq_true rfl) (pv_ ((if_pos h5).trans (rfl)))
  · refine rb_aload_n C dX2_latest_8 rfl ?_
    refine rw_getP C FR_X2_9 dX2_latest_9 rfl (o := some (7, n, 0)) (hG.2.2.2.2.1 n hn).2.1 ?_
    refine rb_iload_n C dX2_latest_12 rfl ?_
    refine rw_iald C (x := (W (7, n, 0) k.toNatClampNeg)) 10 k.toNatClampNeg dX2_latest_13 rfl (hG.2.2.2.2.1 n hn).2.2 (isLine_in h5) rfl (rfl) ?_
    refine rb_goto C 18 dX2_latest_14 (by decide) ?_
    exact rb_iret C E dX2_latest_18 (Nat.le_of_ble_eq_true rfl) (Nat.le_of_ble_eq_true rfl) (pv_ ((if_neg h5).trans (rfl)))

def x2_has (W : rb_I) (n : Nat) (k : Int32) : Int32 := (if (x2_latest W n k) = (-1) then (0 : Int32) else (1 : Int32))
theorem z_x2_has (W : rb_I) (n : Nat) (k : Int32) : x2_has W n k = 0 ∨ x2_has W n k = 1 := by
  unfold x2_has
  repeat' split
  all_goals first | exact Or.inl rfl | exact Or.inr rfl
set_option maxRecDepth 100000 in
set_option maxHeartbeats 4000000 in
theorem k_X2_has (l : Launch) (X : rb_X) (G : rb_G) (W : rb_I) (cn : Nat → Nat) (ag : Nat → Nat → Int32) (hG : xCS G cn ag) (n : Nat) (k : Int32) (hn : n < 6) : rb_N l X yX2_has (.code yX2_has cX2_has 2 (some .boolean)) 3 54 0 0 [rbR (6, n, 0), rbI k] (wI G W) (fun v9 G9 => v9 = some (rbI (x2_has W n k)) ∧ G9 = wI G W) := by
  refine rb_startN RX2 rfl (by decide +kernel) rfl (Nat.le_of_ble_eq_true rfl) ?_
  intro Φ C E nm
  show rb_W Φ 0 0 0 [some (rbR (6, n, 0)), some (rbI k)] [] (wI G W)
  refine rb_aload_n C dX2_has_0 rfl ?_
  refine rb_iload_n C dX2_has_1 rfl ?_
  refine rb_callV C M_X2_25 (fun l X => (k_X2_latest l X G W cn ag hG n k hn).m) rfl (Nat.le_of_ble_eq_true rfl) rfl dX2_has_2 rfl rfl rfl (Nat.le_of_ble_eq_true rfl) ⟨(Nat.le_of_ble_eq_true rfl), (Nat.le_of_ble_eq_true rfl)⟩ (Nat.le_of_ble_eq_true rfl) (Nat.le_of_ble_eq_true rfl) (fun v G' hp => ?_) (fun _ _ hp => hp.elim)
  obtain ⟨rfl, e9⟩ := hp
  rw [e9]
  clear e9 G'
  refine rb_iconst C dX2_has_5 (v := (-1)) (by decide) ?_
  refine rb_icmp_eq C 13 dX2_has_6 (by decide) (fun h6 => ?_) (fun h6 => ?_)
  · refine rb_iconst C dX2_has_13 (v := 0) (by decide) ?_
    exact rb_zret C E dX2_has_14 (rfl) (Nat.le_of_ble_eq_true rfl) (Nat.le_of_ble_eq_true rfl) (pv_ ((if_pos h6).trans (rfl)))
  · refine rb_iconst C dX2_has_9 (v := 1) (by decide) ?_
    refine rb_goto C 14 dX2_has_10 (by decide) ?_
    exact rb_zret C E dX2_has_14 (rfl) (Nat.le_of_ble_eq_true rfl) (Nat.le_of_ble_eq_true rfl) (pv_ ((if_neg h6).trans (rfl)))

def x2_put (W : rb_I) (n : Nat) (k : Int32) (x : Int32) : rb_I := (if (x2_isLine k) = 0 then W else (up2 W (7, n, 0) k.toNatClampNeg x))
set_option maxRecDepth 100000 in
set_option maxHeartbeats 4000000 in
theorem k_X2_put (l : Launch) (X : rb_X) (G : rb_G) (W : rb_I) (cn : Nat → Nat) (ag : Nat → Nat → Int32) (hG : xCS G cn ag) (n : Nat) (k : Int32) (x : Int32) (hn : n < 6) : rb_N l X yX2_put (.code yX2_put cX2_put 3 none) 2 33 0 0 [rbR (6, n, 0), rbI k, rbI x] (wI G W) (fun v9 G9 => v9 = none ∧ G9 = wI G (x2_put W n k x)) := by
  refine rb_startN RX2 rfl (by decide +kernel) rfl (Nat.le_of_ble_eq_true rfl) ?_
  intro Φ C E nm
  show rb_W Φ 0 0 0 [some (rbR (6, n, 0)), some (rbI k), some (rbI x)] [] (wI G W)
  refine rb_aload_n C dX2_put_0 rfl ?_
  refine rb_iload_n C dX2_put_1 rfl ?_
  refine rb_callV C M_X2_21 (fun l X => (k_X2_isLine l X G W cn ag hG k _ hn).m) rfl (Nat.le_of_ble_eq_true rfl) rfl dX2_put_2 rfl rfl rfl (Nat.le_of_ble_eq_true rfl) ⟨(Nat.le_of_ble_eq_true rfl), (Nat.le_of_ble_eq_true rfl)⟩ (Nat.le_of_ble_eq_true rfl) (Nat.le_of_ble_eq_true rfl) (fun v G' hp => ?_) (fun _ _ hp => hp.elim)
  obtain ⟨rfl, e9⟩ := hp
  rw [e9]
  clear e9 G'
  refine rb_if_eq C 15 dX2_put_5 (by decide) (fun h5 => ?_) (fun h5 => ?_)
  · exact rb_vret C E dX2_put_15 (Nat.le_of_ble_eq_true rfl) (Nat.le_of_ble_eq_true rfl) (pw_ ((if_pos h5).trans (rfl)))
  · refine rb_aload_n C dX2_put_8 rfl ?_
    refine rw_getP C FR_X2_9 dX2_put_9 rfl (o := some (7, n, 0)) (hG.2.2.2.2.1 n hn).2.1 ?_
    refine rb_iload_n C dX2_put_12 rfl ?_
    refine rb_iload_n C dX2_put_13 rfl ?_
    refine rw_iast C 10 k.toNatClampNeg dX2_put_14 rfl (hG.2.2.2.2.1 n hn).2.2 (isLine_in h5) rfl ?_
    exact rb_vret C E dX2_put_15 (Nat.le_of_ble_eq_true rfl) (Nat.le_of_ble_eq_true rfl) (pw_ ((if_neg h5).trans (rfl)))

def x2_takeOut (W : rb_I) (n : Nat) (k : Int32) : rb_I := (x2_put W n k ((-1) : Int32))
set_option maxRecDepth 100000 in
set_option maxHeartbeats 4000000 in
theorem k_X2_takeOut (l : Launch) (X : rb_X) (G : rb_G) (W : rb_I) (cn : Nat → Nat) (ag : Nat → Nat → Int32) (hG : xCS G cn ag) (n : Nat) (k : Int32) (hn : n < 6) : rb_N l X yX2_takeOut (.code yX2_takeOut cX2_takeOut 2 none) 3 55 0 0 [rbR (6, n, 0), rbI k] (wI G W) (fun v9 G9 => v9 = none ∧ G9 = wI G (x2_takeOut W n k)) := by
  refine rb_startN RX2 rfl (by decide +kernel) rfl (Nat.le_of_ble_eq_true rfl) ?_
  intro Φ C E nm
  show rb_W Φ 0 0 0 [some (rbR (6, n, 0)), some (rbI k)] [] (wI G W)
  refine rb_aload_n C dX2_takeOut_0 rfl ?_
  refine rb_iload_n C dX2_takeOut_1 rfl ?_
  refine rb_iconst C dX2_takeOut_2 (v := (-1)) (by decide) ?_
  refine rb_callV C M_X2_29 (fun l X => (k_X2_put l X G W cn ag hG n k ((-1) : Int32) hn).m) rfl (Nat.le_of_ble_eq_true rfl) rfl dX2_takeOut_3 rfl rfl rfl (Nat.le_of_ble_eq_true rfl) ⟨(Nat.le_of_ble_eq_true rfl), (Nat.le_of_ble_eq_true rfl)⟩ (Nat.le_of_ble_eq_true rfl) (Nat.le_of_ble_eq_true rfl) (fun v G' hp => ?_) (fun _ _ hp => hp.elim)
  obtain ⟨rfl, e9⟩ := hp
  rw [e9]
  clear e9 G'
  exact rb_vret C E dX2_takeOut_6 (Nat.le_of_ble_eq_true rfl) (Nat.le_of_ble_eq_true rfl) (pw_ (rfl))

def x2_takeOutUpTo_b (n : Nat) (x : Int32) (i : Nat) (s : rb_I) : rb_I := (if x < (s (7, n, 0) i) then s else (up2 s (7, n, 0) i (-1)))
def x2_takeOutUpTo (W : rb_I) (n : Nat) (x : Int32) : rb_I := (fo (x2_takeOutUpTo_b n x) 10 W)
set_option maxRecDepth 100000 in
set_option maxHeartbeats 4000000 in
theorem k_X2_takeOutUpTo (l : Launch) (X : rb_X) (G : rb_G) (W : rb_I) (cn : Nat → Nat) (ag : Nat → Nat → Int32) (hG : xCS G cn ag) (n : Nat) (x : Int32) (hn : n < 6) : rb_N l X yX2_takeOutUpTo (.code yX2_takeOutUpTo cX2_takeOutUpTo 3 none) 1 12 0 0 [rbR (6, n, 0), rbI x] (wI G W) (fun v9 G9 => v9 = none ∧ G9 = wI G (x2_takeOutUpTo W n x)) := by
  refine rb_startN RX2 rfl (by decide +kernel) rfl (Nat.le_of_ble_eq_true rfl) ?_
  intro Φ C E nm
  show rb_W Φ 0 0 0 [some (rbR (6, n, 0)), some (rbI x), none] [] (wI G W)
  refine rb_iconst C dX2_takeOutUpTo_0 (v := 0) (by decide) ?_
  refine rb_istore_n C dX2_takeOutUpTo_1 (Nat.le_of_ble_eq_true rfl) rfl (Lv' := [_, _, _]) rfl ?_
  have loop : ∀ (d i : Nat) (s : rb_I), i + d = 10 → s = fo (x2_takeOutUpTo_b n x) i W → rb_W Φ 0 0 2 [some (rbR (6, n, 0)), some (rbI x), some (rbI (nI i))] [] (wI G s) := by
    intro d
    induction d with
    | zero =>
      intro i s hi hs
      obtain rfl : i = 10 := by omega
      subst hs
      refine rb_iload_n C dX2_takeOutUpTo_2 rfl ?_
      refine rb_aload_n C dX2_takeOutUpTo_3 rfl ?_
      refine rw_getP C FR_X2_9 dX2_takeOutUpTo_4 rfl (o := some (7, n, 0)) (hG.2.2.2.2.1 n hn).2.1 ?_
      refine rw_alen C (x := 10) 10 dX2_takeOutUpTo_7 rfl (by first | exact Or.inl rfl | exact Or.inr (Nat.le_of_ble_eq_true rfl)) (Nat.le_of_ble_eq_true rfl) (hG.2.2.2.2.1 n hn).2.2 rfl ?_
      refine rb_icmp_ge C 34 dX2_takeOutUpTo_8 (by decide) (fun _ => ?_) (fun h9 => absurd ((nI_le (a := 10) (b := 10) (Nat.le_refl _) (by decide))) h9)
      exact rb_vret C E dX2_takeOutUpTo_34 (Nat.le_of_ble_eq_true rfl) (Nat.le_of_ble_eq_true rfl) (pw_ (rfl))
    | succ d ih =>
      intro i s hi hs
      have hi9 : i < 10 := by omega
      refine rb_iload_n C dX2_takeOutUpTo_2 rfl ?_
      refine rb_aload_n C dX2_takeOutUpTo_3 rfl ?_
      refine rw_getP C FR_X2_9 dX2_takeOutUpTo_4 rfl (o := some (7, n, 0)) (hG.2.2.2.2.1 n hn).2.1 ?_
      refine rw_alen C (x := 10) 10 dX2_takeOutUpTo_7 rfl (by first | exact Or.inl rfl | exact Or.inr (Nat.le_of_ble_eq_true rfl)) (Nat.le_of_ble_eq_true rfl) (hG.2.2.2.2.1 n hn).2.2 rfl ?_
      refine rb_icmp_ge C 34 dX2_takeOutUpTo_8 (by decide) (fun h9 => absurd h9 ((nI_ge (a := i) (b := 10) hi9 (by decide)))) (fun _ => ?_)
      refine rb_aload_n C dX2_takeOutUpTo_11 rfl ?_
      refine rw_getP C FR_X2_9 dX2_takeOutUpTo_12 rfl (o := some (7, n, 0)) (hG.2.2.2.2.1 n hn).2.1 ?_
      refine rb_iload_n C dX2_takeOutUpTo_15 rfl ?_
      refine rw_iald C (x := (s (7, n, 0) i)) 10 i dX2_takeOutUpTo_16 rfl (hG.2.2.2.2.1 n hn).2.2 (vp_in_nI (show i < 10 by omega) (by decide)) (nI_clamp (show i < 2 ^ 31 by omega)) (rfl) ?_
      refine rb_iload_n C dX2_takeOutUpTo_17 rfl ?_
      refine rb_icmp_gt C 28 dX2_takeOutUpTo_18 (by decide) (fun h18 => ?_) (fun h18 => ?_)
      · refine rb_iinc C dX2_takeOutUpTo_28 rfl (v := _ + 1) rfl rfl (Lv' := [_, _, _]) rfl ?_
        refine rb_goto C 2 dX2_takeOutUpTo_31 (by decide) ?_
        rw [nI_1 i]
        exact ih (i + 1) s (by omega) (by rw [fo_s, ← hs]; exact Eq.symm ((if_pos h18).trans (rfl)))
      · refine rb_aload_n C dX2_takeOutUpTo_21 rfl ?_
        refine rw_getP C FR_X2_9 dX2_takeOutUpTo_22 rfl (o := some (7, n, 0)) (hG.2.2.2.2.1 n hn).2.1 ?_
        refine rb_iload_n C dX2_takeOutUpTo_25 rfl ?_
        refine rb_iconst C dX2_takeOutUpTo_26 (v := (-1)) (by decide) ?_
        refine rw_iast C 10 i dX2_takeOutUpTo_27 rfl (hG.2.2.2.2.1 n hn).2.2 (vp_in_nI (show i < 10 by omega) (by decide)) (nI_clamp (show i < 2 ^ 31 by omega)) ?_
        refine rb_iinc C dX2_takeOutUpTo_28 rfl (v := _ + 1) rfl rfl (Lv' := [_, _, _]) rfl ?_
        refine rb_goto C 2 dX2_takeOutUpTo_31 (by decide) ?_
        rw [nI_1 i]
        exact ih (i + 1) (up2 s (7, n, 0) i (-1)) (by omega) (by rw [fo_s, ← hs]; exact Eq.symm ((if_neg h18).trans (rfl)))
  exact loop 10 0 W (Nat.zero_add _) (fo_0 _ _).symm

def x2_count_b (W : rb_I) (n : Nat) (i : Nat) (s : Int32) : Int32 := (if (W (7, n, 0) i) = (-1) then s else (s + 1))
def x2_count (W : rb_I) (n : Nat) : Int32 := (fo (x2_count_b W n) 10 (0 : Int32))
set_option maxRecDepth 100000 in
set_option maxHeartbeats 4000000 in
theorem k_X2_count (l : Launch) (X : rb_X) (G : rb_G) (W : rb_I) (cn : Nat → Nat) (ag : Nat → Nat → Int32) (hG : xCS G cn ag) (n : Nat) (hn : n < 6) : rb_N l X yX2_count (.code yX2_count cX2_count 3 (some .int)) 1 12 0 0 [rbR (6, n, 0)] (wI G W) (fun v9 G9 => v9 = some (rbI (x2_count W n)) ∧ G9 = wI G W) := by
  refine rb_startN RX2 rfl (by decide +kernel) rfl (Nat.le_of_ble_eq_true rfl) ?_
  intro Φ C E nm
  show rb_W Φ 0 0 0 [some (rbR (6, n, 0)), none, none] [] (wI G W)
  refine rb_iconst C dX2_count_0 (v := 0) (by decide) ?_
  refine rb_istore_n C dX2_count_1 (Nat.le_of_ble_eq_true rfl) rfl (Lv' := [_, _, _]) rfl ?_
  refine rb_iconst C dX2_count_2 (v := 0) (by decide) ?_
  refine rb_istore_n C dX2_count_3 (Nat.le_of_ble_eq_true rfl) rfl (Lv' := [_, _, _]) rfl ?_
  have loop : ∀ (d i : Nat) (s : Int32), i + d = 10 → s = fo (x2_count_b W n) i (0 : Int32) → rb_W Φ 0 0 4 [some (rbR (6, n, 0)), some (rbI s), some (rbI (nI i))] [] (wI G W) := by
    intro d
    induction d with
    | zero =>
      intro i s hi hs
      obtain rfl : i = 10 := by omega
      subst hs
      refine rb_iload_n C dX2_count_4 rfl ?_
      refine rb_aload_n C dX2_count_5 rfl ?_
      refine rw_getP C FR_X2_9 dX2_count_6 rfl (o := some (7, n, 0)) (hG.2.2.2.2.1 n hn).2.1 ?_
      refine rw_alen C (x := 10) 10 dX2_count_9 rfl (by first | exact Or.inl rfl | exact Or.inr (Nat.le_of_ble_eq_true rfl)) (Nat.le_of_ble_eq_true rfl) (hG.2.2.2.2.1 n hn).2.2 rfl ?_
      refine rb_icmp_ge C 32 dX2_count_10 (by decide) (fun _ => ?_) (fun h9 => absurd ((nI_le (a := 10) (b := 10) (Nat.le_refl _) (by decide))) h9)
      refine rb_iload_n C dX2_count_32 rfl ?_
      exact rb_iret C E dX2_count_33 (Nat.le_of_ble_eq_true rfl) (Nat.le_of_ble_eq_true rfl) (pv_ (rfl))
    | succ d ih =>
      intro i s hi hs
      have hi9 : i < 10 := by omega
      refine rb_iload_n C dX2_count_4 rfl ?_
      refine rb_aload_n C dX2_count_5 rfl ?_
      refine rw_getP C FR_X2_9 dX2_count_6 rfl (o := some (7, n, 0)) (hG.2.2.2.2.1 n hn).2.1 ?_
      refine rw_alen C (x := 10) 10 dX2_count_9 rfl (by first | exact Or.inl rfl | exact Or.inr (Nat.le_of_ble_eq_true rfl)) (Nat.le_of_ble_eq_true rfl) (hG.2.2.2.2.1 n hn).2.2 rfl ?_
      refine rb_icmp_ge C 32 dX2_count_10 (by decide) (fun h9 => absurd h9 ((nI_ge (a := i) (b := 10) hi9 (by decide)))) (fun _ => ?_)
      refine rb_aload_n C dX2_count_13 rfl ?_
      refine rw_getP C FR_X2_9 dX2_count_14 rfl (o := some (7, n, 0)) (hG.2.2.2.2.1 n hn).2.1 ?_
      refine rb_iload_n C dX2_count_17 rfl ?_
      refine rw_iald C (x := (W (7, n, 0) i)) 10 i dX2_count_18 rfl (hG.2.2.2.2.1 n hn).2.2 (vp_in_nI (show i < 10 by omega) (by decide)) (nI_clamp (show i < 2 ^ 31 by omega)) (rfl) ?_
      refine rb_iconst C dX2_count_19 (v := (-1)) (by decide) ?_
      refine rb_icmp_eq C 26 dX2_count_20 (by decide) (fun h20 => ?_) (fun h20 => ?_)
      · refine rb_iinc C dX2_count_26 rfl (v := _ + 1) rfl rfl (Lv' := [_, _, _]) rfl ?_
        refine rb_goto C 4 dX2_count_29 (by decide) ?_
        rw [nI_1 i]
        exact ih (i + 1) s (by omega) (by rw [fo_s, ← hs]; exact Eq.symm ((if_pos h20).trans (rfl)))
      · refine rb_iinc C dX2_count_23 rfl (v := _ + 1) rfl rfl (Lv' := [_, _, _]) rfl ?_
        refine rb_iinc C dX2_count_26 rfl (v := _ + 1) rfl rfl (Lv' := [_, _, _]) rfl ?_
        refine rb_goto C 4 dX2_count_29 (by decide) ?_
        rw [nI_1 i]
        exact ih (i + 1) (s + 1) (by omega) (by rw [fo_s, ← hs]; exact Eq.symm ((if_neg h20).trans (rfl)))
  exact loop 10 0 (0 : Int32) (Nat.zero_add _) (fo_0 _ _).symm

def x_fill_b (n : Nat) (x : Int32) (i : Nat) (s : rb_I) : rb_I := (up2 s (7, n, 0) i x)
def x_fill (W : rb_I) (n : Nat) (x : Int32) : rb_I := (fo (x_fill_b n x) 10 W)
set_option maxRecDepth 100000 in
set_option maxHeartbeats 4000000 in
theorem k_J7_fill_53178 (l : Launch) (X : rb_X) (G : rb_G) (W : rb_I)  (n : Nat) (x : Int32) (hl : gN G (7, n, 0) = 10) : rb_N l X yJ7_fill_53178 (.code yJ7_fill_53178 cJ7_fill_53178 4 none) 1 12 0 0 [rbR (7, n, 0), rbI x] (wI G W) (fun v9 G9 => v9 = none ∧ G9 = wI G (x_fill W n x)) := by
  refine rb_startN RJ7 rfl (by decide +kernel) rfl (Nat.le_of_ble_eq_true rfl) ?_
  intro Φ C E nm
  show rb_W Φ 0 0 0 [some (rbR (7, n, 0)), some (rbI x), none, none] [] (wI G W)
  refine rb_iconst C dJ7_fill_53178_0 (v := 0) (by decide) ?_
  refine rb_istore_n C dJ7_fill_53178_1 (Nat.le_of_ble_eq_true rfl) rfl (Lv' := [_, _, _, _]) rfl ?_
  refine rb_aload_n C dJ7_fill_53178_2 rfl ?_
  refine rw_alen C (x := 10) 10 dJ7_fill_53178_3 rfl (by first | exact Or.inl rfl | exact Or.inr (Nat.le_of_ble_eq_true rfl)) (Nat.le_of_ble_eq_true rfl) hl rfl ?_
  refine rb_istore_n C dJ7_fill_53178_4 (Nat.le_of_ble_eq_true rfl) rfl (Lv' := [_, _, _, _]) rfl ?_
  have loop : ∀ (d i : Nat) (s : rb_I), i + d = 10 → s = fo (x_fill_b n x) i W → rb_W Φ 0 0 5 [some (rbR (7, n, 0)), some (rbI x), some (rbI (nI i)), some (rbI 10)] [] (wI G s) := by
    intro d
    induction d with
    | zero =>
      intro i s hi hs
      obtain rfl : i = 10 := by omega
      subst hs
      refine rb_iload_n C dJ7_fill_53178_5 rfl ?_
      refine rb_iload_n C dJ7_fill_53178_6 rfl ?_
      refine rb_icmp_ge C 20 dJ7_fill_53178_7 (by decide) (fun _ => ?_) (fun h9 => absurd ((nI_le (a := 10) (b := 10) (Nat.le_refl _) (by decide))) h9)
      exact rb_vret C E dJ7_fill_53178_20 (Nat.le_of_ble_eq_true rfl) (Nat.le_of_ble_eq_true rfl) (pw_ (rfl))
    | succ d ih =>
      intro i s hi hs
      have hi9 : i < 10 := by omega
      refine rb_iload_n C dJ7_fill_53178_5 rfl ?_
      refine rb_iload_n C dJ7_fill_53178_6 rfl ?_
      refine rb_icmp_ge C 20 dJ7_fill_53178_7 (by decide) (fun h9 => absurd h9 ((nI_ge (a := i) (b := 10) hi9 (by decide)))) (fun _ => ?_)
      refine rb_aload_n C dJ7_fill_53178_10 rfl ?_
      refine rb_iload_n C dJ7_fill_53178_11 rfl ?_
      refine rb_iload_n C dJ7_fill_53178_12 rfl ?_
      refine rw_iast C 10 i dJ7_fill_53178_13 rfl hl (vp_in_nI (show i < 10 by omega) (by decide)) (nI_clamp (show i < 2 ^ 31 by omega)) ?_
      refine rb_iinc C dJ7_fill_53178_14 rfl (v := _ + 1) rfl rfl (Lv' := [_, _, _, _]) rfl ?_
      refine rb_goto C 5 dJ7_fill_53178_17 (by decide) ?_
      rw [nI_1 i]
      exact ih (i + 1) (up2 s (7, n, 0) i x) (by omega) (by rw [fo_s, ← hs]; exact Eq.symm (rfl))
  exact loop 10 0 W (Nat.zero_add _) (fo_0 _ _).symm

def x2_clear (W : rb_I) (n : Nat) : rb_I := (x_fill W n ((-1) : Int32))
set_option maxRecDepth 100000 in
set_option maxHeartbeats 4000000 in
theorem k_X2_clear (l : Launch) (X : rb_X) (G : rb_G) (W : rb_I) (cn : Nat → Nat) (ag : Nat → Nat → Int32) (hG : xCS G cn ag) (n : Nat) (hn : n < 6) : rb_N l X yX2_clear (.code yX2_clear cX2_clear 1 none) 2 35 0 0 [rbR (6, n, 0)] (wI G W) (fun v9 G9 => v9 = none ∧ G9 = wI G (x2_clear W n)) := by
  refine rb_startN RX2 rfl (by decide +kernel) rfl (Nat.le_of_ble_eq_true rfl) ?_
  intro Φ C E nm
  show rb_W Φ 0 0 0 [some (rbR (6, n, 0))] [] (wI G W)
  refine rb_aload_n C dX2_clear_0 rfl ?_
  refine rw_getP C FR_X2_9 dX2_clear_1 rfl (o := some (7, n, 0)) (hG.2.2.2.2.1 n hn).2.1 ?_
  refine rb_iconst C dX2_clear_4 (v := (-1)) (by decide) ?_
  refine rb_callS C M_X2_15 (fun l X => (k_J7_fill_53178 l X G W n ((-1) : Int32) (hG.2.2.2.2.1 n hn).2.2).m) dX2_clear_5 rfl rfl rfl (Nat.le_of_ble_eq_true rfl) ⟨(Nat.le_of_ble_eq_true rfl), (Nat.le_of_ble_eq_true rfl)⟩ (Nat.le_of_ble_eq_true rfl) (Nat.le_of_ble_eq_true rfl) (fun v G' hp => ?_) (fun _ _ hp => hp.elim)
  obtain ⟨rfl, e9⟩ := hp
  rw [e9]
  clear e9 G'
  exact rb_vret C E dX2_clear_8 (Nat.le_of_ble_eq_true rfl) (Nat.le_of_ble_eq_true rfl) (pw_ (rfl))

def x6_isAbroad (W : rb_I) (j : Nat) : Int32 := (if (W (9, j, 0) 4) = (-1) then (0 : Int32) else (if (W (9, j, 0) 4) = (W (9, j, 0) 1) then (0 : Int32) else (1 : Int32)))
theorem z_x6_isAbroad (W : rb_I) (j : Nat) : x6_isAbroad W j = 0 ∨ x6_isAbroad W j = 1 := by
  unfold x6_isAbroad
  repeat' split
  all_goals first | exact Or.inl rfl | exact Or.inr rfl
set_option maxRecDepth 100000 in
set_option maxHeartbeats 4000000 in
theorem k_X6_isAbroad (l : Launch) (X : rb_X) (G : rb_G) (W : rb_I)  (j : Nat)  : rb_N l X yX6_isAbroad (.code yX6_isAbroad cX6_isAbroad 1 (some .boolean)) 1 12 0 0 [rbR (9, j, 0)] (wI G W) (fun v9 G9 => v9 = some (rbI (x6_isAbroad W j)) ∧ G9 = wI G W) := by
  refine rb_startN RX6 rfl (by decide +kernel) rfl (Nat.le_of_ble_eq_true rfl) ?_
  intro Φ C E nm
  show rb_W Φ 0 0 0 [some (rbR (9, j, 0))] [] (wI G W)
  refine rb_aload_n C dX6_isAbroad_0 rfl ?_
  refine rw_getI C FR_X6_9 dX6_isAbroad_1 rfl (x := (W (9, j, 0) 4)) (rfl) ?_
  refine rb_iconst C dX6_isAbroad_4 (v := (-1)) (by decide) ?_
  refine rb_icmp_eq C 23 dX6_isAbroad_5 (by decide) (fun h5 => ?_) (fun h5 => ?_)
  · refine rb_iconst C dX6_isAbroad_23 (v := 0) (by decide) ?_
    exact rb_zret C E dX6_isAbroad_24 (rfl) (Nat.le_of_ble_eq_true rfl) (Nat.le_of_ble_eq_true rfl) (pv_ ((if_pos h5).trans (rfl)))
  · refine rb_aload_n C dX6_isAbroad_8 rfl ?_
    refine rw_getI C FR_X6_9 dX6_isAbroad_9 rfl (x := (W (9, j, 0) 4)) (rfl) ?_
    refine rb_aload_n C dX6_isAbroad_12 rfl ?_
    refine rw_getI C FR_X6_24 dX6_isAbroad_13 rfl (x := (W (9, j, 0) 1)) (rfl) ?_
    refine rb_icmp_eq C 23 dX6_isAbroad_16 (by decide) (fun h16 => ?_) (fun h16 => ?_)
    · refine rb_iconst C dX6_isAbroad_23 (v := 0) (by decide) ?_
      exact rb_zret C E dX6_isAbroad_24 (rfl) (Nat.le_of_ble_eq_true rfl) (Nat.le_of_ble_eq_true rfl) (pv_ ((if_neg h5).trans ((if_pos h16).trans (rfl))))
    · refine rb_iconst C dX6_isAbroad_19 (v := 1) (by decide) ?_
      refine rb_goto C 24 dX6_isAbroad_20 (by decide) ?_
      exact rb_zret C E dX6_isAbroad_24 (rfl) (Nat.le_of_ble_eq_true rfl) (Nat.le_of_ble_eq_true rfl) (pv_ ((if_neg h5).trans ((if_neg h16).trans (rfl))))

def x6_wouldComeAboveCap (W : rb_I) (j : Nat) (p : Int32) : Int32 := (if (x6_isAbroad W j) = 0 then (0 : Int32) else (if (W (9, j, 0) 8) = 0 then (if ((W (9, j, 0) 10) + p) ≤ (W (9, j, 0) 7) then (0 : Int32) else (1 : Int32)) else (0 : Int32)))
theorem z_x6_wouldComeAboveCap (W : rb_I) (j : Nat) (p : Int32) : x6_wouldComeAboveCap W j p = 0 ∨ x6_wouldComeAboveCap W j p = 1 := by
  unfold x6_wouldComeAboveCap
  repeat' split
  all_goals first | exact Or.inl rfl | exact Or.inr rfl | exact z_x6_isAbroad W j
set_option maxRecDepth 100000 in
set_option maxHeartbeats 4000000 in
theorem k_X6_wouldComeAboveCap (l : Launch) (X : rb_X) (G : rb_G) (W : rb_I)  (j : Nat) (p : Int32)  : rb_N l X yX6_wouldComeAboveCap (.code yX6_wouldComeAboveCap cX6_wouldComeAboveCap 2 (some .boolean)) 2 32 0 0 [rbR (9, j, 0), rbI p] (wI G W) (fun v9 G9 => v9 = some (rbI (x6_wouldComeAboveCap W j p)) ∧ G9 = wI G W) := by
  refine rb_startN RX6 rfl (by decide +kernel) rfl (Nat.le_of_ble_eq_true rfl) ?_
  intro Φ C E nm
  show rb_W Φ 0 0 0 [some (rbR (9, j, 0)), some (rbI p)] [] (wI G W)
  refine rb_aload_n C dX6_wouldComeAboveCap_0 rfl ?_
  refine rb_callV C M_X6_33 (fun l X => (k_X6_isAbroad l X G W j).m) rfl (Nat.le_of_ble_eq_true rfl) rfl dX6_wouldComeAboveCap_1 rfl rfl rfl (Nat.le_of_ble_eq_true rfl) ⟨(Nat.le_of_ble_eq_true rfl), (Nat.le_of_ble_eq_true rfl)⟩ (Nat.le_of_ble_eq_true rfl) (Nat.le_of_ble_eq_true rfl) (fun v G' hp => ?_) (fun _ _ hp => hp.elim)
  obtain ⟨rfl, e9⟩ := hp
  rw [e9]
  clear e9 G'
  refine rb_if_eq C 31 dX6_wouldComeAboveCap_4 (by decide) (fun h4 => ?_) (fun h4 => ?_)
  · refine rb_iconst C dX6_wouldComeAboveCap_31 (v := 0) (by decide) ?_
    exact rb_zret C E dX6_wouldComeAboveCap_32 (rfl) (Nat.le_of_ble_eq_true rfl) (Nat.le_of_ble_eq_true rfl) (pv_ ((if_pos h4).trans (rfl)))
  · refine rb_aload_n C dX6_wouldComeAboveCap_7 rfl ?_
    refine rw_getI C FR_X6_37 dX6_wouldComeAboveCap_8 rfl (x := (W (9, j, 0) 8)) (rfl) ?_
    refine rb_if_ne C 31 dX6_wouldComeAboveCap_11 (by decide) (fun h11 => ?_) (fun h11 => ?_)
    · refine rb_iconst C dX6_wouldComeAboveCap_31 (v := 0) (by decide) ?_
      exact rb_zret C E dX6_wouldComeAboveCap_32 (rfl) (Nat.le_of_ble_eq_true rfl) (Nat.le_of_ble_eq_true rfl) (pv_ ((if_neg h4).trans ((if_neg h11).trans (rfl))))
    · refine rb_aload_n C dX6_wouldComeAboveCap_14 rfl ?_
      refine rw_getI C FR_X6_41 dX6_wouldComeAboveCap_15 rfl (x := (W (9, j, 0) 10)) (rfl) ?_
      refine rb_iload_n C dX6_wouldComeAboveCap_18 rfl ?_
      refine rb_iadd C dX6_wouldComeAboveCap_19 ?_
      refine rb_aload_n C dX6_wouldComeAboveCap_20 rfl ?_
      refine rw_getI C FR_X6_18 dX6_wouldComeAboveCap_21 rfl (x := (W (9, j, 0) 7)) (rfl) ?_
      refine rb_icmp_le C 31 dX6_wouldComeAboveCap_24 (by decide) (fun h24 => ?_) (fun h24 => ?_)
      · refine rb_iconst C dX6_wouldComeAboveCap_31 (v := 0) (by decide) ?_
        exact rb_zret C E dX6_wouldComeAboveCap_32 (rfl) (Nat.le_of_ble_eq_true rfl) (Nat.le_of_ble_eq_true rfl) (pv_ ((if_neg h4).trans ((if_pos h11).trans ((if_pos h24).trans (rfl)))))
      · refine rb_iconst C dX6_wouldComeAboveCap_27 (v := 1) (by decide) ?_
        refine rb_goto C 32 dX6_wouldComeAboveCap_28 (by decide) ?_
        exact rb_zret C E dX6_wouldComeAboveCap_32 (rfl) (Nat.le_of_ble_eq_true rfl) (Nat.le_of_ble_eq_true rfl) (pv_ ((if_neg h4).trans ((if_pos h11).trans ((if_neg h24).trans (rfl)))))

def x6_isWarned (W : rb_I) (j : Nat) : Int32 := (if (lg_cmp ((Int32.toInt64 (W (9, j, 0) 10)) * (100)) ((Int32.toInt64 (W (9, j, 0) 7)) * (80))) < 0 then (0 : Int32) else (1 : Int32))
theorem z_x6_isWarned (W : rb_I) (j : Nat) : x6_isWarned W j = 0 ∨ x6_isWarned W j = 1 := by
  unfold x6_isWarned
  repeat' split
  all_goals first | exact Or.inl rfl | exact Or.inr rfl
set_option maxRecDepth 100000 in
set_option maxHeartbeats 4000000 in
theorem k_X6_isWarned (l : Launch) (X : rb_X) (G : rb_G) (W : rb_I)  (j : Nat)  : rb_N l X yX6_isWarned (.code yX6_isWarned cX6_isWarned 1 (some .boolean)) 1 12 0 0 [rbR (9, j, 0)] (wI G W) (fun v9 G9 => v9 = some (rbI (x6_isWarned W j)) ∧ G9 = wI G W) := by
  refine rb_startN RX6 rfl (by decide +kernel) rfl (Nat.le_of_ble_eq_true rfl) ?_
  intro Φ C E nm
  show rb_W Φ 0 0 0 [some (rbR (9, j, 0))] [] (wI G W)
  refine rb_aload_n C dX6_isWarned_0 rfl ?_
  refine rw_getI C FR_X6_41 dX6_isWarned_1 rfl (x := (W (9, j, 0) 10)) (rfl) ?_
  refine rb_i2l C dX6_isWarned_4 ?_
  refine rb_ldc2 C dX6_isWarned_5 N_X6_44 ?_
  refine rb_lmul C dX6_isWarned_8 ?_
  refine rb_aload_n C dX6_isWarned_9 rfl ?_
  refine rw_getI C FR_X6_18 dX6_isWarned_10 rfl (x := (W (9, j, 0) 7)) (rfl) ?_
  refine rb_i2l C dX6_isWarned_13 ?_
  refine rb_ldc2 C dX6_isWarned_14 N_X6_46 ?_
  refine rb_lmul C dX6_isWarned_17 ?_
  refine rb_lcmp C dX6_isWarned_18 ?_
  refine rb_if_lt C 26 dX6_isWarned_19 (by decide) (fun h19 => ?_) (fun h19 => ?_)
  · refine rb_iconst C dX6_isWarned_26 (v := 0) (by decide) ?_
    exact rb_zret C E dX6_isWarned_27 (rfl) (Nat.le_of_ble_eq_true rfl) (Nat.le_of_ble_eq_true rfl) (pv_ ((if_pos h19).trans (rfl)))
  · refine rb_iconst C dX6_isWarned_22 (v := 1) (by decide) ?_
    refine rb_goto C 27 dX6_isWarned_23 (by decide) ?_
    exact rb_zret C E dX6_isWarned_27 (rfl) (Nat.le_of_ble_eq_true rfl) (Nat.le_of_ble_eq_true rfl) (pv_ ((if_neg h19).trans (rfl)))

def x1_holds (W : rb_I) (j : Nat) (ho : Int32) (vi : Int32) (wh : Int32) : Int32 := (if (W (10, j, 0) 0) = ho then (if (W (10, j, 0) 1) = vi then (if wh < (W (10, j, 0) 2) then (0 : Int32) else (if (W (10, j, 0) 3) ≤ wh then (0 : Int32) else (1 : Int32))) else (0 : Int32)) else (0 : Int32))
theorem z_x1_holds (W : rb_I) (j : Nat) (ho : Int32) (vi : Int32) (wh : Int32) : x1_holds W j ho vi wh = 0 ∨ x1_holds W j ho vi wh = 1 := by
  unfold x1_holds
  repeat' split
  all_goals first | exact Or.inl rfl | exact Or.inr rfl
set_option maxRecDepth 100000 in
set_option maxHeartbeats 4000000 in
theorem k_X1_holds (l : Launch) (X : rb_X) (G : rb_G) (W : rb_I)  (j : Nat) (ho : Int32) (vi : Int32) (wh : Int32)  : rb_N l X yX1_holds (.code yX1_holds cX1_holds 4 (some .boolean)) 1 12 0 0 [rbR (10, j, 0), rbI ho, rbI vi, rbI wh] (wI G W) (fun v9 G9 => v9 = some (rbI (x1_holds W j ho vi wh)) ∧ G9 = wI G W) := by
  refine rb_startN RX1 rfl (by decide +kernel) rfl (Nat.le_of_ble_eq_true rfl) ?_
  intro Φ C E nm
  show rb_W Φ 0 0 0 [some (rbR (10, j, 0)), some (rbI ho), some (rbI vi), some (rbI wh)] [] (wI G W)
  refine rb_aload_n C dX1_holds_0 rfl ?_
  refine rw_getI C FR_X1_7 dX1_holds_1 rfl (x := (W (10, j, 0) 0)) (rfl) ?_
  refine rb_iload_n C dX1_holds_4 rfl ?_
  refine rb_icmp_ne C 36 dX1_holds_5 (by decide) (fun h5 => ?_) (fun h5 => ?_)
  · refine rb_iconst C dX1_holds_36 (v := 0) (by decide) ?_
    exact rb_zret C E dX1_holds_37 (rfl) (Nat.le_of_ble_eq_true rfl) (Nat.le_of_ble_eq_true rfl) (pv_ ((if_neg h5).trans (rfl)))
  · refine rb_aload_n C dX1_holds_8 rfl ?_
    refine rw_getI C FR_X1_13 dX1_holds_9 rfl (x := (W (10, j, 0) 1)) (rfl) ?_
    refine rb_iload_n C dX1_holds_12 rfl ?_
    refine rb_icmp_ne C 36 dX1_holds_13 (by decide) (fun h13 => ?_) (fun h13 => ?_)
    · refine rb_iconst C dX1_holds_36 (v := 0) (by decide) ?_
      exact rb_zret C E dX1_holds_37 (rfl) (Nat.le_of_ble_eq_true rfl) (Nat.le_of_ble_eq_true rfl) (pv_ ((if_pos h5).trans ((if_neg h13).trans (rfl))))
    · refine rb_aload_n C dX1_holds_16 rfl ?_
      refine rw_getI C FR_X1_16 dX1_holds_17 rfl (x := (W (10, j, 0) 2)) (rfl) ?_
      refine rb_iload_n C dX1_holds_20 rfl ?_
      refine rb_icmp_gt C 36 dX1_holds_21 (by decide) (fun h21 => ?_) (fun h21 => ?_)
      · refine rb_iconst C dX1_holds_36 (v := 0) (by decide) ?_
        exact rb_zret C E dX1_holds_37 (rfl) (Nat.le_of_ble_eq_true rfl) (Nat.le_of_ble_eq_true rfl) (pv_ ((if_pos h5).trans ((if_pos h13).trans ((if_pos h21).trans (rfl)))))
      · refine rb_iload_n C dX1_holds_24 rfl ?_
        refine rb_aload_n C dX1_holds_25 rfl ?_
        refine rw_getI C FR_X1_19 dX1_holds_26 rfl (x := (W (10, j, 0) 3)) (rfl) ?_
        refine rb_icmp_ge C 36 dX1_holds_29 (by decide) (fun h29 => ?_) (fun h29 => ?_)
        · refine rb_iconst C dX1_holds_36 (v := 0) (by decide) ?_
          exact rb_zret C E dX1_holds_37 (rfl) (Nat.le_of_ble_eq_true rfl) (Nat.le_of_ble_eq_true rfl) (pv_ ((if_pos h5).trans ((if_pos h13).trans ((if_neg h21).trans ((if_pos h29).trans (rfl))))))
        · refine rb_iconst C dX1_holds_32 (v := 1) (by decide) ?_
          refine rb_goto C 37 dX1_holds_33 (by decide) ?_
          exact rb_zret C E dX1_holds_37 (rfl) (Nat.le_of_ble_eq_true rfl) (Nat.le_of_ble_eq_true rfl) (pv_ ((if_pos h5).trans ((if_pos h13).trans ((if_neg h21).trans ((if_neg h29).trans (rfl))))))

def x1_priceAt (W : rb_I) (j : Nat) (m : Int32) : Int32 := (if (W (10, j, 0) 5) ≤ 0 then (W (10, j, 0) 4) else (if m < (W (10, j, 0) 5) then (W (10, j, 0) 4) else (W (10, j, 0) 6)))
set_option maxRecDepth 100000 in
set_option maxHeartbeats 4000000 in
theorem k_X1_priceAt (l : Launch) (X : rb_X) (G : rb_G) (W : rb_I)  (j : Nat) (m : Int32)  : rb_N l X yX1_priceAt (.code yX1_priceAt cX1_priceAt 2 (some .int)) 1 12 0 0 [rbR (10, j, 0), rbI m] (wI G W) (fun v9 G9 => v9 = some (rbI (x1_priceAt W j m)) ∧ G9 = wI G W) := by
  refine rb_startN RX1 rfl (by decide +kernel) rfl (Nat.le_of_ble_eq_true rfl) ?_
  intro Φ C E nm
  show rb_W Φ 0 0 0 [some (rbR (10, j, 0)), some (rbI m)] [] (wI G W)
  refine rb_aload_n C dX1_priceAt_0 rfl ?_
  refine rw_getI C FR_X1_25 dX1_priceAt_1 rfl (x := (W (10, j, 0) 5)) (rfl) ?_
  refine rb_if_le C 22 dX1_priceAt_4 (by decide) (fun h4 => ?_) (fun h4 => ?_)
  · refine rb_aload_n C dX1_priceAt_22 rfl ?_
    refine rw_getI C FR_X1_22 dX1_priceAt_23 rfl (x := (W (10, j, 0) 4)) (rfl) ?_
    exact rb_iret C E dX1_priceAt_26 (Nat.le_of_ble_eq_true rfl) (Nat.le_of_ble_eq_true rfl) (pv_ ((if_pos h4).trans (rfl)))
  · refine rb_iload_n C dX1_priceAt_7 rfl ?_
    refine rb_aload_n C dX1_priceAt_8 rfl ?_
    refine rw_getI C FR_X1_25 dX1_priceAt_9 rfl (x := (W (10, j, 0) 5)) (rfl) ?_
    refine rb_icmp_lt C 22 dX1_priceAt_12 (by decide) (fun h12 => ?_) (fun h12 => ?_)
    · refine rb_aload_n C dX1_priceAt_22 rfl ?_
      refine rw_getI C FR_X1_22 dX1_priceAt_23 rfl (x := (W (10, j, 0) 4)) (rfl) ?_
      exact rb_iret C E dX1_priceAt_26 (Nat.le_of_ble_eq_true rfl) (Nat.le_of_ble_eq_true rfl) (pv_ ((if_neg h4).trans ((if_pos h12).trans (rfl))))
    · refine rb_aload_n C dX1_priceAt_15 rfl ?_
      refine rw_getI C FR_X1_28 dX1_priceAt_16 rfl (x := (W (10, j, 0) 6)) (rfl) ?_
      refine rb_goto C 26 dX1_priceAt_19 (by decide) ?_
      exact rb_iret C E dX1_priceAt_26 (Nat.le_of_ble_eq_true rfl) (Nat.le_of_ble_eq_true rfl) (pv_ ((if_neg h4).trans ((if_neg h12).trans (rfl))))

def x3_paidBy (W : rb_I) (j : Nat) (m : Int32) : Int32 := (if m = (W (11, j, 0) 0) then (W (11, j, 0) 1) else (if m = (W (11, j, 0) 2) then (W (11, j, 0) 3) else (0 : Int32)))
set_option maxRecDepth 100000 in
set_option maxHeartbeats 4000000 in
theorem k_X3_paidBy (l : Launch) (X : rb_X) (G : rb_G) (W : rb_I)  (j : Nat) (m : Int32)  : rb_N l X yX3_paidBy (.code yX3_paidBy cX3_paidBy 2 (some .int)) 1 12 0 0 [rbR (11, j, 0), rbI m] (wI G W) (fun v9 G9 => v9 = some (rbI (x3_paidBy W j m)) ∧ G9 = wI G W) := by
  refine rb_startN RX3 rfl (by decide +kernel) rfl (Nat.le_of_ble_eq_true rfl) ?_
  intro Φ C E nm
  show rb_W Φ 0 0 0 [some (rbR (11, j, 0)), some (rbI m)] [] (wI G W)
  refine rb_iload_n C dX3_paidBy_0 rfl ?_
  refine rb_aload_n C dX3_paidBy_1 rfl ?_
  refine rw_getI C FR_X3_7 dX3_paidBy_2 rfl (x := (W (11, j, 0) 0)) (rfl) ?_
  refine rb_icmp_ne C 13 dX3_paidBy_5 (by decide) (fun h5 => ?_) (fun h5 => ?_)
  · refine rb_iload_n C dX3_paidBy_13 rfl ?_
    refine rb_aload_n C dX3_paidBy_14 rfl ?_
    refine rw_getI C FR_X3_16 dX3_paidBy_15 rfl (x := (W (11, j, 0) 2)) (rfl) ?_
    refine rb_icmp_ne C 28 dX3_paidBy_18 (by decide) (fun h18 => ?_) (fun h18 => ?_)
    · refine rb_iconst C dX3_paidBy_28 (v := 0) (by decide) ?_
      exact rb_iret C E dX3_paidBy_29 (Nat.le_of_ble_eq_true rfl) (Nat.le_of_ble_eq_true rfl) (pv_ ((if_neg h5).trans ((if_neg h18).trans (rfl))))
    · refine rb_aload_n C dX3_paidBy_21 rfl ?_
      refine rw_getI C FR_X3_19 dX3_paidBy_22 rfl (x := (W (11, j, 0) 3)) (rfl) ?_
      refine rb_goto C 29 dX3_paidBy_25 (by decide) ?_
      exact rb_iret C E dX3_paidBy_29 (Nat.le_of_ble_eq_true rfl) (Nat.le_of_ble_eq_true rfl) (pv_ ((if_neg h5).trans ((if_pos h18).trans (rfl))))
  · refine rb_aload_n C dX3_paidBy_8 rfl ?_
    refine rw_getI C FR_X3_13 dX3_paidBy_9 rfl (x := (W (11, j, 0) 1)) (rfl) ?_
    exact rb_iret C E dX3_paidBy_12 (Nat.le_of_ble_eq_true rfl) (Nat.le_of_ble_eq_true rfl) (pv_ ((if_pos h5).trans (rfl)))

