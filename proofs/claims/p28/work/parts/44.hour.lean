theorem ci_att {W : rb_I} {cn : Nat → Nat} {j : Nat} {v : Int32} (hv : at6 v) (hI : xCI W cn) : xCI (up2 W (9, j, 0) 4 v) cn := by
  obtain ⟨a1, a2, a3, a4, a5, a6, a7, a8, a9⟩ := hI
  refine ⟨?_, ?_, ?_, ?_, ?_, ?_, ?_, ?_, a9⟩
  all_goals simp only [up2, Prod.mk.injEq]
  all_goals simp
  · exact a1
  · exact a2
  · exact a3
  · intro s
    split
    · exact hv
    · exact a4 s
  · exact a5
  · exact a6
  · exact a7
  · exact a8
theorem at6_m1 : at6 (-1) := Or.inl rfl
theorem ci_detach {W : rb_I} {cn : Nat → Nat} {j : Nat} (hI : xCI W cn) : xCI (x7_detachIfNotReceived W j) cn := by
  unfold x7_detachIfNotReceived
  repeat (any_goals split)
  all_goals first | exact hI | exact ci_att at6_m1 hI
theorem ci_daf {W : rb_I} {cn : Nat → Nat} {n : Int32} (hI : xCI W cn) : xCI (x7_detachAllFrom W cn n) cn := by
  unfold x7_detachAllFrom
  refine fo_inv (f := x7_daf_b n) (a := W) (P := fun w => xCI w cn) hI (fun i a h => ?_) _
  unfold x7_daf_b
  repeat (any_goals split)
  all_goals first | exact h | exact ci_att at6_m1 h
theorem x7_mc_9 {W : rb_I} {j s : Nat} {wh : Int32} {q : Nat} (hq : ¬ q = 5) : x7_makeContact W j wh (9, s, 0) q = W (9, s, 0) q := by
  unfold x7_makeContact
  repeat (any_goals split)
  all_goals simp [up2, x2_put_o, x2_takeOut_o, hq]
theorem x7_mc_5 {W : rb_I} {j s : Nat} {wh : Int32} {q : Nat} (hq : ¬ q = 6) : x7_makeContact W j wh (5, s, 0) q = W (5, s, 0) q := by
  unfold x7_makeContact
  repeat (any_goals split)
  all_goals simp [up2, x2_put_o, x2_takeOut_o, hq]
theorem x7_mc_o {W : rb_I} {j : Nat} {wh : Int32} {r : rb_R} {q : Nat} (h5 : ¬ r.1 = 5) (h7 : ¬ r.1 = 7) (h9 : ¬ r.1 = 9) : x7_makeContact W j wh r q = W r q := by
  have e5 : ∀ a, ¬ r = (5, a) := fun a e => h5 (congrArg Prod.fst e)
  have e9 : ∀ a, ¬ r = (9, a) := fun a e => h9 (congrArg Prod.fst e)
  unfold x7_makeContact
  repeat (any_goals split)
  all_goals simp [up2, x2_put_o, x2_takeOut_o, h7, e5, e9]
theorem ci_mc {W : rb_I} {cn : Nat → Nat} {j : Nat} {wh : Int32} (hI : xCI W cn) : xCI (x7_makeContact W j wh) cn := by
  obtain ⟨a1, a2, a3, a4, a5, a6, a7, a8, a9⟩ := hI
  refine ⟨fun id h => ?_, fun s => ?_, fun s => ?_, fun s => ?_, fun s => ?_, fun n => ?_, fun s h => ?_, fun n => ?_, a9⟩
  · rw [x7_mc_o (by simp) (by simp) (by simp)]; exact a1 id h
  · rw [x7_mc_9 (by decide)]; exact a2 s
  · rw [x7_mc_9 (by decide)]; exact a3 s
  · rw [x7_mc_9 (by decide)]; exact a4 s
  · unfold x7_makeContact
    repeat (any_goals split)
    all_goals simp [up2, x2_put_o, x2_takeOut_o]
    all_goals first | exact a5 s | (split; exact a4 _; exact a5 s)
  · rw [x7_mc_5 (by decide)]; exact a6 n
  · rw [x7_mc_9 (by decide)]; exact a7 s h
  · rw [x7_mc_5 (by decide)]; exact a8 n
def x7_bh_b (wh : Int32) (i : Nat) (s : rb_I) : rb_I := (if (s (9, i, 0) 4) = (-1) then s else (x7_makeContact s i wh))
def x7_bh_c (wh : Int32) (i : Nat) (s : rb_I) : rb_I := (x2_takeOutUpTo s i (wh - 180))
def x7_beginHour (W : rb_I) (cn : Nat → Nat) (wh : Int32) : rb_I := (fo (x7_bh_c wh) 6 (fo (x7_bh_b wh) (cn 1) W))
set_option maxRecDepth 100000 in
set_option maxHeartbeats 4000000 in
theorem k_X7_beginHour (l : Launch) (X : rb_X) (G : rb_G) (W : rb_I) (cn : Nat → Nat) (ag : Nat → Nat → Int32) (hG : xCS G cn ag) (wh : Int32) (hI : xCI W cn) : rb_N l X yX7_beginHour (.code yX7_beginHour cX7_beginHour 4 none) 5 99 0 0 [rbR (0, 0, 0), rbI wh] (wI G W) (fun v9 G9 => v9 = none ∧ G9 = wI G (x7_beginHour W cn wh)) := by
  have hc0 : cn 0 ≤ 30 := hI.2.2.2.2.2.2.2.2.1
  have hc1 : cn 1 ≤ 10 := hI.2.2.2.2.2.2.2.2.2.1
  have hc2 : cn 2 ≤ 200 := hI.2.2.2.2.2.2.2.2.2.2.1
  refine rb_startN RX7 rfl (by decide +kernel) rfl (Nat.le_of_ble_eq_true rfl) ?_
  intro Φ C E nm
  show rb_W Φ 0 0 0 [some (rbR (0, 0, 0)), some (rbI wh), none, none] [] (wI G W)
  refine rb_iconst C dX7_beginHour_0 (v := 0) (by decide) ?_
  refine rb_istore_n C dX7_beginHour_1 (Nat.le_of_ble_eq_true rfl) rfl (Lv' := [_, _, _, _]) rfl ?_
  have loop : ∀ (d i : Nat) (s : rb_I), i + d = (cn 1) → s = fo (x7_bh_b wh) i W → rb_W Φ 0 0 2 [some (rbR (0, 0, 0)), some (rbI wh), some (rbI (nI i)), none] [] (wI G s) := by
    intro d
    induction d with
    | zero =>
      intro i s hi hs
      obtain rfl : i = (cn 1) := by omega
      have hc8 : s (4, 1, 0) 2 = nI (cn 1) := by
        rw [hs]
        refine fo_inv (f := (x7_bh_b wh)) (a := W) (P := fun w : rb_I => w (4, 1, 0) 2 = nI (cn 1)) (by simpa [up2] using hI.1 1 (by decide)) (fun i a h => ?_) _
        unfold x7_bh_b; split; exact h; rw [x7_mc_o (by simp) (by simp) (by simp)]; exact h
      have hIs : xCI s cn := by
        rw [hs]
        exact fo_inv (f := x7_bh_b wh) (a := W) (P := fun w => xCI w cn) hI (fun i a h => by unfold x7_bh_b; split; exact h; exact ci_mc h) _
      subst hs
      refine rb_iload_n C dX7_beginHour_2 rfl ?_
      refine rb_aload_n C dX7_beginHour_3 rfl ?_
      refine rw_getP C FR_X7_32 dX7_beginHour_4 rfl (o := some (4, 1, 0)) (hG.1 4 (by decide)) ?_
      refine rb_callV C M_X7_48 (fun l X => (k_size l X G (fo (x7_bh_b wh) (cn 1) W) (4, 1, 0) (nI (cn 1)) rfl (hc8)).m) rfl (Nat.le_of_ble_eq_true rfl) rfl dX7_beginHour_7 rfl rfl rfl (Nat.le_of_ble_eq_true rfl) ⟨(Nat.le_of_ble_eq_true rfl), (Nat.le_of_ble_eq_true rfl)⟩ (Nat.le_of_ble_eq_true rfl) (Nat.le_of_ble_eq_true rfl) (fun v G' hp => ?_) (fun _ _ hp => hp.elim)
      obtain ⟨rfl, e9⟩ := hp
      rw [e9]
      clear e9 G'
      refine rb_icmp_ge C 45 dX7_beginHour_10 (by decide) (fun _ => ?_) (fun h9 => absurd ((nI_le (a := cn 1) (b := cn 1) (Nat.le_refl _) (by omega))) h9)
      refine rb_iconst C dX7_beginHour_45 (v := 0) (by decide) ?_
      refine rb_istore_n C dX7_beginHour_46 (Nat.le_of_ble_eq_true rfl) rfl (Lv' := [_, _, _, _]) rfl ?_
      have loop : ∀ (d i : Nat) (s : rb_I), i + d = 6 → s = fo (x7_bh_c wh) i (fo (x7_bh_b wh) (cn 1) W) → rb_W Φ 0 0 47 [some (rbR (0, 0, 0)), some (rbI wh), some (rbI (nI i)), none] [] (wI G s) := by
        intro d
        induction d with
        | zero =>
          intro i s hi hs
          obtain rfl : i = 6 := by omega
          subst hs
          refine rb_iload_n C dX7_beginHour_47 rfl ?_
          refine rb_aload_n C dX7_beginHour_48 rfl ?_
          refine rw_getP C FR_X7_15 dX7_beginHour_49 rfl (o := some (2, 0, 0)) (hG.1 1 (by decide)) ?_
          refine rw_alen C (x := 6) 6 dX7_beginHour_52 rfl (by first | exact Or.inl rfl | exact Or.inr (Nat.le_of_ble_eq_true rfl)) (Nat.le_of_ble_eq_true rfl) hG.2.2.2.1.2.1 rfl ?_
          refine rb_icmp_ge C 79 dX7_beginHour_53 (by decide) (fun _ => ?_) (fun h9 => absurd ((nI_le (a := 6) (b := 6) (Nat.le_refl _) (by decide))) h9)
          exact rb_vret C E dX7_beginHour_79 (Nat.le_of_ble_eq_true rfl) (Nat.le_of_ble_eq_true rfl) (pw_ (rfl))
        | succ d ih =>
          intro i s hi hs
          have hi9 : i < 6 := by omega
          refine rb_iload_n C dX7_beginHour_47 rfl ?_
          refine rb_aload_n C dX7_beginHour_48 rfl ?_
          refine rw_getP C FR_X7_15 dX7_beginHour_49 rfl (o := some (2, 0, 0)) (hG.1 1 (by decide)) ?_
          refine rw_alen C (x := 6) 6 dX7_beginHour_52 rfl (by first | exact Or.inl rfl | exact Or.inr (Nat.le_of_ble_eq_true rfl)) (Nat.le_of_ble_eq_true rfl) hG.2.2.2.1.2.1 rfl ?_
          refine rb_icmp_ge C 79 dX7_beginHour_53 (by decide) (fun h9 => absurd h9 ((nI_ge (a := i) (b := 6) hi9 (by decide)))) (fun _ => ?_)
          refine rb_aload_n C dX7_beginHour_56 rfl ?_
          refine rw_getP C FR_X7_15 dX7_beginHour_57 rfl (o := some (2, 0, 0)) (hG.1 1 (by decide)) ?_
          refine rb_iload_n C dX7_beginHour_60 rfl ?_
          refine rw_aald C 6 i dX7_beginHour_61 rfl (Nat.le_of_ble_eq_true rfl) (Nat.le_of_ble_eq_true rfl) hG.2.2.2.1.2.1 (vp_in_nI (show i < 6 by omega) (by decide)) (nI_clamp (show i < 2 ^ 31 by omega)) (o := some (5, i, 0)) (hG.2.1 i hi9) ?_
          refine rw_getP C FR_X7_74 dX7_beginHour_62 rfl (o := some (6, i, 0)) (hG.2.2.2.2.1 i hi9).1 ?_
          refine rb_iload_n C dX7_beginHour_65 rfl ?_
          refine rb_sipush C dX7_beginHour_66 (v := 180) (by decide) ?_
          refine rb_isub C dX7_beginHour_69 ?_
          refine rb_callV C M_X7_314 (fun l X => (k_X2_takeOutUpTo l X G s cn ag hG i (wh - 180) hi9).m) rfl (Nat.le_of_ble_eq_true rfl) rfl dX7_beginHour_70 rfl rfl rfl (Nat.le_of_ble_eq_true rfl) ⟨(Nat.le_of_ble_eq_true rfl), (Nat.le_of_ble_eq_true rfl)⟩ (Nat.le_of_ble_eq_true rfl) (Nat.le_of_ble_eq_true rfl) (fun v G' hp => ?_) (fun _ _ hp => hp.elim)
          obtain ⟨rfl, e9⟩ := hp
          rw [e9]
          clear e9 G'
          refine rb_iinc C dX7_beginHour_73 rfl (v := _ + 1) rfl rfl (Lv' := [_, _, _, _]) rfl ?_
          refine rb_goto C 47 dX7_beginHour_76 (by decide) ?_
          rw [nI_1 i]
          exact ih (i + 1) (x2_takeOutUpTo s i (wh - 180)) (by omega) (by rw [fo_s, ← hs]; exact Eq.symm (rfl))
      exact loop 6 0 (fo (x7_bh_b wh) (cn 1) W) (Nat.zero_add _) (fo_0 _ _).symm
    | succ d ih =>
      intro i s hi hs
      have hi9 : i < (cn 1) := by omega
      have hc8 : s (4, 1, 0) 2 = nI (cn 1) := by
        rw [hs]
        refine fo_inv (f := (x7_bh_b wh)) (a := W) (P := fun w : rb_I => w (4, 1, 0) 2 = nI (cn 1)) (by simpa [up2] using hI.1 1 (by decide)) (fun i a h => ?_) _
        unfold x7_bh_b; split; exact h; rw [x7_mc_o (by simp) (by simp) (by simp)]; exact h
      have hIs : xCI s cn := by
        rw [hs]
        exact fo_inv (f := x7_bh_b wh) (a := W) (P := fun w => xCI w cn) hI (fun i a h => by unfold x7_bh_b; split; exact h; exact ci_mc h) _
      refine rb_iload_n C dX7_beginHour_2 rfl ?_
      refine rb_aload_n C dX7_beginHour_3 rfl ?_
      refine rw_getP C FR_X7_32 dX7_beginHour_4 rfl (o := some (4, 1, 0)) (hG.1 4 (by decide)) ?_
      refine rb_callV C M_X7_48 (fun l X => (k_size l X G s (4, 1, 0) (nI (cn 1)) rfl (hc8)).m) rfl (Nat.le_of_ble_eq_true rfl) rfl dX7_beginHour_7 rfl rfl rfl (Nat.le_of_ble_eq_true rfl) ⟨(Nat.le_of_ble_eq_true rfl), (Nat.le_of_ble_eq_true rfl)⟩ (Nat.le_of_ble_eq_true rfl) (Nat.le_of_ble_eq_true rfl) (fun v G' hp => ?_) (fun _ _ hp => hp.elim)
      obtain ⟨rfl, e9⟩ := hp
      rw [e9]
      clear e9 G'
      refine rb_icmp_ge C 45 dX7_beginHour_10 (by decide) (fun h9 => absurd h9 ((nI_ge (a := i) (b := cn 1) hi9 (by omega)))) (fun _ => ?_)
      refine rb_aload_n C dX7_beginHour_13 rfl ?_
      refine rw_getP C FR_X7_32 dX7_beginHour_14 rfl (o := some (4, 1, 0)) (hG.1 4 (by decide)) ?_
      refine rb_iload_n C dX7_beginHour_17 rfl ?_
      refine rb_callV C M_X7_52 (fun l X => (k_get l X G s 1 (cn 1) i (nI i) (fun j => (9, j, 0)) hG.2.2.2.2.2.2.2.1 (hc8) rfl hi9 (by omega)).m) rfl (Nat.le_of_ble_eq_true rfl) rfl dX7_beginHour_18 rfl rfl rfl (Nat.le_of_ble_eq_true rfl) ⟨(Nat.le_of_ble_eq_true rfl), (Nat.le_of_ble_eq_true rfl)⟩ (Nat.le_of_ble_eq_true rfl) (Nat.le_of_ble_eq_true rfl) (fun v G' hp => ?_) (fun _ _ hp => hp.elim)
      obtain ⟨rfl, e9⟩ := hp
      rw [e9]
      clear e9 G'
      refine rb_cast C (ci := 7) L_X7_56 rfl (by decide) dX7_beginHour_21 rfl ?_
      refine rb_astore_n C dX7_beginHour_24 (Nat.le_of_ble_eq_true rfl) rfl (Lv' := [_, _, _, _]) rfl ?_
      refine rb_aload_n C dX7_beginHour_25 rfl ?_
      refine rw_getI C FR_X7_142 dX7_beginHour_26 rfl (x := (s (9, i, 0) 4)) (rfl) ?_
      refine rb_iconst C dX7_beginHour_29 (v := (-1)) (by decide) ?_
      refine rb_icmp_eq C 39 dX7_beginHour_30 (by decide) (fun h30 => ?_) (fun h30 => ?_)
      · refine rb_iinc C dX7_beginHour_39 rfl (v := _ + 1) rfl rfl (Lv' := [_, _, _, _]) rfl ?_
        refine rb_goto C 2 dX7_beginHour_42 (by decide) ?_
        refine rb_W.unset 3 ?_
        rw [nI_1 i]
        exact ih (i + 1) s (by omega) (by rw [fo_s, ← hs]; exact Eq.symm ((if_pos h30).trans (rfl)))
      · refine rb_aload_n C dX7_beginHour_33 rfl ?_
        refine rb_aload_n C dX7_beginHour_34 rfl ?_
        refine rb_iload_n C dX7_beginHour_35 rfl ?_
        refine rb_callV C M_X7_163 (fun l X => (k_X7_makeContact l X G s cn ag hG i wh hIs (by assumption)).m) rfl (Nat.le_of_ble_eq_true rfl) rfl dX7_beginHour_36 rfl rfl rfl (Nat.le_of_ble_eq_true rfl) ⟨(Nat.le_of_ble_eq_true rfl), (Nat.le_of_ble_eq_true rfl)⟩ (Nat.le_of_ble_eq_true rfl) (Nat.le_of_ble_eq_true rfl) (fun v G' hp => ?_) (fun _ _ hp => hp.elim)
        obtain ⟨rfl, e9⟩ := hp
        rw [e9]
        clear e9 G'
        refine rb_iinc C dX7_beginHour_39 rfl (v := _ + 1) rfl rfl (Lv' := [_, _, _, _]) rfl ?_
        refine rb_goto C 2 dX7_beginHour_42 (by decide) ?_
        refine rb_W.unset 3 ?_
        rw [nI_1 i]
        exact ih (i + 1) (x7_makeContact s i wh) (by omega) (by rw [fo_s, ← hs]; exact Eq.symm ((if_neg h30).trans (rfl)))
  exact loop (cn 1) 0 W (Nat.zero_add _) (fo_0 _ _).symm

theorem ci_bh {W : rb_I} {cn : Nat → Nat} {wh : Int32} (hI : xCI W cn) : xCI (x7_beginHour W cn wh) cn := by
  have h1 : xCI (fo (x7_bh_b wh) (cn 1) W) cn := fo_inv (f := x7_bh_b wh) (a := W) (P := fun w => xCI w cn) hI (fun i a h => by unfold x7_bh_b; split; exact h; exact ci_mc h) _
  unfold x7_beginHour
  refine fo_inv (f := x7_bh_c wh) (P := fun w => xCI w cn) h1 (fun i a h => ?_) 6
  unfold x7_bh_c
  unfold xCI at *
  simpa [x2_takeOutUpTo_o] using h
theorem x7_bh_o {W : rb_I} {cn : Nat → Nat} {wh : Int32} {r : rb_R} {q : Nat} (h5 : ¬ r.1 = 5) (h7 : ¬ r.1 = 7) (h9 : ¬ r.1 = 9) : x7_beginHour W cn wh r q = W r q := by
  have h1 : fo (x7_bh_b wh) (cn 1) W r q = W r q := fo_inv (f := x7_bh_b wh) (a := W) (P := fun w => w r q = W r q) rfl (fun i a h => by unfold x7_bh_b; split; exact h; rw [x7_mc_o h5 h7 h9]; exact h) _
  unfold x7_beginHour
  refine fo_inv (f := x7_bh_c wh) (P := fun w => w r q = W r q) h1 (fun i a h => ?_) 6
  unfold x7_bh_c
  rw [x2_takeOutUpTo_o h7]
  exact h
