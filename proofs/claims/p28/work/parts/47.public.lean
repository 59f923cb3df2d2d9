def x7_reach_b (p : Int32) (i : Nat) (s : rb_I) : rb_I := (if (s (9, i, 0) 3) = p then (x7_detachIfNotReceived s i) else s)
def x7_reach (W : rb_I) (cn : Nat → Nat) (p : Int32) (ns : Int32) : rb_U := (if m_isPlace p = 0 then (1, (0 : Int32), W) else (if m_in ns (0 : Int32) (63 : Int32) = 0 then (2, (0 : Int32), W) else (0, (W (1, 0, 0) p.toNatClampNeg), (fo (x7_reach_b p) (cn 1) (up2 W (1, 0, 0) p.toNatClampNeg ns)))))
set_option maxRecDepth 100000 in
set_option maxHeartbeats 4000000 in
theorem k_X7_reach (l : Launch) (X : rb_X) (G : rb_G) (W : rb_I) (cn : Nat → Nat) (ag : Nat → Nat → Int32) (hG : xCS G cn ag) (p : Int32) (ns : Int32) (hI : xCI W cn) : rb_M l X yX7_reach (.code yX7_reach cX7_reach 6 (some .int)) 8 132 12 72 [rbR (0, 0, 0), rbI p, rbI ns] (wI G W) (fun v9 G9 => (x7_reach W cn p ns).1 = 0 ∧ v9 = some (rbI (x7_reach W cn p ns).2.1) ∧ G9 = wI G (x7_reach W cn p ns).2.2) (fun e9 G9 => (x7_reach W cn p ns).1 = xc e9 ∧ G9 = wI G (x7_reach W cn p ns).2.2) := by
  have hc0 : cn 0 ≤ 30 := hI.2.2.2.2.2.2.2.2.1
  have hc1 : cn 1 ≤ 10 := hI.2.2.2.2.2.2.2.2.2.1
  have hc2 : cn 2 ≤ 200 := hI.2.2.2.2.2.2.2.2.2.2.1
  refine rb_startM RX7 rfl (by decide +kernel) rfl (Nat.le_of_ble_eq_true rfl) ?_
  intro Φ C E EX
  show rb_W Φ 0 0 0 [some (rbR (0, 0, 0)), some (rbI p), some (rbI ns), none, none, none] [] (wI G W)
  refine rb_aload_n C dX7_reach_0 rfl ?_
  refine rb_iload_n C dX7_reach_1 rfl ?_
  refine rb_callV C M_X7_40 (fun l X => k_X7_receivedAt l X G W cn ag hG p) rfl (Nat.le_of_ble_eq_true rfl) rfl dX7_reach_2 rfl rfl rfl (Nat.le_of_ble_eq_true rfl) ⟨(Nat.le_of_ble_eq_true rfl), (Nat.le_of_ble_eq_true rfl)⟩ (Nat.le_of_ble_eq_true rfl) (Nat.le_of_ble_eq_true rfl) (fun v G' hp => ?_) (fun e9 G' hp => by obtain ⟨rfl, h2, e8⟩ := hp; rw [e8]; exact rb_out C EX (Nat.le_of_ble_eq_true rfl) (Nat.le_of_ble_eq_true rfl) (px_1 ((if_pos h2).trans (rfl))))
  obtain ⟨h2, rfl, e9⟩ := hp
  rw [e9]
  clear e9 G'
  refine rb_istore_n C dX7_reach_5 (Nat.le_of_ble_eq_true rfl) rfl (Lv' := [_, _, _, _, _, _]) rfl ?_
  refine rb_iload_n C dX7_reach_6 rfl ?_
  refine rb_iconst C dX7_reach_7 (v := 0) (by decide) ?_
  refine rb_bipush C dX7_reach_8 (v := 63) (by decide) ?_
  refine rb_callS C M_X7_44 (fun l X => k_X7_requireRange l X G W ns (0 : Int32) (63 : Int32)) dX7_reach_10 rfl rfl rfl (Nat.le_of_ble_eq_true rfl) ⟨(Nat.le_of_ble_eq_true rfl), (Nat.le_of_ble_eq_true rfl)⟩ (Nat.le_of_ble_eq_true rfl) (Nat.le_of_ble_eq_true rfl) (fun v G' hp => ?_) (fun e9 G' hp => by obtain ⟨rfl, h10, e8⟩ := hp; rw [e8]; exact rb_out C EX (Nat.le_of_ble_eq_true rfl) (Nat.le_of_ble_eq_true rfl) (px_2 ((if_neg h2).trans ((if_pos h10).trans (rfl)))))
  obtain ⟨h10, rfl, e9⟩ := hp
  rw [e9]
  clear e9 G'
  refine rb_aload_n C dX7_reach_13 rfl ?_
  refine rw_getP C FR_X7_9 dX7_reach_14 rfl (o := some (1, 0, 0)) (hG.1 0 (by decide)) ?_
  refine rb_iload_n C dX7_reach_17 rfl ?_
  refine rb_iload_n C dX7_reach_18 rfl ?_
  refine rw_iast C 8 p.toNatClampNeg dX7_reach_19 rfl hG.2.2.2.1.1 (isPlace_in h2) rfl ?_
  refine rb_iconst C dX7_reach_20 (v := 0) (by decide) ?_
  refine rb_istore C dX7_reach_21 (Nat.le_of_ble_eq_true rfl) rfl (Lv' := [_, _, _, _, _, _]) rfl ?_
  have loop : ∀ (d i : Nat) (s : rb_I), i + d = (cn 1) → s = fo (x7_reach_b p) i (up2 W (1, 0, 0) p.toNatClampNeg ns) → rb_W Φ 2 12 23 [some (rbR (0, 0, 0)), some (rbI p), some (rbI ns), some (rbI (W (1, 0, 0) p.toNatClampNeg)), some (rbI (nI i)), none] [] (wI G s) := by
    intro d
    induction d with
    | zero =>
      intro i s hi hs
      obtain rfl : i = (cn 1) := by omega
      have hc8 : s (4, 1, 0) 2 = nI (cn 1) := by
        rw [hs]
        refine fo_inv (f := (x7_reach_b p)) (a := (up2 W (1, 0, 0) p.toNatClampNeg ns)) (P := fun w : rb_I => w (4, 1, 0) 2 = nI (cn 1)) (by simpa [up2] using hI.1 1 (by decide)) (fun i a h => ?_) _
        unfold x7_reach_b; split; rw [x7_detachIfNotReceived_o (by simp)]; exact h; exact h
      have hIs : xCI s cn := by
        rw [hs]
        exact fo_inv (f := x7_reach_b p) (a := (up2 W (1, 0, 0) p.toNatClampNeg ns)) (P := fun w => xCI w cn) (ci_rec hI) (fun i a h => by unfold x7_reach_b; split; exact ci_detach h; exact h) _
      subst hs
      refine rb_iload C dX7_reach_23 rfl ?_
      refine rb_aload_n C dX7_reach_25 rfl ?_
      refine rw_getP C FR_X7_32 dX7_reach_26 rfl (o := some (4, 1, 0)) (hG.1 4 (by decide)) ?_
      refine rb_callV C M_X7_48 (fun l X => (k_size l X G (fo (x7_reach_b p) (cn 1) (up2 W (1, 0, 0) p.toNatClampNeg ns)) (4, 1, 0) (nI (cn 1)) rfl (hc8)).m) rfl (Nat.le_of_ble_eq_true rfl) rfl dX7_reach_29 rfl rfl rfl (Nat.le_of_ble_eq_true rfl) ⟨(Nat.le_of_ble_eq_true rfl), (Nat.le_of_ble_eq_true rfl)⟩ (Nat.le_of_ble_eq_true rfl) (Nat.le_of_ble_eq_true rfl) (fun v G' hp => ?_) (fun _ _ hp => hp.elim)
      obtain ⟨rfl, e9⟩ := hp
      rw [e9]
      clear e9 G'
      refine rb_icmp_ge C 70 dX7_reach_32 (by decide) (fun _ => ?_) (fun h9 => absurd ((nI_le (a := cn 1) (b := cn 1) (Nat.le_refl _) (by omega))) h9)
      refine rb_iload_n C dX7_reach_70 rfl ?_
      exact rb_iret C E dX7_reach_71 (Nat.le_of_ble_eq_true rfl) (Nat.le_of_ble_eq_true rfl) (pt_ ((if_neg h2).trans ((if_neg h10).trans (rfl))))
    | succ d ih =>
      intro i s hi hs
      have hi9 : i < (cn 1) := by omega
      have hc8 : s (4, 1, 0) 2 = nI (cn 1) := by
        rw [hs]
        refine fo_inv (f := (x7_reach_b p)) (a := (up2 W (1, 0, 0) p.toNatClampNeg ns)) (P := fun w : rb_I => w (4, 1, 0) 2 = nI (cn 1)) (by simpa [up2] using hI.1 1 (by decide)) (fun i a h => ?_) _
        unfold x7_reach_b; split; rw [x7_detachIfNotReceived_o (by simp)]; exact h; exact h
      have hIs : xCI s cn := by
        rw [hs]
        exact fo_inv (f := x7_reach_b p) (a := (up2 W (1, 0, 0) p.toNatClampNeg ns)) (P := fun w => xCI w cn) (ci_rec hI) (fun i a h => by unfold x7_reach_b; split; exact ci_detach h; exact h) _
      refine rb_iload C dX7_reach_23 rfl ?_
      refine rb_aload_n C dX7_reach_25 rfl ?_
      refine rw_getP C FR_X7_32 dX7_reach_26 rfl (o := some (4, 1, 0)) (hG.1 4 (by decide)) ?_
      refine rb_callV C M_X7_48 (fun l X => (k_size l X G s (4, 1, 0) (nI (cn 1)) rfl (hc8)).m) rfl (Nat.le_of_ble_eq_true rfl) rfl dX7_reach_29 rfl rfl rfl (Nat.le_of_ble_eq_true rfl) ⟨(Nat.le_of_ble_eq_true rfl), (Nat.le_of_ble_eq_true rfl)⟩ (Nat.le_of_ble_eq_true rfl) (Nat.le_of_ble_eq_true rfl) (fun v G' hp => ?_) (fun _ _ hp => hp.elim)
      obtain ⟨rfl, e9⟩ := hp
      rw [e9]
      clear e9 G'
      refine rb_icmp_ge C 70 dX7_reach_32 (by decide) (fun h9 => absurd h9 ((nI_ge (a := i) (b := cn 1) hi9 (by omega)))) (fun _ => ?_)
      refine rb_aload_n C dX7_reach_35 rfl ?_
      refine rw_getP C FR_X7_32 dX7_reach_36 rfl (o := some (4, 1, 0)) (hG.1 4 (by decide)) ?_
      refine rb_iload C dX7_reach_39 rfl ?_
      refine rb_callV C M_X7_52 (fun l X => (k_get l X G s 1 (cn 1) i (nI i) (fun j => (9, j, 0)) hG.2.2.2.2.2.2.2.1 (hc8) rfl hi9 (by omega)).m) rfl (Nat.le_of_ble_eq_true rfl) rfl dX7_reach_41 rfl rfl rfl (Nat.le_of_ble_eq_true rfl) ⟨(Nat.le_of_ble_eq_true rfl), (Nat.le_of_ble_eq_true rfl)⟩ (Nat.le_of_ble_eq_true rfl) (Nat.le_of_ble_eq_true rfl) (fun v G' hp => ?_) (fun _ _ hp => hp.elim)
      obtain ⟨rfl, e9⟩ := hp
      rw [e9]
      clear e9 G'
      refine rb_cast C (ci := 7) L_X7_56 rfl (by decide) dX7_reach_44 rfl ?_
      refine rb_astore C dX7_reach_47 (Nat.le_of_ble_eq_true rfl) rfl (Lv' := [_, _, _, _, _, _]) rfl ?_
      refine rb_aload C dX7_reach_49 rfl ?_
      refine rw_getI C FR_X7_58 dX7_reach_51 rfl (x := (s (9, i, 0) 3)) (rfl) ?_
      refine rb_iload_n C dX7_reach_54 rfl ?_
      refine rb_icmp_ne C 64 dX7_reach_55 (by decide) (fun h55 => ?_) (fun h55 => ?_)
      · refine rb_iinc C dX7_reach_64 rfl (v := _ + 1) rfl rfl (Lv' := [_, _, _, _, _, _]) rfl ?_
        refine rb_goto C 23 dX7_reach_67 (by decide) ?_
        refine rb_W.unset 5 ?_
        rw [nI_1 i]
        exact ih (i + 1) s (by omega) (by rw [fo_s, ← hs]; exact Eq.symm ((if_neg h55).trans (rfl)))
      · refine rb_aload_n C dX7_reach_58 rfl ?_
        refine rb_aload C dX7_reach_59 rfl ?_
        refine rb_callV C M_X7_62 (fun l X => (k_X7_detachIfNotReceived l X G s cn ag hG i hIs).m) rfl (Nat.le_of_ble_eq_true rfl) rfl dX7_reach_61 rfl rfl rfl (Nat.le_of_ble_eq_true rfl) ⟨(Nat.le_of_ble_eq_true rfl), (Nat.le_of_ble_eq_true rfl)⟩ (Nat.le_of_ble_eq_true rfl) (Nat.le_of_ble_eq_true rfl) (fun v G' hp => ?_) (fun _ _ hp => hp.elim)
        obtain ⟨rfl, e9⟩ := hp
        rw [e9]
        clear e9 G'
        refine rb_iinc C dX7_reach_64 rfl (v := _ + 1) rfl rfl (Lv' := [_, _, _, _, _, _]) rfl ?_
        refine rb_goto C 23 dX7_reach_67 (by decide) ?_
        refine rb_W.unset 5 ?_
        rw [nI_1 i]
        exact ih (i + 1) (x7_detachIfNotReceived s i) (by omega) (by rw [fo_s, ← hs]; exact Eq.symm ((if_pos h55).trans (rfl)))
  exact loop (cn 1) 0 (up2 W (1, 0, 0) p.toNatClampNeg ns) (Nat.zero_add _) (fo_0 _ _).symm

def x7_dead (W : rb_I) (cn : Nat → Nat) (n : Int32) (is : Int32) : rb_U := (if m_isNetwork n = 0 then (1, (0 : Int32), W) else (if is = 0 then (0, (W (5, n.toNatClampNeg, 0) 1), (up2 W (5, n.toNatClampNeg, 0) 1 is)) else (0, (W (5, n.toNatClampNeg, 0) 1), (x7_detachAllFrom (x2_clear (up2 W (5, n.toNatClampNeg, 0) 1 is) n.toNatClampNeg) cn n))))
set_option maxRecDepth 100000 in
set_option maxHeartbeats 4000000 in
theorem k_X7_dead (l : Launch) (X : rb_X) (G : rb_G) (W : rb_I) (cn : Nat → Nat) (ag : Nat → Nat → Int32) (hG : xCS G cn ag) (n : Int32) (is : Int32) (hI : xCI W cn) (his : is = 0 ∨ is = 1) : rb_M l X yX7_dead (.code yX7_dead cX7_dead 5 (some .boolean)) 8 132 12 72 [rbR (0, 0, 0), rbI n, rbI is] (wI G W) (fun v9 G9 => (x7_dead W cn n is).1 = 0 ∧ v9 = some (rbI (x7_dead W cn n is).2.1) ∧ G9 = wI G (x7_dead W cn n is).2.2) (fun e9 G9 => (x7_dead W cn n is).1 = xc e9 ∧ G9 = wI G (x7_dead W cn n is).2.2) := by
  have hc0 : cn 0 ≤ 30 := hI.2.2.2.2.2.2.2.2.1
  have hc1 : cn 1 ≤ 10 := hI.2.2.2.2.2.2.2.2.2.1
  have hc2 : cn 2 ≤ 200 := hI.2.2.2.2.2.2.2.2.2.2.1
  refine rb_startM RX7 rfl (by decide +kernel) rfl (Nat.le_of_ble_eq_true rfl) ?_
  intro Φ C E EX
  show rb_W Φ 0 0 0 [some (rbR (0, 0, 0)), some (rbI n), some (rbI is), none, none] [] (wI G W)
  refine rb_aload_n C dX7_dead_0 rfl ?_
  refine rb_iload_n C dX7_dead_1 rfl ?_
  refine rb_callV C M_X7_66 (fun l X => k_X7_networkAt l X G W cn ag hG n) rfl (Nat.le_of_ble_eq_true rfl) rfl dX7_dead_2 rfl rfl rfl (Nat.le_of_ble_eq_true rfl) ⟨(Nat.le_of_ble_eq_true rfl), (Nat.le_of_ble_eq_true rfl)⟩ (Nat.le_of_ble_eq_true rfl) (Nat.le_of_ble_eq_true rfl) (fun v G' hp => ?_) (fun e9 G' hp => by obtain ⟨rfl, h2, e8⟩ := hp; rw [e8]; exact rb_out C EX (Nat.le_of_ble_eq_true rfl) (Nat.le_of_ble_eq_true rfl) (px_1 ((if_pos h2).trans (rfl))))
  obtain ⟨h2, rfl, e9⟩ := hp
  rw [e9]
  clear e9 G'
  refine rb_astore_n C dX7_dead_5 (Nat.le_of_ble_eq_true rfl) rfl (Lv' := [_, _, _, _, _]) rfl ?_
  refine rb_aload_n C dX7_dead_6 rfl ?_
  refine rw_getI C FR_X7_70 dX7_dead_7 rfl (x := (W (5, n.toNatClampNeg, 0) 1)) (rfl) ?_
  refine rb_istore C dX7_dead_10 (Nat.le_of_ble_eq_true rfl) rfl (Lv' := [_, _, _, _, _]) rfl ?_
  refine rb_aload_n C dX7_dead_12 rfl ?_
  refine rb_iload_n C dX7_dead_13 rfl ?_
  refine rw_putI C F_X7_70 dX7_dead_14 rfl ⟨nz_ his, fz_ his⟩ ?_
  refine rb_iload_n C dX7_dead_17 rfl ?_
  refine rb_if_eq C 33 dX7_dead_18 (by decide) (fun h18 => ?_) (fun h18 => ?_)
  · refine rb_iload C dX7_dead_33 rfl ?_
    exact rb_zret C E dX7_dead_35 (nz_ (hI.2.2.2.2.2.2.2.1 _)) (Nat.le_of_ble_eq_true rfl) (Nat.le_of_ble_eq_true rfl) (pt_ ((if_neg h2).trans ((if_pos h18).trans (rfl))))
  · refine rb_aload_n C dX7_dead_21 rfl ?_
    refine rw_getP C FR_X7_74 dX7_dead_22 rfl (o := some (6, n.toNatClampNeg, 0)) (hG.2.2.2.2.1 n.toNatClampNeg (vp_in_lt (isNetwork_in h2))).1 ?_
    refine rb_callV C M_X7_78 (fun l X => (k_X2_clear l X G (up2 W (5, n.toNatClampNeg, 0) 1 is) cn ag hG n.toNatClampNeg (vp_in_lt (isNetwork_in h2))).m) rfl (Nat.le_of_ble_eq_true rfl) rfl dX7_dead_25 rfl rfl rfl (Nat.le_of_ble_eq_true rfl) ⟨(Nat.le_of_ble_eq_true rfl), (Nat.le_of_ble_eq_true rfl)⟩ (Nat.le_of_ble_eq_true rfl) (Nat.le_of_ble_eq_true rfl) (fun v G' hp => ?_) (fun _ _ hp => hp.elim)
    obtain ⟨rfl, e9⟩ := hp
    rw [e9]
    clear e9 G'
    refine rb_aload_n C dX7_dead_28 rfl ?_
    refine rb_iload_n C dX7_dead_29 rfl ?_
    refine rb_callV C M_X7_83 (fun l X => (k_X7_detachAllFrom l X G (x2_clear (up2 W (5, n.toNatClampNeg, 0) 1 is) n.toNatClampNeg) cn ag hG n (ci_clear (ci_dead his hI))).m) rfl (Nat.le_of_ble_eq_true rfl) rfl dX7_dead_30 rfl rfl rfl (Nat.le_of_ble_eq_true rfl) ⟨(Nat.le_of_ble_eq_true rfl), (Nat.le_of_ble_eq_true rfl)⟩ (Nat.le_of_ble_eq_true rfl) (Nat.le_of_ble_eq_true rfl) (fun v G' hp => ?_) (fun _ _ hp => hp.elim)
    obtain ⟨rfl, e9⟩ := hp
    rw [e9]
    clear e9 G'
    refine rb_iload C dX7_dead_33 rfl ?_
    exact rb_zret C E dX7_dead_35 (nz_ (hI.2.2.2.2.2.2.2.1 _)) (Nat.le_of_ble_eq_true rfl) (Nat.le_of_ble_eq_true rfl) (pt_ ((if_neg h2).trans ((if_neg h18).trans (rfl))))

