set_option maxRecDepth 100000 in
set_option maxHeartbeats 4000000 in
theorem k_X7_settle (l : Launch) (X : rb_X) (G : rb_G) (W : rb_I) (cn : Nat → Nat) (ag : Nat → Nat → Int32) (hG : xCS G cn ag) (j : Nat) (p mi : Int32) (hI : xCI W cn) (hm : MS G) : rb_N l X yX7_settle (.code yX7_settle cX7_settle 5 none) 7 155 2 705 [rbR (0, 0, 0), rbR (9, j, 0), rbI p, rbI mi] (wI G W) (fun v9 G9 => v9 = none ∧ ∃ G1 W1, G9 = wI G1 W1 ∧ xq W1 (x7_settle W cn j p mi) ∧ MK G G1 ∧ xCS G1 (x7_scn W cn j p) (x7_sag W cn ag j p)) := by
  have hc0 : cn 0 ≤ 30 := hI.2.2.2.2.2.2.2.2.1
  have hc1 : cn 1 ≤ 10 := hI.2.2.2.2.2.2.2.2.2.1
  have hc2 : cn 2 ≤ 200 := hI.2.2.2.2.2.2.2.2.2.2.1
  refine rb_startN RX7 rfl (by decide +kernel) rfl (Nat.le_of_ble_eq_true rfl) ?_
  intro Φ C E nm
  show rb_W Φ 0 0 0 [some (rbR (0, 0, 0)), some (rbR (9, j, 0)), some (rbI p), some (rbI mi), none] [] (wI G W)
  refine rb_aload_n C dX7_settle_0 rfl ?_
  refine rb_dup C dX7_settle_1 rfl ?_
  refine rw_getI C FR_X7_181 dX7_settle_2 rfl (x := W (9, j, 0) 9) rfl ?_
  refine rb_iload_n C dX7_settle_5 rfl ?_
  refine rb_iadd C dX7_settle_6 ?_
  refine rw_putI C F_X7_181 dX7_settle_7 rfl ⟨rfl, rfl⟩ ?_
  refine rb_aload_n C dX7_settle_10 rfl ?_
  refine rb_callV C M_X7_317 (fun l X => (k_X6_isAbroad l X G (x7_sW0 W j p) j).m) rfl (Nat.le_of_ble_eq_true rfl) rfl dX7_settle_11 rfl rfl rfl (Nat.le_of_ble_eq_true rfl) ⟨(Nat.le_of_ble_eq_true rfl), (Nat.le_of_ble_eq_true rfl)⟩ (Nat.le_of_ble_eq_true rfl) (Nat.le_of_ble_eq_true rfl) (fun v G' hp => ?_) (fun _ _ hp => hp.elim)
  obtain ⟨rfl, e9⟩ := hp
  rw [e9]
  clear e9 G'
  refine rb_if_eq C 74 dX7_settle_14 (by decide) (fun h14 => ?_) (fun h14 => ?_)
  · exact rb_vret C E dX7_settle_74 (Nat.le_of_ble_eq_true rfl) (Nat.le_of_ble_eq_true rfl) ⟨rfl, G, _, rfl, by rw [x7_settle, if_pos h14]; exact fun _ _ _ _ => rfl, ⟨hm, rfl⟩, by rw [x7_scn, x7_sag, if_pos h14, if_pos h14]; exact hG⟩
  · have hv9 : vp_in (W (9, j, 0) 4) 6 := (hI.2.2.2.1 j).resolve_left (fun q => abr_ne h14 ((up2_n _ _ _ _ (by simp)).trans q))
    have hh9 : vp_in (W (9, j, 0) 1) 6 := hI.2.1 j
    have hK9 : x7_sK W j < 36 := by
      have q1 := vp_in_lt hv9
      have q2 := vp_in_lt hh9
      unfold x7_sK
      omega
    have hcK : cn (10 + x7_sK W j) ≤ 400 := hI.2.2.2.2.2.2.2.2.2.2.2 _ hK9
    refine rb_aload_n C dX7_settle_17 rfl ?_
    refine rb_dup C dX7_settle_18 rfl ?_
    refine rw_getI C FR_X7_184 dX7_settle_19 rfl (x := W (9, j, 0) 10) (up2_n _ _ _ _ (by simp)) ?_
    refine rb_iload_n C dX7_settle_22 rfl ?_
    refine rb_iadd C dX7_settle_23 ?_
    refine rw_putI C F_X7_184 dX7_settle_24 rfl ⟨rfl, rfl⟩ ?_
    refine rb_aload_n C dX7_settle_27 rfl ?_
    refine rb_aload_n C dX7_settle_28 rfl ?_
    refine rw_getI C FR_X7_292 dX7_settle_29 rfl (x := (W (9, j, 0) 1)) (show x7_sW1 W j p (9, j, 0) 1 = W (9, j, 0) 1 from (up2_n _ _ _ _ (by simp)).trans (up2_n _ _ _ _ (by simp))) ?_
    refine rb_aload_n C dX7_settle_32 rfl ?_
    refine rw_getI C FR_X7_142 dX7_settle_33 rfl (x := (W (9, j, 0) 4)) (show x7_sW1 W j p (9, j, 0) 4 = W (9, j, 0) 4 from (up2_n _ _ _ _ (by simp)).trans (up2_n _ _ _ _ (by simp))) ?_
    refine rb_callV C M_X7_295 (fun l X => (k_X7_agreementNow l X G (x7_sW1 W j p) cn ag hG (W (9, j, 0) 1) (W (9, j, 0) 4) (show x7_sW1 W j p (4, 0, 0) 2 = nI (cn 0) from (up2_n _ _ _ _ (by simp)).trans ((up2_n _ _ _ _ (by simp)).trans (hI.1 0 (by decide)))) hc0).m) rfl (Nat.le_of_ble_eq_true rfl) rfl dX7_settle_36 rfl rfl rfl (Nat.le_of_ble_eq_true rfl) ⟨(Nat.le_of_ble_eq_true rfl), (Nat.le_of_ble_eq_true rfl)⟩ (Nat.le_of_ble_eq_true rfl) (Nat.le_of_ble_eq_true rfl) (fun v G' hp => ?_) (fun _ _ hp => hp.elim)
    obtain ⟨rfl, e9⟩ := hp
    rw [e9]
    clear e9 G'
    refine rb_astore C dX7_settle_39 (Nat.le_of_ble_eq_true rfl) rfl (Lv' := [_, _, _, _, _]) rfl ?_
    refine rb_aload_n C dX7_settle_41 rfl ?_
    refine rb_aload_n C dX7_settle_42 rfl ?_
    refine rw_getI C FR_X7_142 dX7_settle_43 rfl (x := (W (9, j, 0) 4)) (show x7_sW1 W j p (9, j, 0) 4 = W (9, j, 0) 4 from (up2_n _ _ _ _ (by simp)).trans (up2_n _ _ _ _ (by simp))) ?_
    refine rb_aload_n C dX7_settle_46 rfl ?_
    refine rw_getI C FR_X7_292 dX7_settle_47 rfl (x := (W (9, j, 0) 1)) (show x7_sW1 W j p (9, j, 0) 1 = W (9, j, 0) 1 from (up2_n _ _ _ _ (by simp)).trans (up2_n _ _ _ _ (by simp))) ?_
    refine rb_callV C M_X7_228 (fun l X => (k_X7_accountOf_v l X G (x7_sW1 W j p) cn ag hG (W (9, j, 0) 4) (W (9, j, 0) 1) hv9 hh9).m) rfl (Nat.le_of_ble_eq_true rfl) rfl dX7_settle_50 rfl rfl rfl (Nat.le_of_ble_eq_true rfl) ⟨(Nat.le_of_ble_eq_true rfl), (Nat.le_of_ble_eq_true rfl)⟩ (Nat.le_of_ble_eq_true rfl) (Nat.le_of_ble_eq_true rfl) (fun v G' hp => ?_) (fun _ _ hp => hp.elim)
    obtain ⟨rfl, e9⟩ := hp
    rw [e9]
    clear e9 G'
    refine rw_getP C FR_X7_320 dX7_settle_53 rfl (o := some (4, 10 + (x7_sK W j), 0)) (hG.2.2.2.2.2.1 (x7_sK W j) hK9) ?_
    refine rw_new C (x7_sR W cn j) K_X7_323 dX7_settle_56 rfl (hG.2.2.2.2.2.2.2.2.2.2.2.2.2.2.2 (x7_sK W j) (cn (10 + (x7_sK W j))) hK9 (Nat.le_refl _)) (Nat.le_of_ble_eq_true rfl) (Nat.le_of_ble_eq_true rfl) ?_
    refine rb_dup C dX7_settle_59 rfl ?_
    refine rb_iload_n C dX7_settle_60 rfl ?_
    refine rb_aload_n C dX7_settle_61 rfl ?_
    refine rw_getI C FR_X7_160 dX7_settle_62 rfl (x := W (0, 0, 0) 6) ((if_neg (by unfold x7_sR; simp)).trans ((up2_n _ _ _ _ (by simp)).trans (up2_n _ _ _ _ (by simp)))) ?_
    refine rb_aload C dX7_settle_65 rfl ?_
    refine rb_callI C M_X7_325 (fun l X => k_X4_init l X (sN G (x7_sR W cn j) 0) (zW (x7_sW1 W j p) (x7_sR W cn j)) (x7_sK W j) (cn (10 + (x7_sK W j))) mi (W (0, 0, 0) 6) (agr (x7_sx W cn j p))) dX7_settle_67 rfl rfl rfl (Nat.le_of_ble_eq_true rfl) ⟨(Nat.le_of_ble_eq_true rfl), (Nat.le_of_ble_eq_true rfl)⟩ (Nat.le_of_ble_eq_true rfl) (Nat.le_of_ble_eq_true rfl) (fun v G' hp => ?_)
    obtain ⟨rfl, e9⟩ := hp
    rw [e9]
    clear e9 G'
    have hw9 : x7_sW2 W cn j p mi (4, 10 + (x7_sK W j), 0) 2 = nI (cn (10 + (x7_sK W j))) := by
      unfold x7_sW2 x4_init zW x7_sR x7_sW1 x7_sW0
      simp only [up2, Prod.mk.injEq]
      simp
      exact hI.1 _ (Or.inr ⟨by omega, by omega⟩)
    refine rb_add C (W := x7_sW2 W cn j p mi) (id := 10 + (x7_sK W j)) (n := (cn (10 + (x7_sK W j)))) (ci := 5) (el := fun i => (12, (x7_sK W j), i)) (v := (x7_sR W cn j)) M_X7_104 dX7_settle_70 (xLS.keep (id' := 10 + (x7_sK W j)) (xKeep_rec (10 + (x7_sK W j) + 1) (by unfold x7_sR; simp) _) (by unfold x7_sR; simp) (by omega) (hG.2.2.2.2.2.2.2.2.2.1 (x7_sK W j) hK9)) hw9 (by omega) rfl (Or.inr (Or.inr ⟨rfl, Or.inr (Or.inr (Or.inr rfl))⟩)) (fun k _ => Or.inr (Or.inr (Or.inr rfl))) (Or.inr hG.2.2.2.2.2.2.2.2.2.2.2.1.1) (Or.inr hG.2.2.2.2.2.2.2.2.2.2.2.1.2) rfl (Nat.le_of_ble_eq_true rfl) (Nat.le_of_ble_eq_true rfl) (Nat.le_of_ble_eq_true rfl) (Nat.le_of_ble_eq_true rfl) (Nat.le_of_ble_eq_true rfl) (fun G1 W1 hR hL => ?_)
    have hq9 : xKeep G G1 (10 + (x7_sK W j)) (x7_sR W cn j) := xKeep_tr (xKeep_rec _ (by unfold x7_sR; simp) _) hR
    have hV9 : (x7_sR W cn j) = xel (10 + (x7_sK W j)) (cn (10 + (x7_sK W j))) := by rw [xel_k]; rfl
    have hC9 : xCS G1 (bump cn (10 + (x7_sK W j))) (fun k i => if k = (x7_sK W j) ∧ i = (cn (10 + (x7_sK W j))) then (x7_sx W cn j p) else ag k i) := by
      refine xCS_keep (Or.inr ⟨by omega, by omega⟩) (by rw [← hV9]; exact hq9) ?_ (hA_rec hK9 (agNow_in _ _ _ _ (by omega)) hq9 ?_ hG) hG
      · rw [← xel_i (n := (cn (10 + (x7_sK W j)))) (fun i => (12, (x7_sK W j), i)) xel_k.symm]
        exact hL
      · exact (hR.2.2.1 _ _ (by simp) (by simp)).trans (up2_s _ _ _ _)
    refine rb_pop C dX7_settle_73 rfl ?_
    exact rb_vret C E dX7_settle_74 (Nat.le_of_ble_eq_true rfl) (Nat.le_of_ble_eq_true rfl) ⟨rfl, G1, W1, rfl, by rw [x7_settle, if_neg h14]; exact xq_of hR, xMK_keep hq9 (by unfold x7_sR; exact ⟨by simp, by simp⟩) hm, by rw [x7_scn, x7_sag, if_neg h14, if_neg h14]; exact hC9⟩

