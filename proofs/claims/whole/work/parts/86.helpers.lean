/-! the law's own methods -/
def wJ (G : rb_G) (J : rb_R → Nat → Int64) : rb_G := (gD G, gN G, gI G, gP G, J)
def lq (sq : Nat → Int32) (f : rb_U) (G : rb_G) (v9 : Option rb_V) (G9 : rb_G) : Prop := v9 = some (rbI (sq f.1)) ∧ ∃ J, G9 = wI (wJ G J) f.2.2 ∧ (f.1 = 0 → J (17, 0, 0) 0 = Int32.toInt64 f.2.1)
def lqz (sq : Nat → Int32) (f : rb_U) (G : rb_G) (v9 : Option rb_V) (G9 : rb_G) : Prop := v9 = some (rbI (sq f.1)) ∧ ∃ J, G9 = wI (wJ G J) f.2.2 ∧ (f.1 = 0 → J (17, 0, 0) 0 = if f.2.1 = 0 then 0 else 1)
def lqv (sq : Nat → Int32) (f : rb_U) (G : rb_G) (v9 : Option rb_V) (G9 : rb_G) : Prop := v9 = some (rbI (sq f.1)) ∧ G9 = wI G f.2.2
def lqa (f : rb_U) (G : rb_G) (cn : Nat → Nat) (ag : Nat → Nat → Int32) (id : Nat) (v9 : Option rb_V) (G9 : rb_G) : Prop := v9 = some (rbI (sq_3 f.1)) ∧ ((f.1 ≠ 0 ∧ G9 = wI G f.2.2) ∨ (f.1 = 0 ∧ ∃ G1 W1 J, G9 = wI (wJ G1 J) W1 ∧ xq W1 f.2.2 ∧ MK G G1 ∧ xCS G1 (bump cn id) ag ∧ J (17, 0, 0) 0 = Int32.toInt64 f.2.1))
theorem xc_0 (E : String) : xc E ≠ 0 := by
  unfold xc
  (repeat' split) <;> decide
theorem xc_i1 {E : String} (h : xc E = 1) : E = "java/lang/IndexOutOfBoundsException" := by
  unfold xc at h
  split at h
  · assumption
  · split at h
    · exact absurd h (by decide)
    · split at h <;> exact absurd h (by decide)
theorem xc_i2 {E : String} (h : xc E = 2) : E = "java/lang/IllegalArgumentException" := by
  unfold xc at h
  split at h
  · exact absurd h (by decide)
  · split at h
    · assumption
    · split at h <;> exact absurd h (by decide)
theorem xc_i3 {E : String} (h : xc E = 3) : E = "java/lang/IllegalStateException" := by
  unfold xc at h
  split at h
  · exact absurd h (by decide)
  · split at h
    · exact absurd h (by decide)
    · split at h
      · assumption
      · exact absurd h (by decide)
theorem em_1 (W : rb_I) (u : Int32) : ∀ d i, (x7_em_b W u d i).1 = 0 := by
  intro d
  induction d with
  | zero => intro i; rfl
  | succ d ih =>
    intro i
    unfold x7_em_b
    split
    · exact ih _
    · split
      · rfl
      · exact ih _
theorem ag_1 (W : rb_I) (u : Int32) : ∀ d i, (x7_ag_b W u d i).1 = 0 := by
  intro d
  induction d with
  | zero => intro i; unfold x7_ag_b; (repeat' split) <;> rfl
  | succ d ih =>
    intro i
    unfold x7_ag_b
    (repeat' split) <;> first | rfl | exact ih _
theorem cn_pv {E nm : String} (h : (E, nm) ∈ rb_ncs) : (E, nm) ∈ rb_ncs := h
theorem vp_01 {n : Nat} (h : n = 1) : vp_in 0 n := by
  rw [h]
  exact (show ¬ ((0 : Int32) < 0 ∨ 1 ≤ (0 : Int32).toNatClampNeg) by decide)
theorem cd_reach (W : rb_I) (cn : Nat → Nat) (p ns : Int32) : (x7_reach W cn p ns).1 = 0 ∨ (x7_reach W cn p ns).1 = 1 ∨ (x7_reach W cn p ns).1 = 2 := by
  unfold x7_reach
  (repeat' split) <;> first | exact Or.inl rfl | exact Or.inr (Or.inl rfl) | exact Or.inr (Or.inr (rfl))
set_option maxRecDepth 100000 in
set_option maxHeartbeats 4000000 in
theorem k_L_reach (l : Launch) (X : rb_X) (G : rb_G) (W : rb_I) (cn : Nat → Nat) (ag : Nat → Nat → Int32) (hG : xCS G cn ag) (p ns : Int32) (hI : xCI W cn) (hJ : gN G (17, 0, 0) = 1) : rb_N l X yL_reach (.codeWith yL_reach cL_reach 5 (some .int) [(0, 10, 13, 13), (0, 10, 17, 15)]) 9 157 12 72 [rbR (0, 0, 0), rbI p, rbI ns, rbR (17, 0, 0)] (wI G W) (fun v9 G9 => lq sq_3 (x7_reach W cn p ns) G v9 G9) := by
  refine rb_startW RL rfl (by decide +kernel) rfl (Nat.le_of_ble_eq_true rfl) ?_
  intro Φ C E T
  show rb_W Φ 0 0 0 [some (rbR (0, 0, 0)), some (rbI p), some (rbI ns), some (rbR (17, 0, 0)), none] [] (wI G W)
  refine rb_aload_n C dL_reach_0 rfl ?_
  refine rb_iconst C dL_reach_1 (v := 0) (by decide) ?_
  refine rb_aload_n C dL_reach_2 rfl ?_
  refine rb_iload_n C dL_reach_3 rfl ?_
  refine rb_iload_n C dL_reach_4 rfl ?_
  refine rb_callV C M_L_7 (fun l X => k_X7_reach l X G W cn ag hG p ns hI) rfl (Nat.le_of_ble_eq_true rfl) rfl dL_reach_5 rfl rfl rfl (Nat.le_of_ble_eq_true rfl) ⟨(Nat.le_of_ble_eq_true rfl), (Nat.le_of_ble_eq_true rfl)⟩ (Nat.le_of_ble_eq_true rfl) (Nat.le_of_ble_eq_true rfl) (fun v G' hp => ?_) (fun E9 G' hp => ?_)
  · obtain ⟨hf0, hv, e9⟩ := hp
    subst hv
    rw [e9]
    clear e9 G'
    refine rb_i2l C dL_reach_8 ?_
    refine rb_last C dL_reach_9 rfl (vp_01 (hJ)) ?_
    refine rb_goto C 21 dL_reach_10 (by decide) ?_
    refine rb_iconst C dL_reach_21 (v := 0) (by decide) ?_
    exact rb_iret C E dL_reach_22 (Nat.le_of_ble_eq_true rfl) (Nat.le_of_ble_eq_true rfl) (⟨by rw [hf0, sq_30], _, rfl, fun _ => up2_s _ _ _ _⟩)
  · obtain ⟨hx, e9⟩ := hp
    rw [e9]
    clear e9 G'
    rcases cd_reach W cn p ns with h9 | h9 | h9
    · exact absurd (hx.symm.trans h9) (xc_0 E9)
    · obtain rfl := xc_i1 (hx.symm.trans h9)
      exact rb_catch C T E [] ⟨0, 10, 13, 13⟩ [⟨0, 10, 17, 15⟩] rfl (fun z hz => by cases hz) (by decide) (by decide) L_L_13 (by decide +kernel) (i := 4) (pc1 := 15) (pc2 := 16) (n := 1) (v := 1) (Or.inl ⟨dL_reach_13, rfl⟩) dL_reach_15 rfl dL_reach_16 (by decide) (Nat.le_of_ble_eq_true rfl) (Nat.le_of_ble_eq_true rfl) (Nat.le_of_ble_eq_true rfl) ⟨by rw [h9, sq_31], _, rfl, fun q => absurd (h9.symm.trans q) (by decide)⟩
    · obtain rfl := xc_i2 (hx.symm.trans h9)
      exact rb_catch C T E [⟨0, 10, 13, 13⟩] ⟨0, 10, 17, 15⟩ [] rfl (fun z hz => by
        simp only [List.mem_cons, List.not_mem_nil, or_false] at hz
        subst hz
        exact ⟨by decide, _, L_L_13, by decide +kernel⟩) (by decide) (by decide) L_L_15 (by decide +kernel) (i := 4) (pc1 := 19) (pc2 := 20) (n := 2) (v := 2) (Or.inl ⟨dL_reach_17, rfl⟩) dL_reach_19 rfl dL_reach_20 (by decide) (Nat.le_of_ble_eq_true rfl) (Nat.le_of_ble_eq_true rfl) (Nat.le_of_ble_eq_true rfl) ⟨by rw [h9, sq_32], _, rfl, fun q => absurd (h9.symm.trans q) (by decide)⟩

theorem cd_dead (W : rb_I) (cn : Nat → Nat) (n is : Int32) : (x7_dead W cn n is).1 = 0 ∨ (x7_dead W cn n is).1 = 1 := by
  unfold x7_dead
  (repeat' split) <;> first | exact Or.inl rfl | exact Or.inr (rfl)
set_option maxRecDepth 100000 in
set_option maxHeartbeats 4000000 in
theorem k_L_dead (l : Launch) (X : rb_X) (G : rb_G) (W : rb_I) (cn : Nat → Nat) (ag : Nat → Nat → Int32) (hG : xCS G cn ag) (n is : Int32) (hI : xCI W cn) (his : is = 0 ∨ is = 1) (hJ : gN G (17, 0, 0) = 1) : rb_N l X yL_dead (.codeWith yL_dead cL_dead 5 (some .int) [(0, 17, 20, 13)]) 9 156 12 72 [rbR (0, 0, 0), rbI n, rbI is, rbR (17, 0, 0)] (wI G W) (fun v9 G9 => lqz sq_3 (x7_dead W cn n is) G v9 G9) := by
  refine rb_startW RL rfl (by decide +kernel) rfl (Nat.le_of_ble_eq_true rfl) ?_
  intro Φ C E T
  show rb_W Φ 0 0 0 [some (rbR (0, 0, 0)), some (rbI n), some (rbI is), some (rbR (17, 0, 0)), none] [] (wI G W)
  refine rb_aload_n C dL_dead_0 rfl ?_
  refine rb_iconst C dL_dead_1 (v := 0) (by decide) ?_
  refine rb_aload_n C dL_dead_2 rfl ?_
  refine rb_iload_n C dL_dead_3 rfl ?_
  refine rb_iload_n C dL_dead_4 rfl ?_
  refine rb_callV C M_L_17 (fun l X => k_X7_dead l X G W cn ag hG n is hI his) rfl (Nat.le_of_ble_eq_true rfl) rfl dL_dead_5 rfl rfl rfl (Nat.le_of_ble_eq_true rfl) ⟨(Nat.le_of_ble_eq_true rfl), (Nat.le_of_ble_eq_true rfl)⟩ (Nat.le_of_ble_eq_true rfl) (Nat.le_of_ble_eq_true rfl) (fun v G' hp => ?_) (fun E9 G' hp => ?_)
  · obtain ⟨hf0, hv, e9⟩ := hp
    subst hv
    rw [e9]
    clear e9 G'
    refine rb_if_eq C 15 dL_dead_8 (by decide) (fun hz => ?_) (fun hz => ?_)
    · refine rb_lconst C dL_dead_15 (v := 0) (by decide) ?_
      refine rb_last C dL_dead_16 rfl (vp_01 (hJ)) ?_
      refine rb_goto C 24 dL_dead_17 (by decide) ?_
      refine rb_iconst C dL_dead_24 (v := 0) (by decide) ?_
      exact rb_iret C E dL_dead_25 (Nat.le_of_ble_eq_true rfl) (Nat.le_of_ble_eq_true rfl) (⟨by rw [hf0, sq_30], _, rfl, fun _ => (up2_s _ _ _ _).trans (if_pos hz).symm⟩)
    · refine rb_lconst C dL_dead_11 (v := 1) (by decide) ?_
      refine rb_goto C 16 dL_dead_12 (by decide) ?_
      refine rb_last C dL_dead_16 rfl (vp_01 (hJ)) ?_
      refine rb_goto C 24 dL_dead_17 (by decide) ?_
      refine rb_iconst C dL_dead_24 (v := 0) (by decide) ?_
      exact rb_iret C E dL_dead_25 (Nat.le_of_ble_eq_true rfl) (Nat.le_of_ble_eq_true rfl) (⟨by rw [hf0, sq_30], _, rfl, fun _ => (up2_s _ _ _ _).trans (if_neg hz).symm⟩)
  · obtain ⟨hx, e9⟩ := hp
    rw [e9]
    clear e9 G'
    rcases cd_dead W cn n is with h9 | h9
    · exact absurd (hx.symm.trans h9) (xc_0 E9)
    · obtain rfl := xc_i1 (hx.symm.trans h9)
      exact rb_catch C T E [] ⟨0, 17, 20, 13⟩ [] rfl (fun z hz => by cases hz) (by decide) (by decide) L_L_13 (by decide +kernel) (i := 4) (pc1 := 22) (pc2 := 23) (n := 1) (v := 1) (Or.inl ⟨dL_dead_20, rfl⟩) dL_dead_22 rfl dL_dead_23 (by decide) (Nat.le_of_ble_eq_true rfl) (Nat.le_of_ble_eq_true rfl) (Nat.le_of_ble_eq_true rfl) ⟨by rw [h9, sq_31], _, rfl, fun q => absurd (h9.symm.trans q) (by decide)⟩

theorem cd_agree (W : rb_I) (cn : Nat → Nat) (ho vi fr0 to0 pr th lw : Int32) : (x7_agree W cn ho vi fr0 to0 pr th lw).1 = 0 ∨ (x7_agree W cn ho vi fr0 to0 pr th lw).1 = 1 ∨ (x7_agree W cn ho vi fr0 to0 pr th lw).1 = 2 ∨ (x7_agree W cn ho vi fr0 to0 pr th lw).1 = 3 := by
  unfold x7_agree
  (repeat' split) <;> first | exact Or.inl rfl | exact Or.inr (Or.inl rfl) | exact Or.inr (Or.inr (Or.inl rfl)) | exact Or.inr (Or.inr (Or.inr (rfl)))
set_option maxRecDepth 100000 in
set_option maxHeartbeats 4000000 in
theorem k_L_agree (l : Launch) (X : rb_X) (G : rb_G) (W : rb_I) (cn : Nat → Nat) (ag : Nat → Nat → Int32) (hG : xCS G cn ag) (ho vi fr0 to0 pr th lw : Int32) (hI : xCI W cn) (hm : MS G) (hJ : gN G (17, 0, 0) = 1) : rb_N l X yL_agree (.codeWith yL_agree cL_agree 10 (some .int) [(0, 20, 23, 13), (0, 20, 27, 15), (0, 20, 31, 25)]) 8 182 12 800 [rbR (0, 0, 0), rbI ho, rbI vi, rbI fr0, rbI to0, rbI pr, rbI th, rbI lw, rbR (17, 0, 0)] (wI G W) (fun v9 G9 => lqa (x7_agree W cn ho vi fr0 to0 pr th lw) G cn ag 0 v9 G9) := by
  refine rb_startW RL rfl (by decide +kernel) rfl (Nat.le_of_ble_eq_true rfl) ?_
  intro Φ C E T
  show rb_W Φ 0 0 0 [some (rbR (0, 0, 0)), some (rbI ho), some (rbI vi), some (rbI fr0), some (rbI to0), some (rbI pr), some (rbI th), some (rbI lw), some (rbR (17, 0, 0)), none] [] (wI G W)
  refine rb_aload C dL_agree_0 rfl ?_
  refine rb_iconst C dL_agree_2 (v := 0) (by decide) ?_
  refine rb_aload_n C dL_agree_3 rfl ?_
  refine rb_iload_n C dL_agree_4 rfl ?_
  refine rb_iload_n C dL_agree_5 rfl ?_
  refine rb_iload_n C dL_agree_6 rfl ?_
  refine rb_iload C dL_agree_7 rfl ?_
  refine rb_iload C dL_agree_9 rfl ?_
  refine rb_iload C dL_agree_11 rfl ?_
  refine rb_iload C dL_agree_13 rfl ?_
  refine rb_callV C M_L_21 (fun l X => k_X7_agree l X G W cn ag hG ho vi fr0 to0 pr th lw hI hm) rfl (Nat.le_of_ble_eq_true rfl) rfl dL_agree_15 rfl rfl rfl (Nat.le_of_ble_eq_true rfl) ⟨(Nat.le_of_ble_eq_true rfl), (Nat.le_of_ble_eq_true rfl)⟩ (Nat.le_of_ble_eq_true rfl) (Nat.le_of_ble_eq_true rfl) (fun v G' hp => ?_) (fun E9 G' hp => ?_)
  · obtain ⟨hf0, hv, G1, W1, e9, hq, hK, hC1⟩ := hp
    subst hv
    rw [e9]
    clear e9 G'
    refine rb_i2l C dL_agree_18 ?_
    refine rb_last C dL_agree_19 rfl (vp_01 (hK.2.trans hJ)) ?_
    refine rb_goto C 35 dL_agree_20 (by decide) ?_
    refine rb_iconst C dL_agree_35 (v := 0) (by decide) ?_
    exact rb_iret C E dL_agree_36 (Nat.le_of_ble_eq_true rfl) (Nat.le_of_ble_eq_true rfl) (⟨by rw [hf0, sq_30], Or.inr ⟨hf0, G1, W1, _, rfl, hq, hK, hC1, up2_s _ _ _ _⟩⟩)
  · obtain ⟨hx, e9⟩ := hp
    rw [e9]
    clear e9 G'
    rcases cd_agree W cn ho vi fr0 to0 pr th lw with h9 | h9 | h9 | h9
    · exact absurd (hx.symm.trans h9) (xc_0 E9)
    · obtain rfl := xc_i1 (hx.symm.trans h9)
      exact rb_catch C T E [] ⟨0, 20, 23, 13⟩ [⟨0, 20, 27, 15⟩, ⟨0, 20, 31, 25⟩] rfl (fun z hz => by cases hz) (by decide) (by decide) L_L_13 (by decide +kernel) (i := 9) (pc1 := 25) (pc2 := 26) (n := 1) (v := 1) (Or.inl ⟨dL_agree_23, rfl⟩) dL_agree_25 rfl dL_agree_26 (by decide) (Nat.le_of_ble_eq_true rfl) (Nat.le_of_ble_eq_true rfl) (Nat.le_of_ble_eq_true rfl) ⟨by rw [h9, sq_31], Or.inl ⟨fun q => absurd (h9.symm.trans q) (by decide), rfl⟩⟩
    · obtain rfl := xc_i2 (hx.symm.trans h9)
      exact rb_catch C T E [⟨0, 20, 23, 13⟩] ⟨0, 20, 27, 15⟩ [⟨0, 20, 31, 25⟩] rfl (fun z hz => by
        simp only [List.mem_cons, List.not_mem_nil, or_false] at hz
        subst hz
        exact ⟨by decide, _, L_L_13, by decide +kernel⟩) (by decide) (by decide) L_L_15 (by decide +kernel) (i := 9) (pc1 := 29) (pc2 := 30) (n := 2) (v := 2) (Or.inl ⟨dL_agree_27, rfl⟩) dL_agree_29 rfl dL_agree_30 (by decide) (Nat.le_of_ble_eq_true rfl) (Nat.le_of_ble_eq_true rfl) (Nat.le_of_ble_eq_true rfl) ⟨by rw [h9, sq_32], Or.inl ⟨fun q => absurd (h9.symm.trans q) (by decide), rfl⟩⟩
    · obtain rfl := xc_i3 (hx.symm.trans h9)
      exact rb_catch C T E [⟨0, 20, 23, 13⟩, ⟨0, 20, 27, 15⟩] ⟨0, 20, 31, 25⟩ [] rfl (fun z hz => by
        simp only [List.mem_cons, List.not_mem_nil, or_false] at hz
        rcases hz with hz | hz
        · subst hz
          exact ⟨by decide, _, L_L_13, by decide +kernel⟩
        · subst hz
          exact ⟨by decide, _, L_L_15, by decide +kernel⟩) (by decide) (by decide) L_L_25 (by decide +kernel) (i := 9) (pc1 := 33) (pc2 := 34) (n := 3) (v := 3) (Or.inl ⟨dL_agree_31, rfl⟩) dL_agree_33 rfl dL_agree_34 (by decide) (Nat.le_of_ble_eq_true rfl) (Nat.le_of_ble_eq_true rfl) (Nat.le_of_ble_eq_true rfl) ⟨by rw [h9, sq_33], Or.inl ⟨fun q => absurd (h9.symm.trans q) (by decide), rfl⟩⟩

theorem cd_steer (W : rb_I) (cn : Nat → Nat) (ho n : Int32) : (x7_steer W cn ho n).1 = 0 ∨ (x7_steer W cn ho n).1 = 1 ∨ (x7_steer W cn ho n).1 = 2 := by
  unfold x7_steer
  (repeat' split) <;> first | exact Or.inl rfl | exact Or.inr (Or.inl rfl) | exact Or.inr (Or.inr (rfl))
set_option maxRecDepth 100000 in
set_option maxHeartbeats 4000000 in
theorem k_L_steer (l : Launch) (X : rb_X) (G : rb_G) (W : rb_I) (cn : Nat → Nat) (ag : Nat → Nat → Int32) (hG : xCS G cn ag) (ho n : Int32) (hI : xCI W cn) (hJ : gN G (17, 0, 0) = 1) : rb_N l X yL_steer (.codeWith yL_steer cL_steer 5 (some .int) [(0, 10, 13, 13), (0, 10, 17, 15)]) 9 156 12 72 [rbR (0, 0, 0), rbI ho, rbI n, rbR (17, 0, 0)] (wI G W) (fun v9 G9 => lq sq_3 (x7_steer W cn ho n) G v9 G9) := by
  refine rb_startW RL rfl (by decide +kernel) rfl (Nat.le_of_ble_eq_true rfl) ?_
  intro Φ C E T
  show rb_W Φ 0 0 0 [some (rbR (0, 0, 0)), some (rbI ho), some (rbI n), some (rbR (17, 0, 0)), none] [] (wI G W)
  refine rb_aload_n C dL_steer_0 rfl ?_
  refine rb_iconst C dL_steer_1 (v := 0) (by decide) ?_
  refine rb_aload_n C dL_steer_2 rfl ?_
  refine rb_iload_n C dL_steer_3 rfl ?_
  refine rb_iload_n C dL_steer_4 rfl ?_
  refine rb_callV C M_L_27 (fun l X => k_X7_steer l X G W cn ag hG ho n hI) rfl (Nat.le_of_ble_eq_true rfl) rfl dL_steer_5 rfl rfl rfl (Nat.le_of_ble_eq_true rfl) ⟨(Nat.le_of_ble_eq_true rfl), (Nat.le_of_ble_eq_true rfl)⟩ (Nat.le_of_ble_eq_true rfl) (Nat.le_of_ble_eq_true rfl) (fun v G' hp => ?_) (fun E9 G' hp => ?_)
  · obtain ⟨hf0, hv, e9⟩ := hp
    subst hv
    rw [e9]
    clear e9 G'
    refine rb_i2l C dL_steer_8 ?_
    refine rb_last C dL_steer_9 rfl (vp_01 (hJ)) ?_
    refine rb_goto C 21 dL_steer_10 (by decide) ?_
    refine rb_iconst C dL_steer_21 (v := 0) (by decide) ?_
    exact rb_iret C E dL_steer_22 (Nat.le_of_ble_eq_true rfl) (Nat.le_of_ble_eq_true rfl) (⟨by rw [hf0, sq_30], _, rfl, fun _ => up2_s _ _ _ _⟩)
  · obtain ⟨hx, e9⟩ := hp
    rw [e9]
    clear e9 G'
    rcases cd_steer W cn ho n with h9 | h9 | h9
    · exact absurd (hx.symm.trans h9) (xc_0 E9)
    · obtain rfl := xc_i1 (hx.symm.trans h9)
      exact rb_catch C T E [] ⟨0, 10, 13, 13⟩ [⟨0, 10, 17, 15⟩] rfl (fun z hz => by cases hz) (by decide) (by decide) L_L_13 (by decide +kernel) (i := 4) (pc1 := 15) (pc2 := 16) (n := 1) (v := 1) (Or.inl ⟨dL_steer_13, rfl⟩) dL_steer_15 rfl dL_steer_16 (by decide) (Nat.le_of_ble_eq_true rfl) (Nat.le_of_ble_eq_true rfl) (Nat.le_of_ble_eq_true rfl) ⟨by rw [h9, sq_31], _, rfl, fun q => absurd (h9.symm.trans q) (by decide)⟩
    · obtain rfl := xc_i2 (hx.symm.trans h9)
      exact rb_catch C T E [⟨0, 10, 13, 13⟩] ⟨0, 10, 17, 15⟩ [] rfl (fun z hz => by
        simp only [List.mem_cons, List.not_mem_nil, or_false] at hz
        subst hz
        exact ⟨by decide, _, L_L_13, by decide +kernel⟩) (by decide) (by decide) L_L_15 (by decide +kernel) (i := 4) (pc1 := 19) (pc2 := 20) (n := 2) (v := 2) (Or.inl ⟨dL_steer_17, rfl⟩) dL_steer_19 rfl dL_steer_20 (by decide) (Nat.le_of_ble_eq_true rfl) (Nat.le_of_ble_eq_true rfl) (Nat.le_of_ble_eq_true rfl) ⟨by rw [h9, sq_32], _, rfl, fun q => absurd (h9.symm.trans q) (by decide)⟩

theorem cd_prices (W : rb_I) (cn : Nat → Nat) (ho ah ab ca : Int32) : (x7_prices W cn ho ah ab ca).1 = 0 ∨ (x7_prices W cn ho ah ab ca).1 = 1 ∨ (x7_prices W cn ho ah ab ca).1 = 2 := by
  unfold x7_prices
  (repeat' split) <;> first | exact Or.inl rfl | exact Or.inr (Or.inl rfl) | exact Or.inr (Or.inr (rfl))
set_option maxRecDepth 100000 in
set_option maxHeartbeats 4000000 in
theorem k_L_prices (l : Launch) (X : rb_X) (G : rb_G) (W : rb_I) (cn : Nat → Nat) (ag : Nat → Nat → Int32) (hG : xCS G cn ag) (ho ah ab ca : Int32) (hI : xCI W cn) : rb_N l X yL_prices (.codeWith yL_prices cL_prices 6 (some .int) [(0, 9, 12, 13), (0, 9, 16, 15)]) 9 157 12 72 [rbR (0, 0, 0), rbI ho, rbI ah, rbI ab, rbI ca] (wI G W) (fun v9 G9 => lqv sq_3 (x7_prices W cn ho ah ab ca) G v9 G9) := by
  refine rb_startW RL rfl (by decide +kernel) rfl (Nat.le_of_ble_eq_true rfl) ?_
  intro Φ C E T
  show rb_W Φ 0 0 0 [some (rbR (0, 0, 0)), some (rbI ho), some (rbI ah), some (rbI ab), some (rbI ca), none] [] (wI G W)
  refine rb_aload_n C dL_prices_0 rfl ?_
  refine rb_iload_n C dL_prices_1 rfl ?_
  refine rb_iload_n C dL_prices_2 rfl ?_
  refine rb_iload_n C dL_prices_3 rfl ?_
  refine rb_iload C dL_prices_4 rfl ?_
  refine rb_callV C M_L_30 (fun l X => k_X7_prices l X G W cn ag hG ho ah ab ca hI) rfl (Nat.le_of_ble_eq_true rfl) rfl dL_prices_6 rfl rfl rfl (Nat.le_of_ble_eq_true rfl) ⟨(Nat.le_of_ble_eq_true rfl), (Nat.le_of_ble_eq_true rfl)⟩ (Nat.le_of_ble_eq_true rfl) (Nat.le_of_ble_eq_true rfl) (fun v G' hp => ?_) (fun E9 G' hp => ?_)
  · obtain ⟨hf0, hv, e9⟩ := hp
    subst hv
    rw [e9]
    clear e9 G'
    refine rb_goto C 20 dL_prices_9 (by decide) ?_
    refine rb_iconst C dL_prices_20 (v := 0) (by decide) ?_
    exact rb_iret C E dL_prices_21 (Nat.le_of_ble_eq_true rfl) (Nat.le_of_ble_eq_true rfl) (⟨by rw [hf0, sq_30], rfl⟩)
  · obtain ⟨hx, e9⟩ := hp
    rw [e9]
    clear e9 G'
    rcases cd_prices W cn ho ah ab ca with h9 | h9 | h9
    · exact absurd (hx.symm.trans h9) (xc_0 E9)
    · obtain rfl := xc_i1 (hx.symm.trans h9)
      exact rb_catch C T E [] ⟨0, 9, 12, 13⟩ [⟨0, 9, 16, 15⟩] rfl (fun z hz => by cases hz) (by decide) (by decide) L_L_13 (by decide +kernel) (i := 5) (pc1 := 14) (pc2 := 15) (n := 1) (v := 1) (Or.inl ⟨dL_prices_12, rfl⟩) dL_prices_14 rfl dL_prices_15 (by decide) (Nat.le_of_ble_eq_true rfl) (Nat.le_of_ble_eq_true rfl) (Nat.le_of_ble_eq_true rfl) ⟨by rw [h9, sq_31], rfl⟩
    · obtain rfl := xc_i2 (hx.symm.trans h9)
      exact rb_catch C T E [⟨0, 9, 12, 13⟩] ⟨0, 9, 16, 15⟩ [] rfl (fun z hz => by
        simp only [List.mem_cons, List.not_mem_nil, or_false] at hz
        subst hz
        exact ⟨by decide, _, L_L_13, by decide +kernel⟩) (by decide) (by decide) L_L_15 (by decide +kernel) (i := 5) (pc1 := 18) (pc2 := 19) (n := 2) (v := 2) (Or.inl ⟨dL_prices_16, rfl⟩) dL_prices_18 rfl dL_prices_19 (by decide) (Nat.le_of_ble_eq_true rfl) (Nat.le_of_ble_eq_true rfl) (Nat.le_of_ble_eq_true rfl) ⟨by rw [h9, sq_32], rfl⟩

theorem cd_lose (W : rb_I) (cn : Nat → Nat) (n many : Int32) : (x7_lose W cn n many).1 = 0 ∨ (x7_lose W cn n many).1 = 1 ∨ (x7_lose W cn n many).1 = 2 := by
  unfold x7_lose
  (repeat' split) <;> first | exact Or.inl rfl | exact Or.inr (Or.inl rfl) | exact Or.inr (Or.inr (rfl))
set_option maxRecDepth 100000 in
set_option maxHeartbeats 4000000 in
theorem k_L_lose (l : Launch) (X : rb_X) (G : rb_G) (W : rb_I) (cn : Nat → Nat) (ag : Nat → Nat → Int32) (hG : xCS G cn ag) (n many : Int32) (hI : xCI W cn) (hJ : gN G (17, 0, 0) = 1) : rb_N l X yL_lose (.codeWith yL_lose cL_lose 5 (some .int) [(0, 10, 13, 13), (0, 10, 17, 15)]) 9 156 12 72 [rbR (0, 0, 0), rbI n, rbI many, rbR (17, 0, 0)] (wI G W) (fun v9 G9 => lq sq_3 (x7_lose W cn n many) G v9 G9) := by
  refine rb_startW RL rfl (by decide +kernel) rfl (Nat.le_of_ble_eq_true rfl) ?_
  intro Φ C E T
  show rb_W Φ 0 0 0 [some (rbR (0, 0, 0)), some (rbI n), some (rbI many), some (rbR (17, 0, 0)), none] [] (wI G W)
  refine rb_aload_n C dL_lose_0 rfl ?_
  refine rb_iconst C dL_lose_1 (v := 0) (by decide) ?_
  refine rb_aload_n C dL_lose_2 rfl ?_
  refine rb_iload_n C dL_lose_3 rfl ?_
  refine rb_iload_n C dL_lose_4 rfl ?_
  refine rb_callV C M_L_34 (fun l X => k_X7_lose l X G W cn ag hG n many hI) rfl (Nat.le_of_ble_eq_true rfl) rfl dL_lose_5 rfl rfl rfl (Nat.le_of_ble_eq_true rfl) ⟨(Nat.le_of_ble_eq_true rfl), (Nat.le_of_ble_eq_true rfl)⟩ (Nat.le_of_ble_eq_true rfl) (Nat.le_of_ble_eq_true rfl) (fun v G' hp => ?_) (fun E9 G' hp => ?_)
  · obtain ⟨hf0, hv, e9⟩ := hp
    subst hv
    rw [e9]
    clear e9 G'
    refine rb_i2l C dL_lose_8 ?_
    refine rb_last C dL_lose_9 rfl (vp_01 (hJ)) ?_
    refine rb_goto C 21 dL_lose_10 (by decide) ?_
    refine rb_iconst C dL_lose_21 (v := 0) (by decide) ?_
    exact rb_iret C E dL_lose_22 (Nat.le_of_ble_eq_true rfl) (Nat.le_of_ble_eq_true rfl) (⟨by rw [hf0, sq_30], _, rfl, fun _ => up2_s _ _ _ _⟩)
  · obtain ⟨hx, e9⟩ := hp
    rw [e9]
    clear e9 G'
    rcases cd_lose W cn n many with h9 | h9 | h9
    · exact absurd (hx.symm.trans h9) (xc_0 E9)
    · obtain rfl := xc_i1 (hx.symm.trans h9)
      exact rb_catch C T E [] ⟨0, 10, 13, 13⟩ [⟨0, 10, 17, 15⟩] rfl (fun z hz => by cases hz) (by decide) (by decide) L_L_13 (by decide +kernel) (i := 4) (pc1 := 15) (pc2 := 16) (n := 1) (v := 1) (Or.inl ⟨dL_lose_13, rfl⟩) dL_lose_15 rfl dL_lose_16 (by decide) (Nat.le_of_ble_eq_true rfl) (Nat.le_of_ble_eq_true rfl) (Nat.le_of_ble_eq_true rfl) ⟨by rw [h9, sq_31], _, rfl, fun q => absurd (h9.symm.trans q) (by decide)⟩
    · obtain rfl := xc_i2 (hx.symm.trans h9)
      exact rb_catch C T E [⟨0, 10, 13, 13⟩] ⟨0, 10, 17, 15⟩ [] rfl (fun z hz => by
        simp only [List.mem_cons, List.not_mem_nil, or_false] at hz
        subst hz
        exact ⟨by decide, _, L_L_13, by decide +kernel⟩) (by decide) (by decide) L_L_15 (by decide +kernel) (i := 4) (pc1 := 19) (pc2 := 20) (n := 2) (v := 2) (Or.inl ⟨dL_lose_17, rfl⟩) dL_lose_19 rfl dL_lose_20 (by decide) (Nat.le_of_ble_eq_true rfl) (Nat.le_of_ble_eq_true rfl) (Nat.le_of_ble_eq_true rfl) ⟨by rw [h9, sq_32], _, rfl, fun q => absurd (h9.symm.trans q) (by decide)⟩

theorem cd_crash (W : rb_I) (cn : Nat → Nat) (n : Int32) : (x7_crash W cn n).1 = 0 ∨ (x7_crash W cn n).1 = 1 := by
  unfold x7_crash
  (repeat' split) <;> first | exact Or.inl rfl | exact Or.inr (rfl)
set_option maxRecDepth 100000 in
set_option maxHeartbeats 4000000 in
theorem k_L_crash (l : Launch) (X : rb_X) (G : rb_G) (W : rb_I) (cn : Nat → Nat) (ag : Nat → Nat → Int32) (hG : xCS G cn ag) (n : Int32) (hI : xCI W cn) (hJ : gN G (17, 0, 0) = 1) : rb_N l X yL_crash (.codeWith yL_crash cL_crash 4 (some .int) [(0, 9, 12, 13)]) 9 155 12 72 [rbR (0, 0, 0), rbI n, rbR (17, 0, 0)] (wI G W) (fun v9 G9 => lq sq_3 (x7_crash W cn n) G v9 G9) := by
  refine rb_startW RL rfl (by decide +kernel) rfl (Nat.le_of_ble_eq_true rfl) ?_
  intro Φ C E T
  show rb_W Φ 0 0 0 [some (rbR (0, 0, 0)), some (rbI n), some (rbR (17, 0, 0)), none] [] (wI G W)
  refine rb_aload_n C dL_crash_0 rfl ?_
  refine rb_iconst C dL_crash_1 (v := 0) (by decide) ?_
  refine rb_aload_n C dL_crash_2 rfl ?_
  refine rb_iload_n C dL_crash_3 rfl ?_
  refine rb_callV C M_L_37 (fun l X => k_X7_crash l X G W cn ag hG n hI) rfl (Nat.le_of_ble_eq_true rfl) rfl dL_crash_4 rfl rfl rfl (Nat.le_of_ble_eq_true rfl) ⟨(Nat.le_of_ble_eq_true rfl), (Nat.le_of_ble_eq_true rfl)⟩ (Nat.le_of_ble_eq_true rfl) (Nat.le_of_ble_eq_true rfl) (fun v G' hp => ?_) (fun E9 G' hp => ?_)
  · obtain ⟨hf0, hv, e9⟩ := hp
    subst hv
    rw [e9]
    clear e9 G'
    refine rb_i2l C dL_crash_7 ?_
    refine rb_last C dL_crash_8 rfl (vp_01 (hJ)) ?_
    refine rb_goto C 15 dL_crash_9 (by decide) ?_
    refine rb_iconst C dL_crash_15 (v := 0) (by decide) ?_
    exact rb_iret C E dL_crash_16 (Nat.le_of_ble_eq_true rfl) (Nat.le_of_ble_eq_true rfl) (⟨by rw [hf0, sq_30], _, rfl, fun _ => up2_s _ _ _ _⟩)
  · obtain ⟨hx, e9⟩ := hp
    rw [e9]
    clear e9 G'
    rcases cd_crash W cn n with h9 | h9
    · exact absurd (hx.symm.trans h9) (xc_0 E9)
    · obtain rfl := xc_i1 (hx.symm.trans h9)
      exact rb_catch C T E [] ⟨0, 9, 12, 13⟩ [] rfl (fun z hz => by cases hz) (by decide) (by decide) L_L_13 (by decide +kernel) (i := 3) (pc1 := 13) (pc2 := 14) (n := 1) (v := 1) (Or.inr ⟨dL_crash_12, rfl, rfl⟩) dL_crash_13 rfl dL_crash_14 (by decide) (Nat.le_of_ble_eq_true rfl) (Nat.le_of_ble_eq_true rfl) (Nat.le_of_ble_eq_true rfl) ⟨by rw [h9, sq_31], _, rfl, fun q => absurd (h9.symm.trans q) (by decide)⟩

theorem cd_subscriber (W : rb_I) (cn : Nat → Nat) (ho pl fo0 : Int32) : (x7_subscriber W cn ho pl fo0).1 = 0 ∨ (x7_subscriber W cn ho pl fo0).1 = 1 ∨ (x7_subscriber W cn ho pl fo0).1 = 2 ∨ (x7_subscriber W cn ho pl fo0).1 = 3 := by
  unfold x7_subscriber
  (repeat' split) <;> first | exact Or.inl rfl | exact Or.inr (Or.inl rfl) | exact Or.inr (Or.inr (Or.inl rfl)) | exact Or.inr (Or.inr (Or.inr (rfl)))
set_option maxRecDepth 100000 in
set_option maxHeartbeats 4000000 in
theorem k_L_subscriber (l : Launch) (X : rb_X) (G : rb_G) (W : rb_I) (cn : Nat → Nat) (ag : Nat → Nat → Int32) (hG : xCS G cn ag) (ho pl fo0 : Int32) (hI : xCI W cn) (hm : MS G) (hJ : gN G (17, 0, 0) = 1) : rb_N l X yL_subscriber (.codeWith yL_subscriber cL_subscriber 6 (some .int) [(0, 12, 15, 13), (0, 12, 19, 15), (0, 12, 23, 25)]) 8 179 12 800 [rbR (0, 0, 0), rbI ho, rbI pl, rbI fo0, rbR (17, 0, 0)] (wI G W) (fun v9 G9 => lqa (x7_subscriber W cn ho pl fo0) G cn ag 1 v9 G9) := by
  refine rb_startW RL rfl (by decide +kernel) rfl (Nat.le_of_ble_eq_true rfl) ?_
  intro Φ C E T
  show rb_W Φ 0 0 0 [some (rbR (0, 0, 0)), some (rbI ho), some (rbI pl), some (rbI fo0), some (rbR (17, 0, 0)), none] [] (wI G W)
  refine rb_aload C dL_subscriber_0 rfl ?_
  refine rb_iconst C dL_subscriber_2 (v := 0) (by decide) ?_
  refine rb_aload_n C dL_subscriber_3 rfl ?_
  refine rb_iload_n C dL_subscriber_4 rfl ?_
  refine rb_iload_n C dL_subscriber_5 rfl ?_
  refine rb_iload_n C dL_subscriber_6 rfl ?_
  refine rb_callV C M_L_41 (fun l X => k_X7_subscriber l X G W cn ag hG ho pl fo0 hI hm) rfl (Nat.le_of_ble_eq_true rfl) rfl dL_subscriber_7 rfl rfl rfl (Nat.le_of_ble_eq_true rfl) ⟨(Nat.le_of_ble_eq_true rfl), (Nat.le_of_ble_eq_true rfl)⟩ (Nat.le_of_ble_eq_true rfl) (Nat.le_of_ble_eq_true rfl) (fun v G' hp => ?_) (fun E9 G' hp => ?_)
  · obtain ⟨hf0, hv, G1, W1, e9, hq, hK, hC1⟩ := hp
    subst hv
    rw [e9]
    clear e9 G'
    refine rb_i2l C dL_subscriber_10 ?_
    refine rb_last C dL_subscriber_11 rfl (vp_01 (hK.2.trans hJ)) ?_
    refine rb_goto C 27 dL_subscriber_12 (by decide) ?_
    refine rb_iconst C dL_subscriber_27 (v := 0) (by decide) ?_
    exact rb_iret C E dL_subscriber_28 (Nat.le_of_ble_eq_true rfl) (Nat.le_of_ble_eq_true rfl) (⟨by rw [hf0, sq_30], Or.inr ⟨hf0, G1, W1, _, rfl, hq, hK, hC1, up2_s _ _ _ _⟩⟩)
  · obtain ⟨hx, e9⟩ := hp
    rw [e9]
    clear e9 G'
    rcases cd_subscriber W cn ho pl fo0 with h9 | h9 | h9 | h9
    · exact absurd (hx.symm.trans h9) (xc_0 E9)
    · obtain rfl := xc_i1 (hx.symm.trans h9)
      exact rb_catch C T E [] ⟨0, 12, 15, 13⟩ [⟨0, 12, 19, 15⟩, ⟨0, 12, 23, 25⟩] rfl (fun z hz => by cases hz) (by decide) (by decide) L_L_13 (by decide +kernel) (i := 5) (pc1 := 17) (pc2 := 18) (n := 1) (v := 1) (Or.inl ⟨dL_subscriber_15, rfl⟩) dL_subscriber_17 rfl dL_subscriber_18 (by decide) (Nat.le_of_ble_eq_true rfl) (Nat.le_of_ble_eq_true rfl) (Nat.le_of_ble_eq_true rfl) ⟨by rw [h9, sq_31], Or.inl ⟨fun q => absurd (h9.symm.trans q) (by decide), rfl⟩⟩
    · obtain rfl := xc_i2 (hx.symm.trans h9)
      exact rb_catch C T E [⟨0, 12, 15, 13⟩] ⟨0, 12, 19, 15⟩ [⟨0, 12, 23, 25⟩] rfl (fun z hz => by
        simp only [List.mem_cons, List.not_mem_nil, or_false] at hz
        subst hz
        exact ⟨by decide, _, L_L_13, by decide +kernel⟩) (by decide) (by decide) L_L_15 (by decide +kernel) (i := 5) (pc1 := 21) (pc2 := 22) (n := 2) (v := 2) (Or.inl ⟨dL_subscriber_19, rfl⟩) dL_subscriber_21 rfl dL_subscriber_22 (by decide) (Nat.le_of_ble_eq_true rfl) (Nat.le_of_ble_eq_true rfl) (Nat.le_of_ble_eq_true rfl) ⟨by rw [h9, sq_32], Or.inl ⟨fun q => absurd (h9.symm.trans q) (by decide), rfl⟩⟩
    · obtain rfl := xc_i3 (hx.symm.trans h9)
      exact rb_catch C T E [⟨0, 12, 15, 13⟩, ⟨0, 12, 19, 15⟩] ⟨0, 12, 23, 25⟩ [] rfl (fun z hz => by
        simp only [List.mem_cons, List.not_mem_nil, or_false] at hz
        rcases hz with hz | hz
        · subst hz
          exact ⟨by decide, _, L_L_13, by decide +kernel⟩
        · subst hz
          exact ⟨by decide, _, L_L_15, by decide +kernel⟩) (by decide) (by decide) L_L_25 (by decide +kernel) (i := 5) (pc1 := 25) (pc2 := 26) (n := 3) (v := 3) (Or.inl ⟨dL_subscriber_23, rfl⟩) dL_subscriber_25 rfl dL_subscriber_26 (by decide) (Nat.le_of_ble_eq_true rfl) (Nat.le_of_ble_eq_true rfl) (Nat.le_of_ble_eq_true rfl) ⟨by rw [h9, sq_33], Or.inl ⟨fun q => absurd (h9.symm.trans q) (by decide), rfl⟩⟩

theorem cd_move (W : rb_I) (cn : Nat → Nat) (s p : Int32) : (x7_move W cn s p).1 = 0 ∨ (x7_move W cn s p).1 = 1 := by
  unfold x7_move
  (repeat' split) <;> first | exact Or.inl rfl | exact Or.inr (rfl)
set_option maxRecDepth 100000 in
set_option maxHeartbeats 4000000 in
theorem k_L_move (l : Launch) (X : rb_X) (G : rb_G) (W : rb_I) (cn : Nat → Nat) (ag : Nat → Nat → Int32) (hG : xCS G cn ag) (s p : Int32) (hI : xCI W cn) (hJ : gN G (17, 0, 0) = 1) : rb_N l X yL_move (.codeWith yL_move cL_move 5 (some .int) [(0, 10, 13, 13)]) 8 134 12 72 [rbR (0, 0, 0), rbI s, rbI p, rbR (17, 0, 0)] (wI G W) (fun v9 G9 => lq sq_3 (x7_move W cn s p) G v9 G9) := by
  refine rb_startW RL rfl (by decide +kernel) rfl (Nat.le_of_ble_eq_true rfl) ?_
  intro Φ C E T
  show rb_W Φ 0 0 0 [some (rbR (0, 0, 0)), some (rbI s), some (rbI p), some (rbR (17, 0, 0)), none] [] (wI G W)
  refine rb_aload_n C dL_move_0 rfl ?_
  refine rb_iconst C dL_move_1 (v := 0) (by decide) ?_
  refine rb_aload_n C dL_move_2 rfl ?_
  refine rb_iload_n C dL_move_3 rfl ?_
  refine rb_iload_n C dL_move_4 rfl ?_
  refine rb_callV C M_L_45 (fun l X => k_X7_move l X G W cn ag hG s p hI) rfl (Nat.le_of_ble_eq_true rfl) rfl dL_move_5 rfl rfl rfl (Nat.le_of_ble_eq_true rfl) ⟨(Nat.le_of_ble_eq_true rfl), (Nat.le_of_ble_eq_true rfl)⟩ (Nat.le_of_ble_eq_true rfl) (Nat.le_of_ble_eq_true rfl) (fun v G' hp => ?_) (fun E9 G' hp => ?_)
  · obtain ⟨hf0, hv, e9⟩ := hp
    subst hv
    rw [e9]
    clear e9 G'
    refine rb_i2l C dL_move_8 ?_
    refine rb_last C dL_move_9 rfl (vp_01 (hJ)) ?_
    refine rb_goto C 17 dL_move_10 (by decide) ?_
    refine rb_iconst C dL_move_17 (v := 0) (by decide) ?_
    exact rb_iret C E dL_move_18 (Nat.le_of_ble_eq_true rfl) (Nat.le_of_ble_eq_true rfl) (⟨by rw [hf0, sq_30], _, rfl, fun _ => up2_s _ _ _ _⟩)
  · obtain ⟨hx, e9⟩ := hp
    rw [e9]
    clear e9 G'
    rcases cd_move W cn s p with h9 | h9
    · exact absurd (hx.symm.trans h9) (xc_0 E9)
    · obtain rfl := xc_i1 (hx.symm.trans h9)
      exact rb_catch C T E [] ⟨0, 10, 13, 13⟩ [] rfl (fun z hz => by cases hz) (by decide) (by decide) L_L_13 (by decide +kernel) (i := 4) (pc1 := 15) (pc2 := 16) (n := 1) (v := 1) (Or.inl ⟨dL_move_13, rfl⟩) dL_move_15 rfl dL_move_16 (by decide) (Nat.le_of_ble_eq_true rfl) (Nat.le_of_ble_eq_true rfl) (Nat.le_of_ble_eq_true rfl) ⟨by rw [h9, sq_31], _, rfl, fun q => absurd (h9.symm.trans q) (by decide)⟩

theorem cd_off (W : rb_I) (cn : Nat → Nat) (s : Int32) : (x7_off W cn s).1 = 0 ∨ (x7_off W cn s).1 = 1 := by
  unfold x7_off
  (repeat' split) <;> first | exact Or.inl rfl | exact Or.inr (rfl)
set_option maxRecDepth 100000 in
set_option maxHeartbeats 4000000 in
theorem k_L_off (l : Launch) (X : rb_X) (G : rb_G) (W : rb_I) (cn : Nat → Nat) (ag : Nat → Nat → Int32) (hG : xCS G cn ag) (s : Int32) (hI : xCI W cn) (hJ : gN G (17, 0, 0) = 1) : rb_N l X yL_off (.codeWith yL_off cL_off 4 (some .int) [(0, 9, 12, 13)]) 8 134 12 72 [rbR (0, 0, 0), rbI s, rbR (17, 0, 0)] (wI G W) (fun v9 G9 => lq sq_3 (x7_off W cn s) G v9 G9) := by
  refine rb_startW RL rfl (by decide +kernel) rfl (Nat.le_of_ble_eq_true rfl) ?_
  intro Φ C E T
  show rb_W Φ 0 0 0 [some (rbR (0, 0, 0)), some (rbI s), some (rbR (17, 0, 0)), none] [] (wI G W)
  refine rb_aload_n C dL_off_0 rfl ?_
  refine rb_iconst C dL_off_1 (v := 0) (by decide) ?_
  refine rb_aload_n C dL_off_2 rfl ?_
  refine rb_iload_n C dL_off_3 rfl ?_
  refine rb_callV C M_L_48 (fun l X => k_X7_off l X G W cn ag hG s hI) rfl (Nat.le_of_ble_eq_true rfl) rfl dL_off_4 rfl rfl rfl (Nat.le_of_ble_eq_true rfl) ⟨(Nat.le_of_ble_eq_true rfl), (Nat.le_of_ble_eq_true rfl)⟩ (Nat.le_of_ble_eq_true rfl) (Nat.le_of_ble_eq_true rfl) (fun v G' hp => ?_) (fun E9 G' hp => ?_)
  · obtain ⟨hf0, hv, e9⟩ := hp
    subst hv
    rw [e9]
    clear e9 G'
    refine rb_i2l C dL_off_7 ?_
    refine rb_last C dL_off_8 rfl (vp_01 (hJ)) ?_
    refine rb_goto C 15 dL_off_9 (by decide) ?_
    refine rb_iconst C dL_off_15 (v := 0) (by decide) ?_
    exact rb_iret C E dL_off_16 (Nat.le_of_ble_eq_true rfl) (Nat.le_of_ble_eq_true rfl) (⟨by rw [hf0, sq_30], _, rfl, fun _ => up2_s _ _ _ _⟩)
  · obtain ⟨hx, e9⟩ := hp
    rw [e9]
    clear e9 G'
    rcases cd_off W cn s with h9 | h9
    · exact absurd (hx.symm.trans h9) (xc_0 E9)
    · obtain rfl := xc_i1 (hx.symm.trans h9)
      exact rb_catch C T E [] ⟨0, 9, 12, 13⟩ [] rfl (fun z hz => by cases hz) (by decide) (by decide) L_L_13 (by decide +kernel) (i := 3) (pc1 := 13) (pc2 := 14) (n := 1) (v := 1) (Or.inr ⟨dL_off_12, rfl, rfl⟩) dL_off_13 rfl dL_off_14 (by decide) (Nat.le_of_ble_eq_true rfl) (Nat.le_of_ble_eq_true rfl) (Nat.le_of_ble_eq_true rfl) ⟨by rw [h9, sq_31], _, rfl, fun q => absurd (h9.symm.trans q) (by decide)⟩

theorem cd_attach (W : rb_I) (cn : Nat → Nat) (s n : Int32) : (x7_attach W cn s n).1 = 0 ∨ (x7_attach W cn s n).1 = 1 ∨ (x7_attach W cn s n).1 = 3 := by
  unfold x7_attach
  (repeat' split) <;> first | exact Or.inl rfl | exact Or.inr (Or.inl rfl) | exact Or.inr (Or.inr (rfl))
set_option maxRecDepth 100000 in
set_option maxHeartbeats 4000000 in
theorem k_L_attach (l : Launch) (X : rb_X) (G : rb_G) (W : rb_I) (cn : Nat → Nat) (ag : Nat → Nat → Int32) (hG : xCS G cn ag) (s n : Int32) (hI : xCI W cn) (hJ : gN G (17, 0, 0) = 1) : rb_N l X yL_attach (.codeWith yL_attach cL_attach 5 (some .int) [(0, 10, 13, 13), (0, 10, 17, 25)]) 8 169 12 72 [rbR (0, 0, 0), rbI s, rbI n, rbR (17, 0, 0)] (wI G W) (fun v9 G9 => lq sq_2 (x7_attach W cn s n) G v9 G9) := by
  refine rb_startW RL rfl (by decide +kernel) rfl (Nat.le_of_ble_eq_true rfl) ?_
  intro Φ C E T
  show rb_W Φ 0 0 0 [some (rbR (0, 0, 0)), some (rbI s), some (rbI n), some (rbR (17, 0, 0)), none] [] (wI G W)
  refine rb_aload_n C dL_attach_0 rfl ?_
  refine rb_iconst C dL_attach_1 (v := 0) (by decide) ?_
  refine rb_aload_n C dL_attach_2 rfl ?_
  refine rb_iload_n C dL_attach_3 rfl ?_
  refine rb_iload_n C dL_attach_4 rfl ?_
  refine rb_callV C M_L_51 (fun l X => k_X7_attach l X G W cn ag hG s n hI) rfl (Nat.le_of_ble_eq_true rfl) rfl dL_attach_5 rfl rfl rfl (Nat.le_of_ble_eq_true rfl) ⟨(Nat.le_of_ble_eq_true rfl), (Nat.le_of_ble_eq_true rfl)⟩ (Nat.le_of_ble_eq_true rfl) (Nat.le_of_ble_eq_true rfl) (fun v G' hp => ?_) (fun E9 G' hp => ?_)
  · obtain ⟨hf0, hv, e9⟩ := hp
    subst hv
    rw [e9]
    clear e9 G'
    refine rb_i2l C dL_attach_8 ?_
    refine rb_last C dL_attach_9 rfl (vp_01 (hJ)) ?_
    refine rb_goto C 21 dL_attach_10 (by decide) ?_
    refine rb_iconst C dL_attach_21 (v := 0) (by decide) ?_
    exact rb_iret C E dL_attach_22 (Nat.le_of_ble_eq_true rfl) (Nat.le_of_ble_eq_true rfl) (⟨by rw [hf0, sq_20], _, rfl, fun _ => up2_s _ _ _ _⟩)
  · obtain ⟨hx, e9⟩ := hp
    rw [e9]
    clear e9 G'
    rcases cd_attach W cn s n with h9 | h9 | h9
    · exact absurd (hx.symm.trans h9) (xc_0 E9)
    · obtain rfl := xc_i1 (hx.symm.trans h9)
      exact rb_catch C T E [] ⟨0, 10, 13, 13⟩ [⟨0, 10, 17, 25⟩] rfl (fun z hz => by cases hz) (by decide) (by decide) L_L_13 (by decide +kernel) (i := 4) (pc1 := 15) (pc2 := 16) (n := 1) (v := 1) (Or.inl ⟨dL_attach_13, rfl⟩) dL_attach_15 rfl dL_attach_16 (by decide) (Nat.le_of_ble_eq_true rfl) (Nat.le_of_ble_eq_true rfl) (Nat.le_of_ble_eq_true rfl) ⟨by rw [h9, sq_21], _, rfl, fun q => absurd (h9.symm.trans q) (by decide)⟩
    · obtain rfl := xc_i3 (hx.symm.trans h9)
      exact rb_catch C T E [⟨0, 10, 13, 13⟩] ⟨0, 10, 17, 25⟩ [] rfl (fun z hz => by
        simp only [List.mem_cons, List.not_mem_nil, or_false] at hz
        subst hz
        exact ⟨by decide, _, L_L_13, by decide +kernel⟩) (by decide) (by decide) L_L_25 (by decide +kernel) (i := 4) (pc1 := 19) (pc2 := 20) (n := 2) (v := 2) (Or.inl ⟨dL_attach_17, rfl⟩) dL_attach_19 rfl dL_attach_20 (by decide) (Nat.le_of_ble_eq_true rfl) (Nat.le_of_ble_eq_true rfl) (Nat.le_of_ble_eq_true rfl) ⟨by rw [h9, sq_23], _, rfl, fun q => absurd (h9.symm.trans q) (by decide)⟩

theorem cd_emergency (W : rb_I) (cn : Nat → Nat) (u : Int32) : (x7_emergency W cn u).1 = 0 ∨ (x7_emergency W cn u).1 = 1 := by
  unfold x7_emergency
  (repeat' split) <;> first | exact Or.inl rfl | exact Or.inr (rfl) | exact Or.inl (em_1 _ _ _ _)
set_option maxRecDepth 100000 in
set_option maxHeartbeats 4000000 in
theorem k_L_emergency (l : Launch) (X : rb_X) (G : rb_G) (W : rb_I) (cn : Nat → Nat) (ag : Nat → Nat → Int32) (hG : xCS G cn ag) (u : Int32) (hI : xCI W cn) (hJ : gN G (17, 0, 0) = 1) : rb_N l X yL_emergency (.codeWith yL_emergency cL_emergency 4 (some .int) [(0, 9, 12, 13)]) 8 135 12 72 [rbR (0, 0, 0), rbI u, rbR (17, 0, 0)] (wI G W) (fun v9 G9 => lq sq_3 (x7_emergency W cn u) G v9 G9) := by
  refine rb_startW RL rfl (by decide +kernel) rfl (Nat.le_of_ble_eq_true rfl) ?_
  intro Φ C E T
  show rb_W Φ 0 0 0 [some (rbR (0, 0, 0)), some (rbI u), some (rbR (17, 0, 0)), none] [] (wI G W)
  refine rb_aload_n C dL_emergency_0 rfl ?_
  refine rb_iconst C dL_emergency_1 (v := 0) (by decide) ?_
  refine rb_aload_n C dL_emergency_2 rfl ?_
  refine rb_iload_n C dL_emergency_3 rfl ?_
  refine rb_callV C M_L_54 (fun l X => k_X7_emergency l X G W cn ag hG u hI) rfl (Nat.le_of_ble_eq_true rfl) rfl dL_emergency_4 rfl rfl rfl (Nat.le_of_ble_eq_true rfl) ⟨(Nat.le_of_ble_eq_true rfl), (Nat.le_of_ble_eq_true rfl)⟩ (Nat.le_of_ble_eq_true rfl) (Nat.le_of_ble_eq_true rfl) (fun v G' hp => ?_) (fun E9 G' hp => ?_)
  · obtain ⟨hf0, hv, e9⟩ := hp
    subst hv
    rw [e9]
    clear e9 G'
    refine rb_i2l C dL_emergency_7 ?_
    refine rb_last C dL_emergency_8 rfl (vp_01 (hJ)) ?_
    refine rb_goto C 15 dL_emergency_9 (by decide) ?_
    refine rb_iconst C dL_emergency_15 (v := 0) (by decide) ?_
    exact rb_iret C E dL_emergency_16 (Nat.le_of_ble_eq_true rfl) (Nat.le_of_ble_eq_true rfl) (⟨by rw [hf0, sq_30], _, rfl, fun _ => up2_s _ _ _ _⟩)
  · obtain ⟨hx, e9⟩ := hp
    rw [e9]
    clear e9 G'
    rcases cd_emergency W cn u with h9 | h9
    · exact absurd (hx.symm.trans h9) (xc_0 E9)
    · obtain rfl := xc_i1 (hx.symm.trans h9)
      exact rb_catch C T E [] ⟨0, 9, 12, 13⟩ [] rfl (fun z hz => by cases hz) (by decide) (by decide) L_L_13 (by decide +kernel) (i := 3) (pc1 := 13) (pc2 := 14) (n := 1) (v := 1) (Or.inr ⟨dL_emergency_12, rfl, rfl⟩) dL_emergency_13 rfl dL_emergency_14 (by decide) (Nat.le_of_ble_eq_true rfl) (Nat.le_of_ble_eq_true rfl) (Nat.le_of_ble_eq_true rfl) ⟨by rw [h9, sq_31], _, rfl, fun q => absurd (h9.symm.trans q) (by decide)⟩

theorem cd_where (W : rb_I) (cn : Nat → Nat) (s : Int32) : (x7_where W cn s).1 = 0 ∨ (x7_where W cn s).1 = 1 := by
  unfold x7_where
  (repeat' split) <;> first | exact Or.inl rfl | exact Or.inr (rfl)
set_option maxRecDepth 100000 in
set_option maxHeartbeats 4000000 in
theorem k_L_where (l : Launch) (X : rb_X) (G : rb_G) (W : rb_I) (cn : Nat → Nat) (ag : Nat → Nat → Int32) (hG : xCS G cn ag) (s : Int32) (hI : xCI W cn) (hJ : gN G (17, 0, 0) = 1) : rb_N l X yL_where (.codeWith yL_where cL_where 4 (some .int) [(0, 9, 12, 13)]) 8 132 12 72 [rbR (0, 0, 0), rbI s, rbR (17, 0, 0)] (wI G W) (fun v9 G9 => lq sq_3 (x7_where W cn s) G v9 G9) := by
  refine rb_startW RL rfl (by decide +kernel) rfl (Nat.le_of_ble_eq_true rfl) ?_
  intro Φ C E T
  show rb_W Φ 0 0 0 [some (rbR (0, 0, 0)), some (rbI s), some (rbR (17, 0, 0)), none] [] (wI G W)
  refine rb_aload_n C dL_where_0 rfl ?_
  refine rb_iconst C dL_where_1 (v := 0) (by decide) ?_
  refine rb_aload_n C dL_where_2 rfl ?_
  refine rb_iload_n C dL_where_3 rfl ?_
  refine rb_callV C M_L_57 (fun l X => k_X7_where l X G W cn ag hG s hI) rfl (Nat.le_of_ble_eq_true rfl) rfl dL_where_4 rfl rfl rfl (Nat.le_of_ble_eq_true rfl) ⟨(Nat.le_of_ble_eq_true rfl), (Nat.le_of_ble_eq_true rfl)⟩ (Nat.le_of_ble_eq_true rfl) (Nat.le_of_ble_eq_true rfl) (fun v G' hp => ?_) (fun E9 G' hp => ?_)
  · obtain ⟨hf0, hv, e9⟩ := hp
    subst hv
    rw [e9]
    clear e9 G'
    refine rb_i2l C dL_where_7 ?_
    refine rb_last C dL_where_8 rfl (vp_01 (hJ)) ?_
    refine rb_goto C 15 dL_where_9 (by decide) ?_
    refine rb_iconst C dL_where_15 (v := 0) (by decide) ?_
    exact rb_iret C E dL_where_16 (Nat.le_of_ble_eq_true rfl) (Nat.le_of_ble_eq_true rfl) (⟨by rw [hf0, sq_30], _, rfl, fun _ => up2_s _ _ _ _⟩)
  · obtain ⟨hx, e9⟩ := hp
    rw [e9]
    clear e9 G'
    rcases cd_where W cn s with h9 | h9
    · exact absurd (hx.symm.trans h9) (xc_0 E9)
    · obtain rfl := xc_i1 (hx.symm.trans h9)
      exact rb_catch C T E [] ⟨0, 9, 12, 13⟩ [] rfl (fun z hz => by cases hz) (by decide) (by decide) L_L_13 (by decide +kernel) (i := 3) (pc1 := 13) (pc2 := 14) (n := 1) (v := 1) (Or.inr ⟨dL_where_12, rfl, rfl⟩) dL_where_13 rfl dL_where_14 (by decide) (Nat.le_of_ble_eq_true rfl) (Nat.le_of_ble_eq_true rfl) (Nat.le_of_ble_eq_true rfl) ⟨by rw [h9, sq_31], _, rfl, fun q => absurd (h9.symm.trans q) (by decide)⟩

theorem cd_contact (W : rb_I) (cn : Nat → Nat) (n s : Int32) : (x7_contact W cn n s).1 = 0 ∨ (x7_contact W cn n s).1 = 1 := by
  unfold x7_contact
  (repeat' split) <;> first | exact Or.inl rfl | exact Or.inr (rfl)
set_option maxRecDepth 100000 in
set_option maxHeartbeats 4000000 in
theorem k_L_contact (l : Launch) (X : rb_X) (G : rb_G) (W : rb_I) (cn : Nat → Nat) (ag : Nat → Nat → Int32) (hG : xCS G cn ag) (n s : Int32) (hI : xCI W cn) (hJ : gN G (17, 0, 0) = 1) : rb_N l X yL_contact (.codeWith yL_contact cL_contact 5 (some .int) [(0, 10, 13, 13)]) 9 155 12 72 [rbR (0, 0, 0), rbI n, rbI s, rbR (17, 0, 0)] (wI G W) (fun v9 G9 => lq sq_3 (x7_contact W cn n s) G v9 G9) := by
  refine rb_startW RL rfl (by decide +kernel) rfl (Nat.le_of_ble_eq_true rfl) ?_
  intro Φ C E T
  show rb_W Φ 0 0 0 [some (rbR (0, 0, 0)), some (rbI n), some (rbI s), some (rbR (17, 0, 0)), none] [] (wI G W)
  refine rb_aload_n C dL_contact_0 rfl ?_
  refine rb_iconst C dL_contact_1 (v := 0) (by decide) ?_
  refine rb_aload_n C dL_contact_2 rfl ?_
  refine rb_iload_n C dL_contact_3 rfl ?_
  refine rb_iload_n C dL_contact_4 rfl ?_
  refine rb_callV C M_L_60 (fun l X => k_X7_contact l X G W cn ag hG n s hI) rfl (Nat.le_of_ble_eq_true rfl) rfl dL_contact_5 rfl rfl rfl (Nat.le_of_ble_eq_true rfl) ⟨(Nat.le_of_ble_eq_true rfl), (Nat.le_of_ble_eq_true rfl)⟩ (Nat.le_of_ble_eq_true rfl) (Nat.le_of_ble_eq_true rfl) (fun v G' hp => ?_) (fun E9 G' hp => ?_)
  · obtain ⟨hf0, hv, e9⟩ := hp
    subst hv
    rw [e9]
    clear e9 G'
    refine rb_i2l C dL_contact_8 ?_
    refine rb_last C dL_contact_9 rfl (vp_01 (hJ)) ?_
    refine rb_goto C 17 dL_contact_10 (by decide) ?_
    refine rb_iconst C dL_contact_17 (v := 0) (by decide) ?_
    exact rb_iret C E dL_contact_18 (Nat.le_of_ble_eq_true rfl) (Nat.le_of_ble_eq_true rfl) (⟨by rw [hf0, sq_30], _, rfl, fun _ => up2_s _ _ _ _⟩)
  · obtain ⟨hx, e9⟩ := hp
    rw [e9]
    clear e9 G'
    rcases cd_contact W cn n s with h9 | h9
    · exact absurd (hx.symm.trans h9) (xc_0 E9)
    · obtain rfl := xc_i1 (hx.symm.trans h9)
      exact rb_catch C T E [] ⟨0, 10, 13, 13⟩ [] rfl (fun z hz => by cases hz) (by decide) (by decide) L_L_13 (by decide +kernel) (i := 4) (pc1 := 15) (pc2 := 16) (n := 1) (v := 1) (Or.inl ⟨dL_contact_13, rfl⟩) dL_contact_15 rfl dL_contact_16 (by decide) (Nat.le_of_ble_eq_true rfl) (Nat.le_of_ble_eq_true rfl) (Nat.le_of_ble_eq_true rfl) ⟨by rw [h9, sq_31], _, rfl, fun q => absurd (h9.symm.trans q) (by decide)⟩

theorem cd_agrees (W : rb_I) (cn : Nat → Nat) (u : Int32) : (x7_agrees W cn u).1 = 0 ∨ (x7_agrees W cn u).1 = 1 := by
  unfold x7_agrees
  (repeat' split) <;> first | exact Or.inl rfl | exact Or.inr (rfl) | exact Or.inl (ag_1 _ _ _ _)
set_option maxRecDepth 100000 in
set_option maxHeartbeats 4000000 in
theorem k_L_agrees (l : Launch) (X : rb_X) (G : rb_G) (W : rb_I) (cn : Nat → Nat) (ag : Nat → Nat → Int32) (hG : xCS G cn ag) (u : Int32) (hI : xCI W cn) (hJ : gN G (17, 0, 0) = 1) : rb_N l X yL_agrees (.codeWith yL_agrees cL_agrees 4 (some .int) [(0, 16, 19, 13)]) 8 134 12 72 [rbR (0, 0, 0), rbI u, rbR (17, 0, 0)] (wI G W) (fun v9 G9 => lqz sq_3 (x7_agrees W cn u) G v9 G9) := by
  refine rb_startW RL rfl (by decide +kernel) rfl (Nat.le_of_ble_eq_true rfl) ?_
  intro Φ C E T
  show rb_W Φ 0 0 0 [some (rbR (0, 0, 0)), some (rbI u), some (rbR (17, 0, 0)), none] [] (wI G W)
  refine rb_aload_n C dL_agrees_0 rfl ?_
  refine rb_iconst C dL_agrees_1 (v := 0) (by decide) ?_
  refine rb_aload_n C dL_agrees_2 rfl ?_
  refine rb_iload_n C dL_agrees_3 rfl ?_
  refine rb_callV C M_L_63 (fun l X => k_X7_agrees l X G W cn ag hG u hI) rfl (Nat.le_of_ble_eq_true rfl) rfl dL_agrees_4 rfl rfl rfl (Nat.le_of_ble_eq_true rfl) ⟨(Nat.le_of_ble_eq_true rfl), (Nat.le_of_ble_eq_true rfl)⟩ (Nat.le_of_ble_eq_true rfl) (Nat.le_of_ble_eq_true rfl) (fun v G' hp => ?_) (fun E9 G' hp => ?_)
  · obtain ⟨hf0, hv, e9⟩ := hp
    subst hv
    rw [e9]
    clear e9 G'
    refine rb_if_eq C 14 dL_agrees_7 (by decide) (fun hz => ?_) (fun hz => ?_)
    · refine rb_lconst C dL_agrees_14 (v := 0) (by decide) ?_
      refine rb_last C dL_agrees_15 rfl (vp_01 (hJ)) ?_
      refine rb_goto C 22 dL_agrees_16 (by decide) ?_
      refine rb_iconst C dL_agrees_22 (v := 0) (by decide) ?_
      exact rb_iret C E dL_agrees_23 (Nat.le_of_ble_eq_true rfl) (Nat.le_of_ble_eq_true rfl) (⟨by rw [hf0, sq_30], _, rfl, fun _ => (up2_s _ _ _ _).trans (if_pos hz).symm⟩)
    · refine rb_lconst C dL_agrees_10 (v := 1) (by decide) ?_
      refine rb_goto C 15 dL_agrees_11 (by decide) ?_
      refine rb_last C dL_agrees_15 rfl (vp_01 (hJ)) ?_
      refine rb_goto C 22 dL_agrees_16 (by decide) ?_
      refine rb_iconst C dL_agrees_22 (v := 0) (by decide) ?_
      exact rb_iret C E dL_agrees_23 (Nat.le_of_ble_eq_true rfl) (Nat.le_of_ble_eq_true rfl) (⟨by rw [hf0, sq_30], _, rfl, fun _ => (up2_s _ _ _ _).trans (if_neg hz).symm⟩)
  · obtain ⟨hx, e9⟩ := hp
    rw [e9]
    clear e9 G'
    rcases cd_agrees W cn u with h9 | h9
    · exact absurd (hx.symm.trans h9) (xc_0 E9)
    · obtain rfl := xc_i1 (hx.symm.trans h9)
      exact rb_catch C T E [] ⟨0, 16, 19, 13⟩ [] rfl (fun z hz => by cases hz) (by decide) (by decide) L_L_13 (by decide +kernel) (i := 3) (pc1 := 20) (pc2 := 21) (n := 1) (v := 1) (Or.inr ⟨dL_agrees_19, rfl, rfl⟩) dL_agrees_20 rfl dL_agrees_21 (by decide) (Nat.le_of_ble_eq_true rfl) (Nat.le_of_ble_eq_true rfl) (Nat.le_of_ble_eq_true rfl) ⟨by rw [h9, sq_31], _, rfl, fun q => absurd (h9.symm.trans q) (by decide)⟩

theorem cd_subscriberIs (W : rb_I) (cn : Nat → Nat) (s what : Int32) : (x7_subscriberIs W cn s what).1 = 0 ∨ (x7_subscriberIs W cn s what).1 = 1 ∨ (x7_subscriberIs W cn s what).1 = 2 := by
  unfold x7_subscriberIs
  (repeat' split) <;> first | exact Or.inl rfl | exact Or.inr (Or.inl rfl) | exact Or.inr (Or.inr (rfl))
set_option maxRecDepth 100000 in
set_option maxHeartbeats 4000000 in
theorem k_L_subscriberIs (l : Launch) (X : rb_X) (G : rb_G) (W : rb_I) (cn : Nat → Nat) (ag : Nat → Nat → Int32) (hG : xCS G cn ag) (s what : Int32) (hI : xCI W cn) (hJ : gN G (17, 0, 0) = 1) : rb_N l X yL_subscriberIs (.codeWith yL_subscriberIs cL_subscriberIs 5 (some .int) [(0, 10, 13, 13), (0, 10, 17, 15)]) 8 134 12 72 [rbR (0, 0, 0), rbI s, rbI what, rbR (17, 0, 0)] (wI G W) (fun v9 G9 => lq sq_3 (x7_subscriberIs W cn s what) G v9 G9) := by
  refine rb_startW RL rfl (by decide +kernel) rfl (Nat.le_of_ble_eq_true rfl) ?_
  intro Φ C E T
  show rb_W Φ 0 0 0 [some (rbR (0, 0, 0)), some (rbI s), some (rbI what), some (rbR (17, 0, 0)), none] [] (wI G W)
  refine rb_aload_n C dL_subscriberIs_0 rfl ?_
  refine rb_iconst C dL_subscriberIs_1 (v := 0) (by decide) ?_
  refine rb_aload_n C dL_subscriberIs_2 rfl ?_
  refine rb_iload_n C dL_subscriberIs_3 rfl ?_
  refine rb_iload_n C dL_subscriberIs_4 rfl ?_
  refine rb_callV C M_L_67 (fun l X => k_X7_subscriberIs l X G W cn ag hG s what hI) rfl (Nat.le_of_ble_eq_true rfl) rfl dL_subscriberIs_5 rfl rfl rfl (Nat.le_of_ble_eq_true rfl) ⟨(Nat.le_of_ble_eq_true rfl), (Nat.le_of_ble_eq_true rfl)⟩ (Nat.le_of_ble_eq_true rfl) (Nat.le_of_ble_eq_true rfl) (fun v G' hp => ?_) (fun E9 G' hp => ?_)
  · obtain ⟨hf0, hv, e9⟩ := hp
    subst hv
    rw [e9]
    clear e9 G'
    refine rb_i2l C dL_subscriberIs_8 ?_
    refine rb_last C dL_subscriberIs_9 rfl (vp_01 (hJ)) ?_
    refine rb_goto C 21 dL_subscriberIs_10 (by decide) ?_
    refine rb_iconst C dL_subscriberIs_21 (v := 0) (by decide) ?_
    exact rb_iret C E dL_subscriberIs_22 (Nat.le_of_ble_eq_true rfl) (Nat.le_of_ble_eq_true rfl) (⟨by rw [hf0, sq_30], _, rfl, fun _ => up2_s _ _ _ _⟩)
  · obtain ⟨hx, e9⟩ := hp
    rw [e9]
    clear e9 G'
    rcases cd_subscriberIs W cn s what with h9 | h9 | h9
    · exact absurd (hx.symm.trans h9) (xc_0 E9)
    · obtain rfl := xc_i1 (hx.symm.trans h9)
      exact rb_catch C T E [] ⟨0, 10, 13, 13⟩ [⟨0, 10, 17, 15⟩] rfl (fun z hz => by cases hz) (by decide) (by decide) L_L_13 (by decide +kernel) (i := 4) (pc1 := 15) (pc2 := 16) (n := 1) (v := 1) (Or.inl ⟨dL_subscriberIs_13, rfl⟩) dL_subscriberIs_15 rfl dL_subscriberIs_16 (by decide) (Nat.le_of_ble_eq_true rfl) (Nat.le_of_ble_eq_true rfl) (Nat.le_of_ble_eq_true rfl) ⟨by rw [h9, sq_31], _, rfl, fun q => absurd (h9.symm.trans q) (by decide)⟩
    · obtain rfl := xc_i2 (hx.symm.trans h9)
      exact rb_catch C T E [⟨0, 10, 13, 13⟩] ⟨0, 10, 17, 15⟩ [] rfl (fun z hz => by
        simp only [List.mem_cons, List.not_mem_nil, or_false] at hz
        subst hz
        exact ⟨by decide, _, L_L_13, by decide +kernel⟩) (by decide) (by decide) L_L_15 (by decide +kernel) (i := 4) (pc1 := 19) (pc2 := 20) (n := 2) (v := 2) (Or.inl ⟨dL_subscriberIs_17, rfl⟩) dL_subscriberIs_19 rfl dL_subscriberIs_20 (by decide) (Nat.le_of_ble_eq_true rfl) (Nat.le_of_ble_eq_true rfl) (Nat.le_of_ble_eq_true rfl) ⟨by rw [h9, sq_32], _, rfl, fun q => absurd (h9.symm.trans q) (by decide)⟩

theorem cd_cap (W : rb_I) (cn : Nat → Nat) (s c co : Int32) : (x7_cap W cn s c co).1 = 0 ∨ (x7_cap W cn s c co).1 = 1 ∨ (x7_cap W cn s c co).1 = 2 := by
  unfold x7_cap
  (repeat' split) <;> first | exact Or.inl rfl | exact Or.inr (Or.inl rfl) | exact Or.inr (Or.inr (rfl))
set_option maxRecDepth 100000 in
set_option maxHeartbeats 4000000 in
theorem k_L_cap (l : Launch) (X : rb_X) (G : rb_G) (W : rb_I) (cn : Nat → Nat) (ag : Nat → Nat → Int32) (hG : xCS G cn ag) (s c co : Int32) (hI : xCI W cn) (hco : co = 0 ∨ co = 1) : rb_N l X yL_cap (.codeWith yL_cap cL_cap 5 (some .int) [(0, 7, 10, 13), (0, 7, 14, 15)]) 8 136 12 72 [rbR (0, 0, 0), rbI s, rbI c, rbI co] (wI G W) (fun v9 G9 => lqv sq_3 (x7_cap W cn s c co) G v9 G9) := by
  refine rb_startW RL rfl (by decide +kernel) rfl (Nat.le_of_ble_eq_true rfl) ?_
  intro Φ C E T
  show rb_W Φ 0 0 0 [some (rbR (0, 0, 0)), some (rbI s), some (rbI c), some (rbI co), none] [] (wI G W)
  refine rb_aload_n C dL_cap_0 rfl ?_
  refine rb_iload_n C dL_cap_1 rfl ?_
  refine rb_iload_n C dL_cap_2 rfl ?_
  refine rb_iload_n C dL_cap_3 rfl ?_
  refine rb_callV C M_L_70 (fun l X => k_X7_cap l X G W cn ag hG s c co hI hco) rfl (Nat.le_of_ble_eq_true rfl) rfl dL_cap_4 rfl rfl rfl (Nat.le_of_ble_eq_true rfl) ⟨(Nat.le_of_ble_eq_true rfl), (Nat.le_of_ble_eq_true rfl)⟩ (Nat.le_of_ble_eq_true rfl) (Nat.le_of_ble_eq_true rfl) (fun v G' hp => ?_) (fun E9 G' hp => ?_)
  · obtain ⟨hf0, hv, e9⟩ := hp
    subst hv
    rw [e9]
    clear e9 G'
    refine rb_goto C 18 dL_cap_7 (by decide) ?_
    refine rb_iconst C dL_cap_18 (v := 0) (by decide) ?_
    exact rb_iret C E dL_cap_19 (Nat.le_of_ble_eq_true rfl) (Nat.le_of_ble_eq_true rfl) (⟨by rw [hf0, sq_30], rfl⟩)
  · obtain ⟨hx, e9⟩ := hp
    rw [e9]
    clear e9 G'
    rcases cd_cap W cn s c co with h9 | h9 | h9
    · exact absurd (hx.symm.trans h9) (xc_0 E9)
    · obtain rfl := xc_i1 (hx.symm.trans h9)
      exact rb_catch C T E [] ⟨0, 7, 10, 13⟩ [⟨0, 7, 14, 15⟩] rfl (fun z hz => by cases hz) (by decide) (by decide) L_L_13 (by decide +kernel) (i := 4) (pc1 := 12) (pc2 := 13) (n := 1) (v := 1) (Or.inl ⟨dL_cap_10, rfl⟩) dL_cap_12 rfl dL_cap_13 (by decide) (Nat.le_of_ble_eq_true rfl) (Nat.le_of_ble_eq_true rfl) (Nat.le_of_ble_eq_true rfl) ⟨by rw [h9, sq_31], rfl⟩
    · obtain rfl := xc_i2 (hx.symm.trans h9)
      exact rb_catch C T E [⟨0, 7, 10, 13⟩] ⟨0, 7, 14, 15⟩ [] rfl (fun z hz => by
        simp only [List.mem_cons, List.not_mem_nil, or_false] at hz
        subst hz
        exact ⟨by decide, _, L_L_13, by decide +kernel⟩) (by decide) (by decide) L_L_15 (by decide +kernel) (i := 4) (pc1 := 16) (pc2 := 17) (n := 2) (v := 2) (Or.inl ⟨dL_cap_14, rfl⟩) dL_cap_16 rfl dL_cap_17 (by decide) (Nat.le_of_ble_eq_true rfl) (Nat.le_of_ble_eq_true rfl) (Nat.le_of_ble_eq_true rfl) ⟨by rw [h9, sq_32], rfl⟩

theorem cd_call (W : rb_I) (cn : Nat → Nat) (s o sec : Int32) : (x7_call W cn s o sec).1 = 0 ∨ (x7_call W cn s o sec).1 = 1 ∨ (x7_call W cn s o sec).1 = 2 ∨ (x7_call W cn s o sec).1 = 3 := by
  unfold x7_call
  (repeat' split) <;> first | exact Or.inl rfl | exact Or.inr (Or.inl rfl) | exact Or.inr (Or.inr (Or.inl rfl)) | exact Or.inr (Or.inr (Or.inr (rfl)))
set_option maxRecDepth 100000 in
set_option maxHeartbeats 4000000 in
theorem k_L_call (l : Launch) (X : rb_X) (G : rb_G) (W : rb_I) (cn : Nat → Nat) (ag : Nat → Nat → Int32) (hG : xCS G cn ag) (s o sec : Int32) (hI : xCI W cn) (hm : MS G) (hr : cn 2 < 200 → ∀ k, k < 36 → cn (10 + k) ≤ 398) (hJ : gN G (17, 0, 0) = 1) : rb_N l X yL_call (.codeWith yL_call cL_call 6 (some .int) [(0, 12, 15, 13), (0, 12, 19, 15), (0, 12, 23, 25)]) 9 208 12 2200 [rbR (0, 0, 0), rbI s, rbI o, rbI sec, rbR (17, 0, 0)] (wI G W) (fun v9 G9 => v9 = some (rbI (sq_3 (x7_call W cn s o sec).1)) ∧ (((x7_call W cn s o sec).1 ≠ 0 ∧ G9 = wI G (x7_call W cn s o sec).2.2) ∨ ((x7_call W cn s o sec).1 = 0 ∧ ∃ J, J (17, 0, 0) 0 = Int32.toInt64 (x7_call W cn s o sec).2.1 ∧ ((¬ (x7_call W cn s o sec).2.1 = 0 ∧ G9 = wI (wJ G J) W) ∨ ((x7_call W cn s o sec).2.1 = 0 ∧ ∃ W1 W2 G3 W3, G9 = wI (wJ G3 J) W3 ∧ xq W1 (x7_call W cn s o sec).2.2 ∧ xq W2 (x7_settle W1 (bump cn 2) s.toNatClampNeg (((sec + 59) / 60) * (x7_priceOfCalling W s.toNatClampNeg)) ((sec + 59) / 60)) ∧ xq W3 (x7_settle W2 (x7_scn W1 (bump cn 2) s.toNatClampNeg (((sec + 59) / 60) * (x7_priceOfCalling W s.toNatClampNeg))) o.toNatClampNeg (((sec + 59) / 60) * (x7_priceOfBeingCalled W o.toNatClampNeg)) ((sec + 59) / 60)) ∧ MK G G3 ∧ xCS G3 (x7_scn W2 (x7_scn W1 (bump cn 2) s.toNatClampNeg (((sec + 59) / 60) * (x7_priceOfCalling W s.toNatClampNeg))) o.toNatClampNeg (((sec + 59) / 60) * (x7_priceOfBeingCalled W o.toNatClampNeg))) (x7_sag W2 (x7_scn W1 (bump cn 2) s.toNatClampNeg (((sec + 59) / 60) * (x7_priceOfCalling W s.toNatClampNeg))) (x7_sag W1 (bump cn 2) ag s.toNatClampNeg (((sec + 59) / 60) * (x7_priceOfCalling W s.toNatClampNeg))) o.toNatClampNeg (((sec + 59) / 60) * (x7_priceOfBeingCalled W o.toNatClampNeg)))))))) := by
  refine rb_startW RL rfl (by decide +kernel) rfl (Nat.le_of_ble_eq_true rfl) ?_
  intro Φ C E T
  show rb_W Φ 0 0 0 [some (rbR (0, 0, 0)), some (rbI s), some (rbI o), some (rbI sec), some (rbR (17, 0, 0)), none] [] (wI G W)
  refine rb_aload C dL_call_0 rfl ?_
  refine rb_iconst C dL_call_2 (v := 0) (by decide) ?_
  refine rb_aload_n C dL_call_3 rfl ?_
  refine rb_iload_n C dL_call_4 rfl ?_
  refine rb_iload_n C dL_call_5 rfl ?_
  refine rb_iload_n C dL_call_6 rfl ?_
  refine rb_callV C M_L_74 (fun l X => k_X7_call l X G W cn ag hG s o sec hI hm hr) rfl (Nat.le_of_ble_eq_true rfl) rfl dL_call_7 rfl rfl rfl (Nat.le_of_ble_eq_true rfl) ⟨(Nat.le_of_ble_eq_true rfl), (Nat.le_of_ble_eq_true rfl)⟩ (Nat.le_of_ble_eq_true rfl) (Nat.le_of_ble_eq_true rfl) (fun v G' hp => ?_) (fun E9 G' hp => ?_)
  · obtain ⟨hf0, hv, hp⟩ := hp
    subst hv
    rcases hp with ⟨hn, e9⟩ | ⟨hn, W1, W2, G3, W3, e9, q1, q2, q3, hK, hC3⟩
    · rw [e9]
      clear e9 G'
      refine rb_i2l C dL_call_10 ?_
      refine rb_last C dL_call_11 rfl (vp_01 (hJ)) ?_
      refine rb_goto C 27 dL_call_12 (by decide) ?_
      refine rb_iconst C dL_call_27 (v := 0) (by decide) ?_
      exact rb_iret C E dL_call_28 (Nat.le_of_ble_eq_true rfl) (Nat.le_of_ble_eq_true rfl) (⟨by rw [hf0, sq_30], Or.inr ⟨hf0, _, up2_s _ _ _ _, Or.inl ⟨hn, rfl⟩⟩⟩)
    · rw [e9]
      clear e9 G'
      refine rb_i2l C dL_call_10 ?_
      refine rb_last C dL_call_11 rfl (vp_01 (hK.2.trans hJ)) ?_
      refine rb_goto C 27 dL_call_12 (by decide) ?_
      refine rb_iconst C dL_call_27 (v := 0) (by decide) ?_
      exact rb_iret C E dL_call_28 (Nat.le_of_ble_eq_true rfl) (Nat.le_of_ble_eq_true rfl) (⟨by rw [hf0, sq_30], Or.inr ⟨hf0, _, up2_s _ _ _ _, Or.inr ⟨hn, W1, W2, G3, W3, rfl, q1, q2, q3, hK, hC3⟩⟩⟩)
  · obtain ⟨hx, e9⟩ := hp
    rw [e9]
    clear e9 G'
    rcases cd_call W cn s o sec with h9 | h9 | h9 | h9
    · exact absurd (hx.symm.trans h9) (xc_0 E9)
    · obtain rfl := xc_i1 (hx.symm.trans h9)
      exact rb_catch C T E [] ⟨0, 12, 15, 13⟩ [⟨0, 12, 19, 15⟩, ⟨0, 12, 23, 25⟩] rfl (fun z hz => by cases hz) (by decide) (by decide) L_L_13 (by decide +kernel) (i := 5) (pc1 := 17) (pc2 := 18) (n := 1) (v := 1) (Or.inl ⟨dL_call_15, rfl⟩) dL_call_17 rfl dL_call_18 (by decide) (Nat.le_of_ble_eq_true rfl) (Nat.le_of_ble_eq_true rfl) (Nat.le_of_ble_eq_true rfl) ⟨by rw [h9, sq_31], Or.inl ⟨fun q => absurd (h9.symm.trans q) (by decide), rfl⟩⟩
    · obtain rfl := xc_i2 (hx.symm.trans h9)
      exact rb_catch C T E [⟨0, 12, 15, 13⟩] ⟨0, 12, 19, 15⟩ [⟨0, 12, 23, 25⟩] rfl (fun z hz => by
        simp only [List.mem_cons, List.not_mem_nil, or_false] at hz
        subst hz
        exact ⟨by decide, _, L_L_13, by decide +kernel⟩) (by decide) (by decide) L_L_15 (by decide +kernel) (i := 5) (pc1 := 21) (pc2 := 22) (n := 2) (v := 2) (Or.inl ⟨dL_call_19, rfl⟩) dL_call_21 rfl dL_call_22 (by decide) (Nat.le_of_ble_eq_true rfl) (Nat.le_of_ble_eq_true rfl) (Nat.le_of_ble_eq_true rfl) ⟨by rw [h9, sq_32], Or.inl ⟨fun q => absurd (h9.symm.trans q) (by decide), rfl⟩⟩
    · obtain rfl := xc_i3 (hx.symm.trans h9)
      exact rb_catch C T E [⟨0, 12, 15, 13⟩, ⟨0, 12, 19, 15⟩] ⟨0, 12, 23, 25⟩ [] rfl (fun z hz => by
        simp only [List.mem_cons, List.not_mem_nil, or_false] at hz
        rcases hz with hz | hz
        · subst hz
          exact ⟨by decide, _, L_L_13, by decide +kernel⟩
        · subst hz
          exact ⟨by decide, _, L_L_15, by decide +kernel⟩) (by decide) (by decide) L_L_25 (by decide +kernel) (i := 5) (pc1 := 25) (pc2 := 26) (n := 3) (v := 3) (Or.inl ⟨dL_call_23, rfl⟩) dL_call_25 rfl dL_call_26 (by decide) (Nat.le_of_ble_eq_true rfl) (Nat.le_of_ble_eq_true rfl) (Nat.le_of_ble_eq_true rfl) ⟨by rw [h9, sq_33], Or.inl ⟨fun q => absurd (h9.symm.trans q) (by decide), rfl⟩⟩

theorem cd_paidAnew (W : rb_I) (cn : Nat → Nat) (u : Int32) : (x7_paidAnew W cn u).1 = 0 ∨ (x7_paidAnew W cn u).1 = 1 := by
  unfold x7_paidAnew
  (repeat' split) <;> first | exact Or.inl rfl | exact Or.inr (rfl)
set_option maxRecDepth 100000 in
set_option maxHeartbeats 4000000 in
theorem k_L_paidAnew (l : Launch) (X : rb_X) (G : rb_G) (W : rb_I) (cn : Nat → Nat) (ag : Nat → Nat → Int32) (hG : xCS G cn ag) (u : Int32) (hI : xCI W cn) (hJ : gN G (17, 0, 0) = 1) : rb_N l X yL_paidAnew (.codeWith yL_paidAnew cL_paidAnew 4 (some .int) [(0, 9, 12, 13)]) 8 135 12 72 [rbR (0, 0, 0), rbI u, rbR (17, 0, 0)] (wI G W) (fun v9 G9 => lq sq_3 (x7_paidAnew W cn u) G v9 G9) := by
  refine rb_startW RL rfl (by decide +kernel) rfl (Nat.le_of_ble_eq_true rfl) ?_
  intro Φ C E T
  show rb_W Φ 0 0 0 [some (rbR (0, 0, 0)), some (rbI u), some (rbR (17, 0, 0)), none] [] (wI G W)
  refine rb_aload_n C dL_paidAnew_0 rfl ?_
  refine rb_iconst C dL_paidAnew_1 (v := 0) (by decide) ?_
  refine rb_aload_n C dL_paidAnew_2 rfl ?_
  refine rb_iload_n C dL_paidAnew_3 rfl ?_
  refine rb_callV C M_L_77 (fun l X => k_X7_paidAnew l X G W cn ag hG u hI) rfl (Nat.le_of_ble_eq_true rfl) rfl dL_paidAnew_4 rfl rfl rfl (Nat.le_of_ble_eq_true rfl) ⟨(Nat.le_of_ble_eq_true rfl), (Nat.le_of_ble_eq_true rfl)⟩ (Nat.le_of_ble_eq_true rfl) (Nat.le_of_ble_eq_true rfl) (fun v G' hp => ?_) (fun E9 G' hp => ?_)
  · obtain ⟨hf0, hv, e9⟩ := hp
    subst hv
    rw [e9]
    clear e9 G'
    refine rb_i2l C dL_paidAnew_7 ?_
    refine rb_last C dL_paidAnew_8 rfl (vp_01 (hJ)) ?_
    refine rb_goto C 15 dL_paidAnew_9 (by decide) ?_
    refine rb_iconst C dL_paidAnew_15 (v := 0) (by decide) ?_
    exact rb_iret C E dL_paidAnew_16 (Nat.le_of_ble_eq_true rfl) (Nat.le_of_ble_eq_true rfl) (⟨by rw [hf0, sq_30], _, rfl, fun _ => up2_s _ _ _ _⟩)
  · obtain ⟨hx, e9⟩ := hp
    rw [e9]
    clear e9 G'
    rcases cd_paidAnew W cn u with h9 | h9
    · exact absurd (hx.symm.trans h9) (xc_0 E9)
    · obtain rfl := xc_i1 (hx.symm.trans h9)
      exact rb_catch C T E [] ⟨0, 9, 12, 13⟩ [] rfl (fun z hz => by cases hz) (by decide) (by decide) L_L_13 (by decide +kernel) (i := 3) (pc1 := 13) (pc2 := 14) (n := 1) (v := 1) (Or.inr ⟨dL_paidAnew_12, rfl, rfl⟩) dL_paidAnew_13 rfl dL_paidAnew_14 (by decide) (Nat.le_of_ble_eq_true rfl) (Nat.le_of_ble_eq_true rfl) (Nat.le_of_ble_eq_true rfl) ⟨by rw [h9, sq_31], _, rfl, fun q => absurd (h9.symm.trans q) (by decide)⟩

theorem cd_file (W : rb_I) (cn : Nat → Nat) (vi ho : Int32) : (x7_file W cn vi ho).1 = 0 ∨ (x7_file W cn vi ho).1 = 1 ∨ (x7_file W cn vi ho).1 = 3 := by
  unfold x7_file
  (repeat' split) <;> first | exact Or.inl rfl | exact Or.inr (Or.inl rfl) | exact Or.inr (Or.inr (rfl))
set_option maxRecDepth 100000 in
set_option maxHeartbeats 4000000 in
theorem k_L_file (l : Launch) (X : rb_X) (G : rb_G) (W : rb_I) (cn : Nat → Nat) (ag : Nat → Nat → Int32) (hG : xCS G cn ag) (vi ho : Int32) (hI : xCI W cn) (hJ : gN G (17, 0, 0) = 1) : rb_N l X yL_file (.codeWith yL_file cL_file 5 (some .int) [(0, 10, 13, 13), (0, 10, 17, 25)]) 9 156 12 72 [rbR (0, 0, 0), rbI vi, rbI ho, rbR (17, 0, 0)] (wI G W) (fun v9 G9 => lq sq_2 (x7_file W cn vi ho) G v9 G9) := by
  refine rb_startW RL rfl (by decide +kernel) rfl (Nat.le_of_ble_eq_true rfl) ?_
  intro Φ C E T
  show rb_W Φ 0 0 0 [some (rbR (0, 0, 0)), some (rbI vi), some (rbI ho), some (rbR (17, 0, 0)), none] [] (wI G W)
  refine rb_aload_n C dL_file_0 rfl ?_
  refine rb_iconst C dL_file_1 (v := 0) (by decide) ?_
  refine rb_aload_n C dL_file_2 rfl ?_
  refine rb_iload_n C dL_file_3 rfl ?_
  refine rb_iload_n C dL_file_4 rfl ?_
  refine rb_callV C M_L_80 (fun l X => k_X7_file l X G W cn ag hG vi ho hI) rfl (Nat.le_of_ble_eq_true rfl) rfl dL_file_5 rfl rfl rfl (Nat.le_of_ble_eq_true rfl) ⟨(Nat.le_of_ble_eq_true rfl), (Nat.le_of_ble_eq_true rfl)⟩ (Nat.le_of_ble_eq_true rfl) (Nat.le_of_ble_eq_true rfl) (fun v G' hp => ?_) (fun E9 G' hp => ?_)
  · obtain ⟨hf0, hv, e9⟩ := hp
    subst hv
    rw [e9]
    clear e9 G'
    refine rb_i2l C dL_file_8 ?_
    refine rb_last C dL_file_9 rfl (vp_01 (hJ)) ?_
    refine rb_goto C 21 dL_file_10 (by decide) ?_
    refine rb_iconst C dL_file_21 (v := 0) (by decide) ?_
    exact rb_iret C E dL_file_22 (Nat.le_of_ble_eq_true rfl) (Nat.le_of_ble_eq_true rfl) (⟨by rw [hf0, sq_20], _, rfl, fun _ => up2_s _ _ _ _⟩)
  · obtain ⟨hx, e9⟩ := hp
    rw [e9]
    clear e9 G'
    rcases cd_file W cn vi ho with h9 | h9 | h9
    · exact absurd (hx.symm.trans h9) (xc_0 E9)
    · obtain rfl := xc_i1 (hx.symm.trans h9)
      exact rb_catch C T E [] ⟨0, 10, 13, 13⟩ [⟨0, 10, 17, 25⟩] rfl (fun z hz => by cases hz) (by decide) (by decide) L_L_13 (by decide +kernel) (i := 4) (pc1 := 15) (pc2 := 16) (n := 1) (v := 1) (Or.inl ⟨dL_file_13, rfl⟩) dL_file_15 rfl dL_file_16 (by decide) (Nat.le_of_ble_eq_true rfl) (Nat.le_of_ble_eq_true rfl) (Nat.le_of_ble_eq_true rfl) ⟨by rw [h9, sq_21], _, rfl, fun q => absurd (h9.symm.trans q) (by decide)⟩
    · obtain rfl := xc_i3 (hx.symm.trans h9)
      exact rb_catch C T E [⟨0, 10, 13, 13⟩] ⟨0, 10, 17, 25⟩ [] rfl (fun z hz => by
        simp only [List.mem_cons, List.not_mem_nil, or_false] at hz
        subst hz
        exact ⟨by decide, _, L_L_13, by decide +kernel⟩) (by decide) (by decide) L_L_25 (by decide +kernel) (i := 4) (pc1 := 19) (pc2 := 20) (n := 2) (v := 2) (Or.inl ⟨dL_file_17, rfl⟩) dL_file_19 rfl dL_file_20 (by decide) (Nat.le_of_ble_eq_true rfl) (Nat.le_of_ble_eq_true rfl) (Nat.le_of_ble_eq_true rfl) ⟨by rw [h9, sq_23], _, rfl, fun q => absurd (h9.symm.trans q) (by decide)⟩

theorem cd_deliver (W : rb_I) (cn : Nat → Nat) (vi ho fl : Int32) : (x7_deliver W cn vi ho fl).1 = 0 ∨ (x7_deliver W cn vi ho fl).1 = 1 := by
  unfold x7_deliver
  (repeat' split) <;> first | exact Or.inl rfl | exact Or.inr (rfl)
set_option maxRecDepth 100000 in
set_option maxHeartbeats 4000000 in
theorem k_L_deliver (l : Launch) (X : rb_X) (G : rb_G) (W : rb_I) (cn : Nat → Nat) (ag : Nat → Nat → Int32) (hG : xCS G cn ag) (vi ho fl : Int32) (hI : xCI W cn) (hJ : gN G (17, 0, 0) = 1) : rb_N l X yL_deliver (.codeWith yL_deliver cL_deliver 6 (some .int) [(0, 12, 15, 13)]) 9 157 12 72 [rbR (0, 0, 0), rbI vi, rbI ho, rbI fl, rbR (17, 0, 0)] (wI G W) (fun v9 G9 => lq sq_3 (x7_deliver W cn vi ho fl) G v9 G9) := by
  refine rb_startW RL rfl (by decide +kernel) rfl (Nat.le_of_ble_eq_true rfl) ?_
  intro Φ C E T
  show rb_W Φ 0 0 0 [some (rbR (0, 0, 0)), some (rbI vi), some (rbI ho), some (rbI fl), some (rbR (17, 0, 0)), none] [] (wI G W)
  refine rb_aload C dL_deliver_0 rfl ?_
  refine rb_iconst C dL_deliver_2 (v := 0) (by decide) ?_
  refine rb_aload_n C dL_deliver_3 rfl ?_
  refine rb_iload_n C dL_deliver_4 rfl ?_
  refine rb_iload_n C dL_deliver_5 rfl ?_
  refine rb_iload_n C dL_deliver_6 rfl ?_
  refine rb_callV C M_L_83 (fun l X => k_X7_deliver l X G W cn ag hG vi ho fl hI) rfl (Nat.le_of_ble_eq_true rfl) rfl dL_deliver_7 rfl rfl rfl (Nat.le_of_ble_eq_true rfl) ⟨(Nat.le_of_ble_eq_true rfl), (Nat.le_of_ble_eq_true rfl)⟩ (Nat.le_of_ble_eq_true rfl) (Nat.le_of_ble_eq_true rfl) (fun v G' hp => ?_) (fun E9 G' hp => ?_)
  · obtain ⟨hf0, hv, e9⟩ := hp
    subst hv
    rw [e9]
    clear e9 G'
    refine rb_i2l C dL_deliver_10 ?_
    refine rb_last C dL_deliver_11 rfl (vp_01 (hJ)) ?_
    refine rb_goto C 19 dL_deliver_12 (by decide) ?_
    refine rb_iconst C dL_deliver_19 (v := 0) (by decide) ?_
    exact rb_iret C E dL_deliver_20 (Nat.le_of_ble_eq_true rfl) (Nat.le_of_ble_eq_true rfl) (⟨by rw [hf0, sq_30], _, rfl, fun _ => up2_s _ _ _ _⟩)
  · obtain ⟨hx, e9⟩ := hp
    rw [e9]
    clear e9 G'
    rcases cd_deliver W cn vi ho fl with h9 | h9
    · exact absurd (hx.symm.trans h9) (xc_0 E9)
    · obtain rfl := xc_i1 (hx.symm.trans h9)
      exact rb_catch C T E [] ⟨0, 12, 15, 13⟩ [] rfl (fun z hz => by cases hz) (by decide) (by decide) L_L_13 (by decide +kernel) (i := 5) (pc1 := 17) (pc2 := 18) (n := 1) (v := 1) (Or.inl ⟨dL_deliver_15, rfl⟩) dL_deliver_17 rfl dL_deliver_18 (by decide) (Nat.le_of_ble_eq_true rfl) (Nat.le_of_ble_eq_true rfl) (Nat.le_of_ble_eq_true rfl) ⟨by rw [h9, sq_31], _, rfl, fun q => absurd (h9.symm.trans q) (by decide)⟩

theorem cd_owes (W : rb_I) (cn : Nat → Nat) (ag : Nat → Nat → Int32) (ho vi : Int32) : (x7_owes W cn ag ho vi).1 = 0 ∨ (x7_owes W cn ag ho vi).1 = 1 := by
  unfold x7_owes
  (repeat' split) <;> first | exact Or.inl rfl | exact Or.inr (rfl)
set_option maxRecDepth 100000 in
set_option maxHeartbeats 4000000 in
theorem k_L_owes (l : Launch) (X : rb_X) (G : rb_G) (W : rb_I) (cn : Nat → Nat) (ag : Nat → Nat → Int32) (hG : xCS G cn ag) (ho vi : Int32) (hI : xCI W cn) (hJ : gN G (17, 0, 0) = 1) : rb_N l X yL_owes (.codeWith yL_owes cL_owes 5 (some .int) [(0, 10, 13, 13)]) 9 155 12 72 [rbR (0, 0, 0), rbI ho, rbI vi, rbR (17, 0, 0)] (wI G W) (fun v9 G9 => lq sq_3 (x7_owes W cn ag ho vi) G v9 G9) := by
  refine rb_startW RL rfl (by decide +kernel) rfl (Nat.le_of_ble_eq_true rfl) ?_
  intro Φ C E T
  show rb_W Φ 0 0 0 [some (rbR (0, 0, 0)), some (rbI ho), some (rbI vi), some (rbR (17, 0, 0)), none] [] (wI G W)
  refine rb_aload_n C dL_owes_0 rfl ?_
  refine rb_iconst C dL_owes_1 (v := 0) (by decide) ?_
  refine rb_aload_n C dL_owes_2 rfl ?_
  refine rb_iload_n C dL_owes_3 rfl ?_
  refine rb_iload_n C dL_owes_4 rfl ?_
  refine rb_callV C M_L_86 (fun l X => k_X7_owes l X G W cn ag hG ho vi hI) rfl (Nat.le_of_ble_eq_true rfl) rfl dL_owes_5 rfl rfl rfl (Nat.le_of_ble_eq_true rfl) ⟨(Nat.le_of_ble_eq_true rfl), (Nat.le_of_ble_eq_true rfl)⟩ (Nat.le_of_ble_eq_true rfl) (Nat.le_of_ble_eq_true rfl) (fun v G' hp => ?_) (fun E9 G' hp => ?_)
  · obtain ⟨hf0, hv, e9⟩ := hp
    subst hv
    rw [e9]
    clear e9 G'
    refine rb_i2l C dL_owes_8 ?_
    refine rb_last C dL_owes_9 rfl (vp_01 (hJ)) ?_
    refine rb_goto C 17 dL_owes_10 (by decide) ?_
    refine rb_iconst C dL_owes_17 (v := 0) (by decide) ?_
    exact rb_iret C E dL_owes_18 (Nat.le_of_ble_eq_true rfl) (Nat.le_of_ble_eq_true rfl) (⟨by rw [hf0, sq_30], _, rfl, fun _ => up2_s _ _ _ _⟩)
  · obtain ⟨hx, e9⟩ := hp
    rw [e9]
    clear e9 G'
    rcases cd_owes W cn ag ho vi with h9 | h9
    · exact absurd (hx.symm.trans h9) (xc_0 E9)
    · obtain rfl := xc_i1 (hx.symm.trans h9)
      exact rb_catch C T E [] ⟨0, 10, 13, 13⟩ [] rfl (fun z hz => by cases hz) (by decide) (by decide) L_L_13 (by decide +kernel) (i := 4) (pc1 := 15) (pc2 := 16) (n := 1) (v := 1) (Or.inl ⟨dL_owes_13, rfl⟩) dL_owes_15 rfl dL_owes_16 (by decide) (Nat.le_of_ble_eq_true rfl) (Nat.le_of_ble_eq_true rfl) (Nat.le_of_ble_eq_true rfl) ⟨by rw [h9, sq_31], _, rfl, fun q => absurd (h9.symm.trans q) (by decide)⟩

theorem cd_owesAnew (W : rb_I) (cn : Nat → Nat) (ag : Nat → Nat → Int32) (ho vi : Int32) : (x7_owesAnew W cn ag ho vi).1 = 0 ∨ (x7_owesAnew W cn ag ho vi).1 = 1 := by
  unfold x7_owesAnew
  (repeat' split) <;> first | exact Or.inl rfl | exact Or.inr (rfl)
set_option maxRecDepth 100000 in
set_option maxHeartbeats 4000000 in
theorem k_L_owesAnew (l : Launch) (X : rb_X) (G : rb_G) (W : rb_I) (cn : Nat → Nat) (ag : Nat → Nat → Int32) (hG : xCS G cn ag) (ho vi : Int32) (hI : xCI W cn) (hT : ∀ k, vp_in (W (8, k, 0) 2) 100) (hJ : gN G (17, 0, 0) = 1) : rb_N l X yL_owesAnew (.codeWith yL_owesAnew cL_owesAnew 5 (some .int) [(0, 10, 13, 13)]) 9 155 12 72 [rbR (0, 0, 0), rbI ho, rbI vi, rbR (17, 0, 0)] (wI G W) (fun v9 G9 => lq sq_3 (x7_owesAnew W cn ag ho vi) G v9 G9) := by
  refine rb_startW RL rfl (by decide +kernel) rfl (Nat.le_of_ble_eq_true rfl) ?_
  intro Φ C E T
  show rb_W Φ 0 0 0 [some (rbR (0, 0, 0)), some (rbI ho), some (rbI vi), some (rbR (17, 0, 0)), none] [] (wI G W)
  refine rb_aload_n C dL_owesAnew_0 rfl ?_
  refine rb_iconst C dL_owesAnew_1 (v := 0) (by decide) ?_
  refine rb_aload_n C dL_owesAnew_2 rfl ?_
  refine rb_iload_n C dL_owesAnew_3 rfl ?_
  refine rb_iload_n C dL_owesAnew_4 rfl ?_
  refine rb_callV C M_L_89 (fun l X => k_X7_owesAnew l X G W cn ag hG ho vi hI hT) rfl (Nat.le_of_ble_eq_true rfl) rfl dL_owesAnew_5 rfl rfl rfl (Nat.le_of_ble_eq_true rfl) ⟨(Nat.le_of_ble_eq_true rfl), (Nat.le_of_ble_eq_true rfl)⟩ (Nat.le_of_ble_eq_true rfl) (Nat.le_of_ble_eq_true rfl) (fun v G' hp => ?_) (fun E9 G' hp => ?_)
  · obtain ⟨hf0, hv, e9⟩ := hp
    subst hv
    rw [e9]
    clear e9 G'
    refine rb_i2l C dL_owesAnew_8 ?_
    refine rb_last C dL_owesAnew_9 rfl (vp_01 (hJ)) ?_
    refine rb_goto C 17 dL_owesAnew_10 (by decide) ?_
    refine rb_iconst C dL_owesAnew_17 (v := 0) (by decide) ?_
    exact rb_iret C E dL_owesAnew_18 (Nat.le_of_ble_eq_true rfl) (Nat.le_of_ble_eq_true rfl) (⟨by rw [hf0, sq_30], _, rfl, fun _ => up2_s _ _ _ _⟩)
  · obtain ⟨hx, e9⟩ := hp
    rw [e9]
    clear e9 G'
    rcases cd_owesAnew W cn ag ho vi with h9 | h9
    · exact absurd (hx.symm.trans h9) (xc_0 E9)
    · obtain rfl := xc_i1 (hx.symm.trans h9)
      exact rb_catch C T E [] ⟨0, 10, 13, 13⟩ [] rfl (fun z hz => by cases hz) (by decide) (by decide) L_L_13 (by decide +kernel) (i := 4) (pc1 := 15) (pc2 := 16) (n := 1) (v := 1) (Or.inl ⟨dL_owesAnew_13, rfl⟩) dL_owesAnew_15 rfl dL_owesAnew_16 (by decide) (Nat.le_of_ble_eq_true rfl) (Nat.le_of_ble_eq_true rfl) (Nat.le_of_ble_eq_true rfl) ⟨by rw [h9, sq_31], _, rfl, fun q => absurd (h9.symm.trans q) (by decide)⟩

theorem cd_recorded (W : rb_I) (cn : Nat → Nat) (vi ho what : Int32) : (x7_recorded W cn vi ho what).1 = 0 ∨ (x7_recorded W cn vi ho what).1 = 1 ∨ (x7_recorded W cn vi ho what).1 = 2 := by
  unfold x7_recorded
  (repeat' split) <;> first | exact Or.inl rfl | exact Or.inr (Or.inl rfl) | exact Or.inr (Or.inr (rfl))
set_option maxRecDepth 100000 in
set_option maxHeartbeats 4000000 in
theorem k_L_recorded (l : Launch) (X : rb_X) (G : rb_G) (W : rb_I) (cn : Nat → Nat) (ag : Nat → Nat → Int32) (hG : xCS G cn ag) (vi ho what : Int32) (hI : xCI W cn) (hJ : gN G (17, 0, 0) = 1) : rb_N l X yL_recorded (.codeWith yL_recorded cL_recorded 6 (some .int) [(0, 12, 15, 13), (0, 12, 19, 15)]) 9 157 12 72 [rbR (0, 0, 0), rbI vi, rbI ho, rbI what, rbR (17, 0, 0)] (wI G W) (fun v9 G9 => lq sq_3 (x7_recorded W cn vi ho what) G v9 G9) := by
  refine rb_startW RL rfl (by decide +kernel) rfl (Nat.le_of_ble_eq_true rfl) ?_
  intro Φ C E T
  show rb_W Φ 0 0 0 [some (rbR (0, 0, 0)), some (rbI vi), some (rbI ho), some (rbI what), some (rbR (17, 0, 0)), none] [] (wI G W)
  refine rb_aload C dL_recorded_0 rfl ?_
  refine rb_iconst C dL_recorded_2 (v := 0) (by decide) ?_
  refine rb_aload_n C dL_recorded_3 rfl ?_
  refine rb_iload_n C dL_recorded_4 rfl ?_
  refine rb_iload_n C dL_recorded_5 rfl ?_
  refine rb_iload_n C dL_recorded_6 rfl ?_
  refine rb_callV C M_L_92 (fun l X => k_X7_recorded l X G W cn ag hG vi ho what hI) rfl (Nat.le_of_ble_eq_true rfl) rfl dL_recorded_7 rfl rfl rfl (Nat.le_of_ble_eq_true rfl) ⟨(Nat.le_of_ble_eq_true rfl), (Nat.le_of_ble_eq_true rfl)⟩ (Nat.le_of_ble_eq_true rfl) (Nat.le_of_ble_eq_true rfl) (fun v G' hp => ?_) (fun E9 G' hp => ?_)
  · obtain ⟨hf0, hv, e9⟩ := hp
    subst hv
    rw [e9]
    clear e9 G'
    refine rb_i2l C dL_recorded_10 ?_
    refine rb_last C dL_recorded_11 rfl (vp_01 (hJ)) ?_
    refine rb_goto C 23 dL_recorded_12 (by decide) ?_
    refine rb_iconst C dL_recorded_23 (v := 0) (by decide) ?_
    exact rb_iret C E dL_recorded_24 (Nat.le_of_ble_eq_true rfl) (Nat.le_of_ble_eq_true rfl) (⟨by rw [hf0, sq_30], _, rfl, fun _ => up2_s _ _ _ _⟩)
  · obtain ⟨hx, e9⟩ := hp
    rw [e9]
    clear e9 G'
    rcases cd_recorded W cn vi ho what with h9 | h9 | h9
    · exact absurd (hx.symm.trans h9) (xc_0 E9)
    · obtain rfl := xc_i1 (hx.symm.trans h9)
      exact rb_catch C T E [] ⟨0, 12, 15, 13⟩ [⟨0, 12, 19, 15⟩] rfl (fun z hz => by cases hz) (by decide) (by decide) L_L_13 (by decide +kernel) (i := 5) (pc1 := 17) (pc2 := 18) (n := 1) (v := 1) (Or.inl ⟨dL_recorded_15, rfl⟩) dL_recorded_17 rfl dL_recorded_18 (by decide) (Nat.le_of_ble_eq_true rfl) (Nat.le_of_ble_eq_true rfl) (Nat.le_of_ble_eq_true rfl) ⟨by rw [h9, sq_31], _, rfl, fun q => absurd (h9.symm.trans q) (by decide)⟩
    · obtain rfl := xc_i2 (hx.symm.trans h9)
      exact rb_catch C T E [⟨0, 12, 15, 13⟩] ⟨0, 12, 19, 15⟩ [] rfl (fun z hz => by
        simp only [List.mem_cons, List.not_mem_nil, or_false] at hz
        subst hz
        exact ⟨by decide, _, L_L_13, by decide +kernel⟩) (by decide) (by decide) L_L_15 (by decide +kernel) (i := 5) (pc1 := 21) (pc2 := 22) (n := 2) (v := 2) (Or.inl ⟨dL_recorded_19, rfl⟩) dL_recorded_21 rfl dL_recorded_22 (by decide) (Nat.le_of_ble_eq_true rfl) (Nat.le_of_ble_eq_true rfl) (Nat.le_of_ble_eq_true rfl) ⟨by rw [h9, sq_32], _, rfl, fun q => absurd (h9.symm.trans q) (by decide)⟩

theorem cd_pass (W : rb_I) (cn : Nat → Nat) (mins : Int32) (t : Nat) : (x7_pass W cn mins t).1 = 0 ∨ (x7_pass W cn mins t).1 = 2 ∨ (x7_pass W cn mins t).1 = 3 := by
  unfold x7_pass
  (repeat' split) <;> first | exact Or.inl rfl | exact Or.inr (Or.inl rfl) | exact Or.inr (Or.inr (rfl))
set_option maxRecDepth 100000 in
set_option maxHeartbeats 4000000 in
theorem k_L_pass (l : Launch) (X : rb_X) (G : rb_G) (W : rb_I) (cn : Nat → Nat) (ag : Nat → Nat → Int32) (hG : xCS G cn ag) (mins : Int32) (t : Nat) (hI : xCI W cn) (ht : t < 1000000) (hmn : W (0, 0, 0) 6 = nI t) (hJ : gN G (17, 0, 0) = 1) : rb_N l X yL_pass (.codeWith yL_pass cL_pass 4 (some .int) [(0, 9, 12, 15), (0, 9, 15, 25)]) 8 168 12 72 [rbR (0, 0, 0), rbI mins, rbR (17, 0, 0)] (wI G W) (fun v9 G9 => lq sq_1 (x7_pass W cn mins t) G v9 G9) := by
  refine rb_startW RL rfl (by decide +kernel) rfl (Nat.le_of_ble_eq_true rfl) ?_
  intro Φ C E T
  show rb_W Φ 0 0 0 [some (rbR (0, 0, 0)), some (rbI mins), some (rbR (17, 0, 0)), none] [] (wI G W)
  refine rb_aload_n C dL_pass_0 rfl ?_
  refine rb_iconst C dL_pass_1 (v := 0) (by decide) ?_
  refine rb_aload_n C dL_pass_2 rfl ?_
  refine rb_iload_n C dL_pass_3 rfl ?_
  refine rb_callV C M_L_95 (fun l X => k_X7_pass l X G W cn ag hG mins t hI ht hmn) rfl (Nat.le_of_ble_eq_true rfl) rfl dL_pass_4 rfl rfl rfl (Nat.le_of_ble_eq_true rfl) ⟨(Nat.le_of_ble_eq_true rfl), (Nat.le_of_ble_eq_true rfl)⟩ (Nat.le_of_ble_eq_true rfl) (Nat.le_of_ble_eq_true rfl) (fun v G' hp => ?_) (fun E9 G' hp => ?_)
  · obtain ⟨hf0, hv, e9⟩ := hp
    subst hv
    rw [e9]
    clear e9 G'
    refine rb_i2l C dL_pass_7 ?_
    refine rb_last C dL_pass_8 rfl (vp_01 (hJ)) ?_
    refine rb_goto C 18 dL_pass_9 (by decide) ?_
    refine rb_iconst C dL_pass_18 (v := 0) (by decide) ?_
    exact rb_iret C E dL_pass_19 (Nat.le_of_ble_eq_true rfl) (Nat.le_of_ble_eq_true rfl) (⟨by rw [hf0, sq_10], _, rfl, fun _ => up2_s _ _ _ _⟩)
  · obtain ⟨hx, e9⟩ := hp
    rw [e9]
    clear e9 G'
    rcases cd_pass W cn mins t with h9 | h9 | h9
    · exact absurd (hx.symm.trans h9) (xc_0 E9)
    · obtain rfl := xc_i2 (hx.symm.trans h9)
      exact rb_catch C T E [] ⟨0, 9, 12, 15⟩ [⟨0, 9, 15, 25⟩] rfl (fun z hz => by cases hz) (by decide) (by decide) L_L_15 (by decide +kernel) (i := 3) (pc1 := 13) (pc2 := 14) (n := 1) (v := 1) (Or.inr ⟨dL_pass_12, rfl, rfl⟩) dL_pass_13 rfl dL_pass_14 (by decide) (Nat.le_of_ble_eq_true rfl) (Nat.le_of_ble_eq_true rfl) (Nat.le_of_ble_eq_true rfl) ⟨by rw [h9, sq_12], _, rfl, fun q => absurd (h9.symm.trans q) (by decide)⟩
    · obtain rfl := xc_i3 (hx.symm.trans h9)
      exact rb_catch C T E [⟨0, 9, 12, 15⟩] ⟨0, 9, 15, 25⟩ [] rfl (fun z hz => by
        simp only [List.mem_cons, List.not_mem_nil, or_false] at hz
        subst hz
        exact ⟨by decide, _, L_L_15, by decide +kernel⟩) (by decide) (by decide) L_L_25 (by decide +kernel) (i := 3) (pc1 := 16) (pc2 := 17) (n := 2) (v := 2) (Or.inr ⟨dL_pass_15, rfl, rfl⟩) dL_pass_16 rfl dL_pass_17 (by decide) (Nat.le_of_ble_eq_true rfl) (Nat.le_of_ble_eq_true rfl) (Nat.le_of_ble_eq_true rfl) ⟨by rw [h9, sq_13], _, rfl, fun q => absurd (h9.symm.trans q) (by decide)⟩

