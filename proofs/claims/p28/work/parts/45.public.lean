theorem ci_move {W : rb_I} {cn : Nat → Nat} {j : Nat} {p : Int32} (hp : vp_in p 8) (hI : xCI W cn) : xCI (up2 (up2 W (9, j, 0) 3 p) (9, j, 0) 6 0) cn := by
  obtain ⟨a1, a2, a3, a4, a5, a6, a7, a8, a9⟩ := hI
  refine ⟨?_, ?_, ?_, ?_, ?_, ?_, ?_, ?_, a9⟩
  all_goals simp only [up2, Prod.mk.injEq]
  all_goals simp
  · exact a1
  · exact a2
  · intro s
    split
    · exact hp
    · exact a3 s
  · exact a4
  · exact a5
  · exact a6
  · exact a7
  · exact a8
theorem ci_st {W : rb_I} {cn : Nat → Nat} {j : Nat} {v : Int32} (hI : xCI W cn) : xCI (up2 W (9, j, 0) 6 v) cn := by
  unfold xCI at *
  simpa [up2] using hI
theorem ci_rec {W : rb_I} {cn : Nat → Nat} {j : Nat} {v : Int32} (hI : xCI W cn) : xCI (up2 W (1, 0, 0) j v) cn := by
  unfold xCI at *
  simpa [up2] using hI
theorem ci_dead {W : rb_I} {cn : Nat → Nat} {j : Nat} {v : Int32} (hv : v = 0 ∨ v = 1) (hI : xCI W cn) : xCI (up2 W (5, j, 0) 1 v) cn := by
  obtain ⟨a1, a2, a3, a4, a5, a6, a7, a8, a9⟩ := hI
  refine ⟨?_, ?_, ?_, ?_, ?_, ?_, ?_, ?_, a9⟩
  all_goals simp only [up2, Prod.mk.injEq]
  all_goals simp
  · exact a1
  · exact a2
  · exact a3
  · exact a4
  · exact a5
  · exact a6
  · exact a7
  · intro s
    split
    · exact hv
    · exact a8 s
theorem ci_clear {W : rb_I} {cn : Nat → Nat} {n : Nat} (hI : xCI W cn) : xCI (x2_clear W n) cn := by
  unfold xCI at *
  simpa [x2_clear_o] using hI
theorem fz_ {x : Int32} (h : x = 0 ∨ x = 1) : fits .boolean (.int x) = true := by
  rcases h with rfl | rfl <;> rfl
theorem tw_out6 {x : Int32} (h0 : ¬ x = 0) (h1 : ¬ x = 1) (h2 : ¬ x = 2) (h3 : ¬ x = 3) (h4 : ¬ x = 4) (h5 : ¬ x = 5) (h6 : ¬ x = 6) : x.toInt < 0 ∨ 6 < x.toInt := by
  rcases tw_out h0 h1 h2 h3 h4 h5 with h | h
  · exact Or.inl h
  · rcases (by omega : x.toInt = 6 ∨ 6 < x.toInt) with q | q
    · exact absurd (Int32.toInt_inj.mp (q.trans (show (6 : Int) = (6 : Int32).toInt from rfl))) h6
    · exact Or.inr q
def x7_where (W : rb_I) (cn : Nat → Nat) (s : Int32) : rb_U := (if m_in s 0 (nI (cn 1) - 1) = 0 then (1, (0 : Int32), W) else (0, (W (9, s.toNatClampNeg, 0) 5), W))
set_option maxRecDepth 100000 in
set_option maxHeartbeats 4000000 in
theorem k_X7_where (l : Launch) (X : rb_X) (G : rb_G) (W : rb_I) (cn : Nat → Nat) (ag : Nat → Nat → Int32) (hG : xCS G cn ag) (s : Int32) (hI : xCI W cn) : rb_M l X yX7_where (.code yX7_where cX7_where 2 (some .int)) 7 111 12 72 [rbR (0, 0, 0), rbI s] (wI G W) (fun v9 G9 => (x7_where W cn s).1 = 0 ∧ v9 = some (rbI (x7_where W cn s).2.1) ∧ G9 = wI G (x7_where W cn s).2.2) (fun e9 G9 => (x7_where W cn s).1 = xc e9 ∧ G9 = wI G (x7_where W cn s).2.2) := by
  have hc0 : cn 0 ≤ 30 := hI.2.2.2.2.2.2.2.2.1
  have hc1 : cn 1 ≤ 10 := hI.2.2.2.2.2.2.2.2.2.1
  have hc2 : cn 2 ≤ 200 := hI.2.2.2.2.2.2.2.2.2.2.1
  refine rb_startM RX7 rfl (by decide +kernel) rfl (Nat.le_of_ble_eq_true rfl) ?_
  intro Φ C E EX
  show rb_W Φ 0 0 0 [some (rbR (0, 0, 0)), some (rbI s)] [] (wI G W)
  refine rb_aload_n C dX7_where_0 rfl ?_
  refine rb_iload_n C dX7_where_1 rfl ?_
  refine rb_callV C M_X7_135 (fun l X => k_X7_subscriberAt l X G W cn ag hG s ((hI.1 1 (by decide))) hc1) rfl (Nat.le_of_ble_eq_true rfl) rfl dX7_where_2 rfl rfl rfl (Nat.le_of_ble_eq_true rfl) ⟨(Nat.le_of_ble_eq_true rfl), (Nat.le_of_ble_eq_true rfl)⟩ (Nat.le_of_ble_eq_true rfl) (Nat.le_of_ble_eq_true rfl) (fun v G' hp => ?_) (fun e9 G' hp => by obtain ⟨rfl, h2, e8⟩ := hp; rw [e8]; exact rb_out C EX (Nat.le_of_ble_eq_true rfl) (Nat.le_of_ble_eq_true rfl) (px_1 ((if_pos h2).trans (rfl))))
  obtain ⟨h2, rfl, e9⟩ := hp
  rw [e9]
  clear e9 G'
  refine rw_getI C FR_X7_171 dX7_where_5 rfl (x := (W (9, s.toNatClampNeg, 0) 5)) (rfl) ?_
  exact rb_iret C E dX7_where_8 (Nat.le_of_ble_eq_true rfl) (Nat.le_of_ble_eq_true rfl) (pt_ ((if_neg h2).trans (rfl)))

def x7_off (W : rb_I) (cn : Nat → Nat) (s : Int32) : rb_U := (if m_in s 0 (nI (cn 1) - 1) = 0 then (1, (0 : Int32), W) else (0, (W (9, s.toNatClampNeg, 0) 4), (up2 W (9, s.toNatClampNeg, 0) 4 (-1))))
set_option maxRecDepth 100000 in
set_option maxHeartbeats 4000000 in
theorem k_X7_off (l : Launch) (X : rb_X) (G : rb_G) (W : rb_I) (cn : Nat → Nat) (ag : Nat → Nat → Int32) (hG : xCS G cn ag) (s : Int32) (hI : xCI W cn) : rb_M l X yX7_off (.code yX7_off cX7_off 4 (some .int)) 7 111 12 72 [rbR (0, 0, 0), rbI s] (wI G W) (fun v9 G9 => (x7_off W cn s).1 = 0 ∧ v9 = some (rbI (x7_off W cn s).2.1) ∧ G9 = wI G (x7_off W cn s).2.2) (fun e9 G9 => (x7_off W cn s).1 = xc e9 ∧ G9 = wI G (x7_off W cn s).2.2) := by
  have hc0 : cn 0 ≤ 30 := hI.2.2.2.2.2.2.2.2.1
  have hc1 : cn 1 ≤ 10 := hI.2.2.2.2.2.2.2.2.2.1
  have hc2 : cn 2 ≤ 200 := hI.2.2.2.2.2.2.2.2.2.2.1
  refine rb_startM RX7 rfl (by decide +kernel) rfl (Nat.le_of_ble_eq_true rfl) ?_
  intro Φ C E EX
  show rb_W Φ 0 0 0 [some (rbR (0, 0, 0)), some (rbI s), none, none] [] (wI G W)
  refine rb_aload_n C dX7_off_0 rfl ?_
  refine rb_iload_n C dX7_off_1 rfl ?_
  refine rb_callV C M_X7_135 (fun l X => k_X7_subscriberAt l X G W cn ag hG s ((hI.1 1 (by decide))) hc1) rfl (Nat.le_of_ble_eq_true rfl) rfl dX7_off_2 rfl rfl rfl (Nat.le_of_ble_eq_true rfl) ⟨(Nat.le_of_ble_eq_true rfl), (Nat.le_of_ble_eq_true rfl)⟩ (Nat.le_of_ble_eq_true rfl) (Nat.le_of_ble_eq_true rfl) (fun v G' hp => ?_) (fun e9 G' hp => by obtain ⟨rfl, h2, e8⟩ := hp; rw [e8]; exact rb_out C EX (Nat.le_of_ble_eq_true rfl) (Nat.le_of_ble_eq_true rfl) (px_1 ((if_pos h2).trans (rfl))))
  obtain ⟨h2, rfl, e9⟩ := hp
  rw [e9]
  clear e9 G'
  refine rb_astore_n C dX7_off_5 (Nat.le_of_ble_eq_true rfl) rfl (Lv' := [_, _, _, _]) rfl ?_
  refine rb_aload_n C dX7_off_6 rfl ?_
  refine rw_getI C FR_X7_142 dX7_off_7 rfl (x := (W (9, s.toNatClampNeg, 0) 4)) (rfl) ?_
  refine rb_istore_n C dX7_off_10 (Nat.le_of_ble_eq_true rfl) rfl (Lv' := [_, _, _, _]) rfl ?_
  refine rb_aload_n C dX7_off_11 rfl ?_
  refine rb_iconst C dX7_off_12 (v := (-1)) (by decide) ?_
  refine rw_putI C F_X7_142 dX7_off_13 rfl ⟨rfl, rfl⟩ ?_
  refine rb_iload_n C dX7_off_16 rfl ?_
  exact rb_iret C E dX7_off_17 (Nat.le_of_ble_eq_true rfl) (Nat.le_of_ble_eq_true rfl) (pt_ ((if_neg h2).trans (rfl)))

def x7_move (W : rb_I) (cn : Nat → Nat) (s : Int32) (p : Int32) : rb_U := (if m_in s 0 (nI (cn 1) - 1) = 0 then (1, (0 : Int32), W) else (if m_isPlace p = 0 then (1, (0 : Int32), W) else (0, ((x7_detachIfNotReceived (up2 (up2 W (9, s.toNatClampNeg, 0) 3 p) (9, s.toNatClampNeg, 0) 6 0) s.toNatClampNeg) (9, s.toNatClampNeg, 0) 4), (x7_detachIfNotReceived (up2 (up2 W (9, s.toNatClampNeg, 0) 3 p) (9, s.toNatClampNeg, 0) 6 0) s.toNatClampNeg))))
set_option maxRecDepth 100000 in
set_option maxHeartbeats 4000000 in
theorem k_X7_move (l : Launch) (X : rb_X) (G : rb_G) (W : rb_I) (cn : Nat → Nat) (ag : Nat → Nat → Int32) (hG : xCS G cn ag) (s : Int32) (p : Int32) (hI : xCI W cn) : rb_M l X yX7_move (.code yX7_move cX7_move 4 (some .int)) 7 111 12 72 [rbR (0, 0, 0), rbI s, rbI p] (wI G W) (fun v9 G9 => (x7_move W cn s p).1 = 0 ∧ v9 = some (rbI (x7_move W cn s p).2.1) ∧ G9 = wI G (x7_move W cn s p).2.2) (fun e9 G9 => (x7_move W cn s p).1 = xc e9 ∧ G9 = wI G (x7_move W cn s p).2.2) := by
  have hc0 : cn 0 ≤ 30 := hI.2.2.2.2.2.2.2.2.1
  have hc1 : cn 1 ≤ 10 := hI.2.2.2.2.2.2.2.2.2.1
  have hc2 : cn 2 ≤ 200 := hI.2.2.2.2.2.2.2.2.2.2.1
  refine rb_startM RX7 rfl (by decide +kernel) rfl (Nat.le_of_ble_eq_true rfl) ?_
  intro Φ C E EX
  show rb_W Φ 0 0 0 [some (rbR (0, 0, 0)), some (rbI s), some (rbI p), none] [] (wI G W)
  refine rb_aload_n C dX7_move_0 rfl ?_
  refine rb_iload_n C dX7_move_1 rfl ?_
  refine rb_callV C M_X7_135 (fun l X => k_X7_subscriberAt l X G W cn ag hG s ((hI.1 1 (by decide))) hc1) rfl (Nat.le_of_ble_eq_true rfl) rfl dX7_move_2 rfl rfl rfl (Nat.le_of_ble_eq_true rfl) ⟨(Nat.le_of_ble_eq_true rfl), (Nat.le_of_ble_eq_true rfl)⟩ (Nat.le_of_ble_eq_true rfl) (Nat.le_of_ble_eq_true rfl) (fun v G' hp => ?_) (fun e9 G' hp => by obtain ⟨rfl, h2, e8⟩ := hp; rw [e8]; exact rb_out C EX (Nat.le_of_ble_eq_true rfl) (Nat.le_of_ble_eq_true rfl) (px_1 ((if_pos h2).trans (rfl))))
  obtain ⟨h2, rfl, e9⟩ := hp
  rw [e9]
  clear e9 G'
  refine rb_astore_n C dX7_move_5 (Nat.le_of_ble_eq_true rfl) rfl (Lv' := [_, _, _, _]) rfl ?_
  refine rb_aload_n C dX7_move_6 rfl ?_
  refine rb_iload_n C dX7_move_7 rfl ?_
  refine rb_callV C M_X7_126 (fun l X => k_X7_requirePlace l X G W cn ag hG p) rfl (Nat.le_of_ble_eq_true rfl) rfl dX7_move_8 rfl rfl rfl (Nat.le_of_ble_eq_true rfl) ⟨(Nat.le_of_ble_eq_true rfl), (Nat.le_of_ble_eq_true rfl)⟩ (Nat.le_of_ble_eq_true rfl) (Nat.le_of_ble_eq_true rfl) (fun v G' hp => ?_) (fun e9 G' hp => by obtain ⟨rfl, h8, e8⟩ := hp; rw [e8]; exact rb_out C EX (Nat.le_of_ble_eq_true rfl) (Nat.le_of_ble_eq_true rfl) (px_1 ((if_neg h2).trans ((if_pos h8).trans (rfl)))))
  obtain ⟨h8, rfl, e9⟩ := hp
  rw [e9]
  clear e9 G'
  refine rb_aload_n C dX7_move_11 rfl ?_
  refine rb_iload_n C dX7_move_12 rfl ?_
  refine rw_putI C F_X7_58 dX7_move_13 rfl ⟨rfl, rfl⟩ ?_
  refine rb_aload_n C dX7_move_16 rfl ?_
  refine rb_iconst C dX7_move_17 (v := 0) (by decide) ?_
  refine rw_putI C F_X7_139 dX7_move_18 rfl ⟨rfl, rfl⟩ ?_
  refine rb_aload_n C dX7_move_21 rfl ?_
  refine rb_aload_n C dX7_move_22 rfl ?_
  refine rb_callV C M_X7_62 (fun l X => (k_X7_detachIfNotReceived l X G (up2 (up2 W (9, s.toNatClampNeg, 0) 3 p) (9, s.toNatClampNeg, 0) 6 0) cn ag hG s.toNatClampNeg (ci_move (isPlace_in h8) hI)).m) rfl (Nat.le_of_ble_eq_true rfl) rfl dX7_move_23 rfl rfl rfl (Nat.le_of_ble_eq_true rfl) ⟨(Nat.le_of_ble_eq_true rfl), (Nat.le_of_ble_eq_true rfl)⟩ (Nat.le_of_ble_eq_true rfl) (Nat.le_of_ble_eq_true rfl) (fun v G' hp => ?_) (fun _ _ hp => hp.elim)
  obtain ⟨rfl, e9⟩ := hp
  rw [e9]
  clear e9 G'
  refine rb_aload_n C dX7_move_26 rfl ?_
  refine rw_getI C FR_X7_142 dX7_move_27 rfl (x := ((x7_detachIfNotReceived (up2 (up2 W (9, s.toNatClampNeg, 0) 3 p) (9, s.toNatClampNeg, 0) 6 0) s.toNatClampNeg) (9, s.toNatClampNeg, 0) 4)) (rfl) ?_
  exact rb_iret C E dX7_move_30 (Nat.le_of_ble_eq_true rfl) (Nat.le_of_ble_eq_true rfl) (pt_ ((if_neg h2).trans ((if_neg h8).trans (rfl))))

def x7_steer (W : rb_I) (cn : Nat → Nat) (ho : Int32) (n : Int32) : rb_U := (if m_isNetwork ho = 0 then (1, (0 : Int32), W) else (if n = (-1) then (if ho = n then (2, (0 : Int32), W) else (0, (W (5, ho.toNatClampNeg, 0) 2), (up2 W (5, ho.toNatClampNeg, 0) 2 n))) else (if m_isNetwork n = 0 then (1, (0 : Int32), W) else (if ho = n then (2, (0 : Int32), W) else (0, (W (5, ho.toNatClampNeg, 0) 2), (up2 W (5, ho.toNatClampNeg, 0) 2 n))))))
set_option maxRecDepth 100000 in
set_option maxHeartbeats 4000000 in
theorem k_X7_steer (l : Launch) (X : rb_X) (G : rb_G) (W : rb_I) (cn : Nat → Nat) (ag : Nat → Nat → Int32) (hG : xCS G cn ag) (ho : Int32) (n : Int32) (hI : xCI W cn) : rb_M l X yX7_steer (.code yX7_steer cX7_steer 5 (some .int)) 8 132 12 72 [rbR (0, 0, 0), rbI ho, rbI n] (wI G W) (fun v9 G9 => (x7_steer W cn ho n).1 = 0 ∧ v9 = some (rbI (x7_steer W cn ho n).2.1) ∧ G9 = wI G (x7_steer W cn ho n).2.2) (fun e9 G9 => (x7_steer W cn ho n).1 = xc e9 ∧ G9 = wI G (x7_steer W cn ho n).2.2) := by
  have hc0 : cn 0 ≤ 30 := hI.2.2.2.2.2.2.2.2.1
  have hc1 : cn 1 ≤ 10 := hI.2.2.2.2.2.2.2.2.2.1
  have hc2 : cn 2 ≤ 200 := hI.2.2.2.2.2.2.2.2.2.2.1
  refine rb_startM RX7 rfl (by decide +kernel) rfl (Nat.le_of_ble_eq_true rfl) ?_
  intro Φ C E EX
  show rb_W Φ 0 0 0 [some (rbR (0, 0, 0)), some (rbI ho), some (rbI n), none, none] [] (wI G W)
  refine rb_aload_n C dX7_steer_0 rfl ?_
  refine rb_iload_n C dX7_steer_1 rfl ?_
  refine rb_callV C M_X7_66 (fun l X => k_X7_networkAt l X G W cn ag hG ho) rfl (Nat.le_of_ble_eq_true rfl) rfl dX7_steer_2 rfl rfl rfl (Nat.le_of_ble_eq_true rfl) ⟨(Nat.le_of_ble_eq_true rfl), (Nat.le_of_ble_eq_true rfl)⟩ (Nat.le_of_ble_eq_true rfl) (Nat.le_of_ble_eq_true rfl) (fun v G' hp => ?_) (fun e9 G' hp => by obtain ⟨rfl, h2, e8⟩ := hp; rw [e8]; exact rb_out C EX (Nat.le_of_ble_eq_true rfl) (Nat.le_of_ble_eq_true rfl) (px_1 ((if_pos h2).trans (rfl))))
  obtain ⟨h2, rfl, e9⟩ := hp
  rw [e9]
  clear e9 G'
  refine rb_astore_n C dX7_steer_5 (Nat.le_of_ble_eq_true rfl) rfl (Lv' := [_, _, _, _, _]) rfl ?_
  refine rb_iload_n C dX7_steer_6 rfl ?_
  refine rb_iconst C dX7_steer_7 (v := (-1)) (by decide) ?_
  refine rb_icmp_eq C 16 dX7_steer_8 (by decide) (fun h8 => ?_) (fun h8 => ?_)
  · refine rb_iload_n C dX7_steer_16 rfl ?_
    refine rb_iload_n C dX7_steer_17 rfl ?_
    refine rb_callS C M_X7_90 (fun l X => k_X7_requireDifferent l X G W ho n) dX7_steer_18 rfl rfl rfl (Nat.le_of_ble_eq_true rfl) ⟨(Nat.le_of_ble_eq_true rfl), (Nat.le_of_ble_eq_true rfl)⟩ (Nat.le_of_ble_eq_true rfl) (Nat.le_of_ble_eq_true rfl) (fun v G' hp => ?_) (fun e9 G' hp => by obtain ⟨rfl, h18, e8⟩ := hp; rw [e8]; exact rb_out C EX (Nat.le_of_ble_eq_true rfl) (Nat.le_of_ble_eq_true rfl) (px_2 ((if_neg h2).trans ((if_pos h8).trans ((if_pos h18).trans (rfl))))))
    obtain ⟨h18, rfl, e9⟩ := hp
    rw [e9]
    clear e9 G'
    refine rb_aload_n C dX7_steer_21 rfl ?_
    refine rw_getI C FR_X7_108 dX7_steer_22 rfl (x := (W (5, ho.toNatClampNeg, 0) 2)) (rfl) ?_
    refine rb_istore C dX7_steer_25 (Nat.le_of_ble_eq_true rfl) rfl (Lv' := [_, _, _, _, _]) rfl ?_
    refine rb_aload_n C dX7_steer_27 rfl ?_
    refine rb_iload_n C dX7_steer_28 rfl ?_
    refine rw_putI C F_X7_108 dX7_steer_29 rfl ⟨rfl, rfl⟩ ?_
    refine rb_iload C dX7_steer_32 rfl ?_
    exact rb_iret C E dX7_steer_34 (Nat.le_of_ble_eq_true rfl) (Nat.le_of_ble_eq_true rfl) (pt_ ((if_neg h2).trans ((if_pos h8).trans ((if_neg h18).trans (rfl)))))
  · refine rb_aload_n C dX7_steer_11 rfl ?_
    refine rb_iload_n C dX7_steer_12 rfl ?_
    refine rb_callV C M_X7_87 (fun l X => k_X7_requireNetwork l X G W cn ag hG n) rfl (Nat.le_of_ble_eq_true rfl) rfl dX7_steer_13 rfl rfl rfl (Nat.le_of_ble_eq_true rfl) ⟨(Nat.le_of_ble_eq_true rfl), (Nat.le_of_ble_eq_true rfl)⟩ (Nat.le_of_ble_eq_true rfl) (Nat.le_of_ble_eq_true rfl) (fun v G' hp => ?_) (fun e9 G' hp => by obtain ⟨rfl, h13, e8⟩ := hp; rw [e8]; exact rb_out C EX (Nat.le_of_ble_eq_true rfl) (Nat.le_of_ble_eq_true rfl) (px_1 ((if_neg h2).trans ((if_neg h8).trans ((if_pos h13).trans (rfl))))))
    obtain ⟨h13, rfl, e9⟩ := hp
    rw [e9]
    clear e9 G'
    refine rb_iload_n C dX7_steer_16 rfl ?_
    refine rb_iload_n C dX7_steer_17 rfl ?_
    refine rb_callS C M_X7_90 (fun l X => k_X7_requireDifferent l X G W ho n) dX7_steer_18 rfl rfl rfl (Nat.le_of_ble_eq_true rfl) ⟨(Nat.le_of_ble_eq_true rfl), (Nat.le_of_ble_eq_true rfl)⟩ (Nat.le_of_ble_eq_true rfl) (Nat.le_of_ble_eq_true rfl) (fun v G' hp => ?_) (fun e9 G' hp => by obtain ⟨rfl, h18, e8⟩ := hp; rw [e8]; exact rb_out C EX (Nat.le_of_ble_eq_true rfl) (Nat.le_of_ble_eq_true rfl) (px_2 ((if_neg h2).trans ((if_neg h8).trans ((if_neg h13).trans ((if_pos h18).trans (rfl)))))))
    obtain ⟨h18, rfl, e9⟩ := hp
    rw [e9]
    clear e9 G'
    refine rb_aload_n C dX7_steer_21 rfl ?_
    refine rw_getI C FR_X7_108 dX7_steer_22 rfl (x := (W (5, ho.toNatClampNeg, 0) 2)) (rfl) ?_
    refine rb_istore C dX7_steer_25 (Nat.le_of_ble_eq_true rfl) rfl (Lv' := [_, _, _, _, _]) rfl ?_
    refine rb_aload_n C dX7_steer_27 rfl ?_
    refine rb_iload_n C dX7_steer_28 rfl ?_
    refine rw_putI C F_X7_108 dX7_steer_29 rfl ⟨rfl, rfl⟩ ?_
    refine rb_iload C dX7_steer_32 rfl ?_
    exact rb_iret C E dX7_steer_34 (Nat.le_of_ble_eq_true rfl) (Nat.le_of_ble_eq_true rfl) (pt_ ((if_neg h2).trans ((if_neg h8).trans ((if_neg h13).trans ((if_neg h18).trans (rfl))))))

def x7_prices (W : rb_I) (cn : Nat → Nat) (ho : Int32) (ah : Int32) (ab : Int32) (ca : Int32) : rb_U := (if m_isNetwork ho = 0 then (1, (0 : Int32), W) else (if m_in ah (0 : Int32) (99 : Int32) = 0 then (2, (0 : Int32), W) else (if m_in ab (0 : Int32) (99 : Int32) = 0 then (2, (0 : Int32), W) else (if m_in ca (0 : Int32) (99 : Int32) = 0 then (2, (0 : Int32), W) else (0, (0 : Int32), (up2 (up2 (up2 W (5, ho.toNatClampNeg, 0) 3 ah) (5, ho.toNatClampNeg, 0) 4 ab) (5, ho.toNatClampNeg, 0) 5 ca))))))
set_option maxRecDepth 100000 in
set_option maxHeartbeats 4000000 in
theorem k_X7_prices (l : Launch) (X : rb_X) (G : rb_G) (W : rb_I) (cn : Nat → Nat) (ag : Nat → Nat → Int32) (hG : xCS G cn ag) (ho : Int32) (ah : Int32) (ab : Int32) (ca : Int32) (hI : xCI W cn) : rb_M l X yX7_prices (.code yX7_prices cX7_prices 6 none) 8 132 12 72 [rbR (0, 0, 0), rbI ho, rbI ah, rbI ab, rbI ca] (wI G W) (fun v9 G9 => (x7_prices W cn ho ah ab ca).1 = 0 ∧ v9 = none ∧ G9 = wI G (x7_prices W cn ho ah ab ca).2.2) (fun e9 G9 => (x7_prices W cn ho ah ab ca).1 = xc e9 ∧ G9 = wI G (x7_prices W cn ho ah ab ca).2.2) := by
  have hc0 : cn 0 ≤ 30 := hI.2.2.2.2.2.2.2.2.1
  have hc1 : cn 1 ≤ 10 := hI.2.2.2.2.2.2.2.2.2.1
  have hc2 : cn 2 ≤ 200 := hI.2.2.2.2.2.2.2.2.2.2.1
  refine rb_startM RX7 rfl (by decide +kernel) rfl (Nat.le_of_ble_eq_true rfl) ?_
  intro Φ C E EX
  show rb_W Φ 0 0 0 [some (rbR (0, 0, 0)), some (rbI ho), some (rbI ah), some (rbI ab), some (rbI ca), none] [] (wI G W)
  refine rb_aload_n C dX7_prices_0 rfl ?_
  refine rb_iload_n C dX7_prices_1 rfl ?_
  refine rb_callV C M_X7_66 (fun l X => k_X7_networkAt l X G W cn ag hG ho) rfl (Nat.le_of_ble_eq_true rfl) rfl dX7_prices_2 rfl rfl rfl (Nat.le_of_ble_eq_true rfl) ⟨(Nat.le_of_ble_eq_true rfl), (Nat.le_of_ble_eq_true rfl)⟩ (Nat.le_of_ble_eq_true rfl) (Nat.le_of_ble_eq_true rfl) (fun v G' hp => ?_) (fun e9 G' hp => by obtain ⟨rfl, h2, e8⟩ := hp; rw [e8]; exact rb_out C EX (Nat.le_of_ble_eq_true rfl) (Nat.le_of_ble_eq_true rfl) (px_1 ((if_pos h2).trans (rfl))))
  obtain ⟨h2, rfl, e9⟩ := hp
  rw [e9]
  clear e9 G'
  refine rb_astore C dX7_prices_5 (Nat.le_of_ble_eq_true rfl) rfl (Lv' := [_, _, _, _, _, _]) rfl ?_
  refine rb_iload_n C dX7_prices_7 rfl ?_
  refine rb_iconst C dX7_prices_8 (v := 0) (by decide) ?_
  refine rb_bipush C dX7_prices_9 (v := 99) (by decide) ?_
  refine rb_callS C M_X7_44 (fun l X => k_X7_requireRange l X G W ah (0 : Int32) (99 : Int32)) dX7_prices_11 rfl rfl rfl (Nat.le_of_ble_eq_true rfl) ⟨(Nat.le_of_ble_eq_true rfl), (Nat.le_of_ble_eq_true rfl)⟩ (Nat.le_of_ble_eq_true rfl) (Nat.le_of_ble_eq_true rfl) (fun v G' hp => ?_) (fun e9 G' hp => by obtain ⟨rfl, h11, e8⟩ := hp; rw [e8]; exact rb_out C EX (Nat.le_of_ble_eq_true rfl) (Nat.le_of_ble_eq_true rfl) (px_2 ((if_neg h2).trans ((if_pos h11).trans (rfl)))))
  obtain ⟨h11, rfl, e9⟩ := hp
  rw [e9]
  clear e9 G'
  refine rb_iload_n C dX7_prices_14 rfl ?_
  refine rb_iconst C dX7_prices_15 (v := 0) (by decide) ?_
  refine rb_bipush C dX7_prices_16 (v := 99) (by decide) ?_
  refine rb_callS C M_X7_44 (fun l X => k_X7_requireRange l X G W ab (0 : Int32) (99 : Int32)) dX7_prices_18 rfl rfl rfl (Nat.le_of_ble_eq_true rfl) ⟨(Nat.le_of_ble_eq_true rfl), (Nat.le_of_ble_eq_true rfl)⟩ (Nat.le_of_ble_eq_true rfl) (Nat.le_of_ble_eq_true rfl) (fun v G' hp => ?_) (fun e9 G' hp => by obtain ⟨rfl, h18, e8⟩ := hp; rw [e8]; exact rb_out C EX (Nat.le_of_ble_eq_true rfl) (Nat.le_of_ble_eq_true rfl) (px_2 ((if_neg h2).trans ((if_neg h11).trans ((if_pos h18).trans (rfl))))))
  obtain ⟨h18, rfl, e9⟩ := hp
  rw [e9]
  clear e9 G'
  refine rb_iload C dX7_prices_21 rfl ?_
  refine rb_iconst C dX7_prices_23 (v := 0) (by decide) ?_
  refine rb_bipush C dX7_prices_24 (v := 99) (by decide) ?_
  refine rb_callS C M_X7_44 (fun l X => k_X7_requireRange l X G W ca (0 : Int32) (99 : Int32)) dX7_prices_26 rfl rfl rfl (Nat.le_of_ble_eq_true rfl) ⟨(Nat.le_of_ble_eq_true rfl), (Nat.le_of_ble_eq_true rfl)⟩ (Nat.le_of_ble_eq_true rfl) (Nat.le_of_ble_eq_true rfl) (fun v G' hp => ?_) (fun e9 G' hp => by obtain ⟨rfl, h26, e8⟩ := hp; rw [e8]; exact rb_out C EX (Nat.le_of_ble_eq_true rfl) (Nat.le_of_ble_eq_true rfl) (px_2 ((if_neg h2).trans ((if_neg h11).trans ((if_neg h18).trans ((if_pos h26).trans (rfl)))))))
  obtain ⟨h26, rfl, e9⟩ := hp
  rw [e9]
  clear e9 G'
  refine rb_aload C dX7_prices_29 rfl ?_
  refine rb_iload_n C dX7_prices_31 rfl ?_
  refine rw_putI C F_X7_111 dX7_prices_32 rfl ⟨rfl, rfl⟩ ?_
  refine rb_aload C dX7_prices_35 rfl ?_
  refine rb_iload_n C dX7_prices_37 rfl ?_
  refine rw_putI C F_X7_114 dX7_prices_38 rfl ⟨rfl, rfl⟩ ?_
  refine rb_aload C dX7_prices_41 rfl ?_
  refine rb_iload C dX7_prices_43 rfl ?_
  refine rw_putI C F_X7_117 dX7_prices_45 rfl ⟨rfl, rfl⟩ ?_
  exact rb_vret C E dX7_prices_48 (Nat.le_of_ble_eq_true rfl) (Nat.le_of_ble_eq_true rfl) (pu_ ((if_neg h2).trans ((if_neg h11).trans ((if_neg h18).trans ((if_neg h26).trans (rfl))))))

def x7_lose (W : rb_I) (cn : Nat → Nat) (n : Int32) (many : Int32) : rb_U := (if m_isNetwork n = 0 then (1, (0 : Int32), W) else (if m_in many (0 : Int32) (9 : Int32) = 0 then (2, (0 : Int32), W) else (0, (W (5, n.toNatClampNeg, 0) 6), (up2 W (5, n.toNatClampNeg, 0) 6 many))))
set_option maxRecDepth 100000 in
set_option maxHeartbeats 4000000 in
theorem k_X7_lose (l : Launch) (X : rb_X) (G : rb_G) (W : rb_I) (cn : Nat → Nat) (ag : Nat → Nat → Int32) (hG : xCS G cn ag) (n : Int32) (many : Int32) (hI : xCI W cn) : rb_M l X yX7_lose (.code yX7_lose cX7_lose 5 (some .int)) 8 132 12 72 [rbR (0, 0, 0), rbI n, rbI many] (wI G W) (fun v9 G9 => (x7_lose W cn n many).1 = 0 ∧ v9 = some (rbI (x7_lose W cn n many).2.1) ∧ G9 = wI G (x7_lose W cn n many).2.2) (fun e9 G9 => (x7_lose W cn n many).1 = xc e9 ∧ G9 = wI G (x7_lose W cn n many).2.2) := by
  have hc0 : cn 0 ≤ 30 := hI.2.2.2.2.2.2.2.2.1
  have hc1 : cn 1 ≤ 10 := hI.2.2.2.2.2.2.2.2.2.1
  have hc2 : cn 2 ≤ 200 := hI.2.2.2.2.2.2.2.2.2.2.1
  refine rb_startM RX7 rfl (by decide +kernel) rfl (Nat.le_of_ble_eq_true rfl) ?_
  intro Φ C E EX
  show rb_W Φ 0 0 0 [some (rbR (0, 0, 0)), some (rbI n), some (rbI many), none, none] [] (wI G W)
  refine rb_aload_n C dX7_lose_0 rfl ?_
  refine rb_iload_n C dX7_lose_1 rfl ?_
  refine rb_callV C M_X7_66 (fun l X => k_X7_networkAt l X G W cn ag hG n) rfl (Nat.le_of_ble_eq_true rfl) rfl dX7_lose_2 rfl rfl rfl (Nat.le_of_ble_eq_true rfl) ⟨(Nat.le_of_ble_eq_true rfl), (Nat.le_of_ble_eq_true rfl)⟩ (Nat.le_of_ble_eq_true rfl) (Nat.le_of_ble_eq_true rfl) (fun v G' hp => ?_) (fun e9 G' hp => by obtain ⟨rfl, h2, e8⟩ := hp; rw [e8]; exact rb_out C EX (Nat.le_of_ble_eq_true rfl) (Nat.le_of_ble_eq_true rfl) (px_1 ((if_pos h2).trans (rfl))))
  obtain ⟨h2, rfl, e9⟩ := hp
  rw [e9]
  clear e9 G'
  refine rb_astore_n C dX7_lose_5 (Nat.le_of_ble_eq_true rfl) rfl (Lv' := [_, _, _, _, _]) rfl ?_
  refine rb_iload_n C dX7_lose_6 rfl ?_
  refine rb_iconst C dX7_lose_7 (v := 0) (by decide) ?_
  refine rb_bipush C dX7_lose_8 (v := 9) (by decide) ?_
  refine rb_callS C M_X7_44 (fun l X => k_X7_requireRange l X G W many (0 : Int32) (9 : Int32)) dX7_lose_10 rfl rfl rfl (Nat.le_of_ble_eq_true rfl) ⟨(Nat.le_of_ble_eq_true rfl), (Nat.le_of_ble_eq_true rfl)⟩ (Nat.le_of_ble_eq_true rfl) (Nat.le_of_ble_eq_true rfl) (fun v G' hp => ?_) (fun e9 G' hp => by obtain ⟨rfl, h10, e8⟩ := hp; rw [e8]; exact rb_out C EX (Nat.le_of_ble_eq_true rfl) (Nat.le_of_ble_eq_true rfl) (px_2 ((if_neg h2).trans ((if_pos h10).trans (rfl)))))
  obtain ⟨h10, rfl, e9⟩ := hp
  rw [e9]
  clear e9 G'
  refine rb_aload_n C dX7_lose_13 rfl ?_
  refine rw_getI C FR_X7_120 dX7_lose_14 rfl (x := (W (5, n.toNatClampNeg, 0) 6)) (rfl) ?_
  refine rb_istore C dX7_lose_17 (Nat.le_of_ble_eq_true rfl) rfl (Lv' := [_, _, _, _, _]) rfl ?_
  refine rb_aload_n C dX7_lose_19 rfl ?_
  refine rb_iload_n C dX7_lose_20 rfl ?_
  refine rw_putI C F_X7_120 dX7_lose_21 rfl ⟨rfl, rfl⟩ ?_
  refine rb_iload C dX7_lose_24 rfl ?_
  exact rb_iret C E dX7_lose_26 (Nat.le_of_ble_eq_true rfl) (Nat.le_of_ble_eq_true rfl) (pt_ ((if_neg h2).trans ((if_neg h10).trans (rfl))))

def x7_crash (W : rb_I) (cn : Nat → Nat) (n : Int32) : rb_U := (if m_isNetwork n = 0 then (1, (0 : Int32), W) else (0, (x2_count W n.toNatClampNeg), (x2_clear W n.toNatClampNeg)))
set_option maxRecDepth 100000 in
set_option maxHeartbeats 4000000 in
theorem k_X7_crash (l : Launch) (X : rb_X) (G : rb_G) (W : rb_I) (cn : Nat → Nat) (ag : Nat → Nat → Int32) (hG : xCS G cn ag) (n : Int32) (hI : xCI W cn) : rb_M l X yX7_crash (.code yX7_crash cX7_crash 4 (some .int)) 8 132 12 72 [rbR (0, 0, 0), rbI n] (wI G W) (fun v9 G9 => (x7_crash W cn n).1 = 0 ∧ v9 = some (rbI (x7_crash W cn n).2.1) ∧ G9 = wI G (x7_crash W cn n).2.2) (fun e9 G9 => (x7_crash W cn n).1 = xc e9 ∧ G9 = wI G (x7_crash W cn n).2.2) := by
  have hc0 : cn 0 ≤ 30 := hI.2.2.2.2.2.2.2.2.1
  have hc1 : cn 1 ≤ 10 := hI.2.2.2.2.2.2.2.2.2.1
  have hc2 : cn 2 ≤ 200 := hI.2.2.2.2.2.2.2.2.2.2.1
  refine rb_startM RX7 rfl (by decide +kernel) rfl (Nat.le_of_ble_eq_true rfl) ?_
  intro Φ C E EX
  show rb_W Φ 0 0 0 [some (rbR (0, 0, 0)), some (rbI n), none, none] [] (wI G W)
  refine rb_aload_n C dX7_crash_0 rfl ?_
  refine rb_iload_n C dX7_crash_1 rfl ?_
  refine rb_callV C M_X7_66 (fun l X => k_X7_networkAt l X G W cn ag hG n) rfl (Nat.le_of_ble_eq_true rfl) rfl dX7_crash_2 rfl rfl rfl (Nat.le_of_ble_eq_true rfl) ⟨(Nat.le_of_ble_eq_true rfl), (Nat.le_of_ble_eq_true rfl)⟩ (Nat.le_of_ble_eq_true rfl) (Nat.le_of_ble_eq_true rfl) (fun v G' hp => ?_) (fun e9 G' hp => by obtain ⟨rfl, h2, e8⟩ := hp; rw [e8]; exact rb_out C EX (Nat.le_of_ble_eq_true rfl) (Nat.le_of_ble_eq_true rfl) (px_1 ((if_pos h2).trans (rfl))))
  obtain ⟨h2, rfl, e9⟩ := hp
  rw [e9]
  clear e9 G'
  refine rw_getP C FR_X7_74 dX7_crash_5 rfl (o := some (6, n.toNatClampNeg, 0)) (hG.2.2.2.2.1 n.toNatClampNeg (vp_in_lt (isNetwork_in h2))).1 ?_
  refine rb_astore_n C dX7_crash_8 (Nat.le_of_ble_eq_true rfl) rfl (Lv' := [_, _, _, _]) rfl ?_
  refine rb_aload_n C dX7_crash_9 rfl ?_
  refine rb_callV C M_X7_123 (fun l X => (k_X2_count l X G W cn ag hG n.toNatClampNeg (vp_in_lt (isNetwork_in h2))).m) rfl (Nat.le_of_ble_eq_true rfl) rfl dX7_crash_10 rfl rfl rfl (Nat.le_of_ble_eq_true rfl) ⟨(Nat.le_of_ble_eq_true rfl), (Nat.le_of_ble_eq_true rfl)⟩ (Nat.le_of_ble_eq_true rfl) (Nat.le_of_ble_eq_true rfl) (fun v G' hp => ?_) (fun _ _ hp => hp.elim)
  obtain ⟨rfl, e9⟩ := hp
  rw [e9]
  clear e9 G'
  refine rb_istore_n C dX7_crash_13 (Nat.le_of_ble_eq_true rfl) rfl (Lv' := [_, _, _, _]) rfl ?_
  refine rb_aload_n C dX7_crash_14 rfl ?_
  refine rb_callV C M_X7_78 (fun l X => (k_X2_clear l X G W cn ag hG n.toNatClampNeg (vp_in_lt (isNetwork_in h2))).m) rfl (Nat.le_of_ble_eq_true rfl) rfl dX7_crash_15 rfl rfl rfl (Nat.le_of_ble_eq_true rfl) ⟨(Nat.le_of_ble_eq_true rfl), (Nat.le_of_ble_eq_true rfl)⟩ (Nat.le_of_ble_eq_true rfl) (Nat.le_of_ble_eq_true rfl) (fun v G' hp => ?_) (fun _ _ hp => hp.elim)
  obtain ⟨rfl, e9⟩ := hp
  rw [e9]
  clear e9 G'
  refine rb_iload_n C dX7_crash_18 rfl ?_
  exact rb_iret C E dX7_crash_19 (Nat.le_of_ble_eq_true rfl) (Nat.le_of_ble_eq_true rfl) (pt_ ((if_neg h2).trans (rfl)))

def x7_contact (W : rb_I) (cn : Nat → Nat) (n : Int32) (s : Int32) : rb_U := (if m_isNetwork n = 0 then (1, (0 : Int32), W) else (if m_in s 0 (nI (cn 1) - 1) = 0 then (1, (0 : Int32), W) else (0, (x2_latest W n.toNatClampNeg (W (9, s.toNatClampNeg, 0) 0)), W)))
set_option maxRecDepth 100000 in
set_option maxHeartbeats 4000000 in
theorem k_X7_contact (l : Launch) (X : rb_X) (G : rb_G) (W : rb_I) (cn : Nat → Nat) (ag : Nat → Nat → Int32) (hG : xCS G cn ag) (n : Int32) (s : Int32) (hI : xCI W cn) : rb_M l X yX7_contact (.code yX7_contact cX7_contact 4 (some .int)) 8 132 12 72 [rbR (0, 0, 0), rbI n, rbI s] (wI G W) (fun v9 G9 => (x7_contact W cn n s).1 = 0 ∧ v9 = some (rbI (x7_contact W cn n s).2.1) ∧ G9 = wI G (x7_contact W cn n s).2.2) (fun e9 G9 => (x7_contact W cn n s).1 = xc e9 ∧ G9 = wI G (x7_contact W cn n s).2.2) := by
  have hc0 : cn 0 ≤ 30 := hI.2.2.2.2.2.2.2.2.1
  have hc1 : cn 1 ≤ 10 := hI.2.2.2.2.2.2.2.2.2.1
  have hc2 : cn 2 ≤ 200 := hI.2.2.2.2.2.2.2.2.2.2.1
  refine rb_startM RX7 rfl (by decide +kernel) rfl (Nat.le_of_ble_eq_true rfl) ?_
  intro Φ C E EX
  show rb_W Φ 0 0 0 [some (rbR (0, 0, 0)), some (rbI n), some (rbI s), none] [] (wI G W)
  refine rb_aload_n C dX7_contact_0 rfl ?_
  refine rb_iload_n C dX7_contact_1 rfl ?_
  refine rb_callV C M_X7_66 (fun l X => k_X7_networkAt l X G W cn ag hG n) rfl (Nat.le_of_ble_eq_true rfl) rfl dX7_contact_2 rfl rfl rfl (Nat.le_of_ble_eq_true rfl) ⟨(Nat.le_of_ble_eq_true rfl), (Nat.le_of_ble_eq_true rfl)⟩ (Nat.le_of_ble_eq_true rfl) (Nat.le_of_ble_eq_true rfl) (fun v G' hp => ?_) (fun e9 G' hp => by obtain ⟨rfl, h2, e8⟩ := hp; rw [e8]; exact rb_out C EX (Nat.le_of_ble_eq_true rfl) (Nat.le_of_ble_eq_true rfl) (px_1 ((if_pos h2).trans (rfl))))
  obtain ⟨h2, rfl, e9⟩ := hp
  rw [e9]
  clear e9 G'
  refine rw_getP C FR_X7_74 dX7_contact_5 rfl (o := some (6, n.toNatClampNeg, 0)) (hG.2.2.2.2.1 n.toNatClampNeg (vp_in_lt (isNetwork_in h2))).1 ?_
  refine rb_astore_n C dX7_contact_8 (Nat.le_of_ble_eq_true rfl) rfl (Lv' := [_, _, _, _]) rfl ?_
  refine rb_aload_n C dX7_contact_9 rfl ?_
  refine rb_aload_n C dX7_contact_10 rfl ?_
  refine rb_iload_n C dX7_contact_11 rfl ?_
  refine rb_callV C M_X7_135 (fun l X => k_X7_subscriberAt l X G W cn ag hG s ((hI.1 1 (by decide))) hc1) rfl (Nat.le_of_ble_eq_true rfl) rfl dX7_contact_12 rfl rfl rfl (Nat.le_of_ble_eq_true rfl) ⟨(Nat.le_of_ble_eq_true rfl), (Nat.le_of_ble_eq_true rfl)⟩ (Nat.le_of_ble_eq_true rfl) (Nat.le_of_ble_eq_true rfl) (fun v G' hp => ?_) (fun e9 G' hp => by obtain ⟨rfl, h12, e8⟩ := hp; rw [e8]; exact rb_out C EX (Nat.le_of_ble_eq_true rfl) (Nat.le_of_ble_eq_true rfl) (px_1 ((if_neg h2).trans ((if_pos h12).trans (rfl)))))
  obtain ⟨h12, rfl, e9⟩ := hp
  rw [e9]
  clear e9 G'
  refine rw_getI C FR_X7_132 dX7_contact_15 rfl (x := (W (9, s.toNatClampNeg, 0) 0)) (rfl) ?_
  refine rb_callV C M_X7_174 (fun l X => (k_X2_latest l X G W cn ag hG n.toNatClampNeg (W (9, s.toNatClampNeg, 0) 0) (vp_in_lt (isNetwork_in h2))).m) rfl (Nat.le_of_ble_eq_true rfl) rfl dX7_contact_18 rfl rfl rfl (Nat.le_of_ble_eq_true rfl) ⟨(Nat.le_of_ble_eq_true rfl), (Nat.le_of_ble_eq_true rfl)⟩ (Nat.le_of_ble_eq_true rfl) (Nat.le_of_ble_eq_true rfl) (fun v G' hp => ?_) (fun _ _ hp => hp.elim)
  obtain ⟨rfl, e9⟩ := hp
  rw [e9]
  clear e9 G'
  exact rb_iret C E dX7_contact_21 (Nat.le_of_ble_eq_true rfl) (Nat.le_of_ble_eq_true rfl) (pt_ ((if_neg h2).trans ((if_neg h12).trans (rfl))))

def x7_cap (W : rb_I) (cn : Nat → Nat) (s : Int32) (c : Int32) (co : Int32) : rb_U := (if m_in s 0 (nI (cn 1) - 1) = 0 then (1, (0 : Int32), W) else (if m_in c (0 : Int32) ((99999) : Int32) = 0 then (2, (0 : Int32), W) else (0, (0 : Int32), (up2 (up2 W (9, s.toNatClampNeg, 0) 7 c) (9, s.toNatClampNeg, 0) 8 co))))
set_option maxRecDepth 100000 in
set_option maxHeartbeats 4000000 in
theorem k_X7_cap (l : Launch) (X : rb_X) (G : rb_G) (W : rb_I) (cn : Nat → Nat) (ag : Nat → Nat → Int32) (hG : xCS G cn ag) (s : Int32) (c : Int32) (co : Int32) (hI : xCI W cn) (hco : co = 0 ∨ co = 1) : rb_M l X yX7_cap (.code yX7_cap cX7_cap 5 none) 7 112 12 72 [rbR (0, 0, 0), rbI s, rbI c, rbI co] (wI G W) (fun v9 G9 => (x7_cap W cn s c co).1 = 0 ∧ v9 = none ∧ G9 = wI G (x7_cap W cn s c co).2.2) (fun e9 G9 => (x7_cap W cn s c co).1 = xc e9 ∧ G9 = wI G (x7_cap W cn s c co).2.2) := by
  have hc0 : cn 0 ≤ 30 := hI.2.2.2.2.2.2.2.2.1
  have hc1 : cn 1 ≤ 10 := hI.2.2.2.2.2.2.2.2.2.1
  have hc2 : cn 2 ≤ 200 := hI.2.2.2.2.2.2.2.2.2.2.1
  refine rb_startM RX7 rfl (by decide +kernel) rfl (Nat.le_of_ble_eq_true rfl) ?_
  intro Φ C E EX
  show rb_W Φ 0 0 0 [some (rbR (0, 0, 0)), some (rbI s), some (rbI c), some (rbI co), none] [] (wI G W)
  refine rb_aload_n C dX7_cap_0 rfl ?_
  refine rb_iload_n C dX7_cap_1 rfl ?_
  refine rb_callV C M_X7_135 (fun l X => k_X7_subscriberAt l X G W cn ag hG s ((hI.1 1 (by decide))) hc1) rfl (Nat.le_of_ble_eq_true rfl) rfl dX7_cap_2 rfl rfl rfl (Nat.le_of_ble_eq_true rfl) ⟨(Nat.le_of_ble_eq_true rfl), (Nat.le_of_ble_eq_true rfl)⟩ (Nat.le_of_ble_eq_true rfl) (Nat.le_of_ble_eq_true rfl) (fun v G' hp => ?_) (fun e9 G' hp => by obtain ⟨rfl, h2, e8⟩ := hp; rw [e8]; exact rb_out C EX (Nat.le_of_ble_eq_true rfl) (Nat.le_of_ble_eq_true rfl) (px_1 ((if_pos h2).trans (rfl))))
  obtain ⟨h2, rfl, e9⟩ := hp
  rw [e9]
  clear e9 G'
  refine rb_astore C dX7_cap_5 (Nat.le_of_ble_eq_true rfl) rfl (Lv' := [_, _, _, _, _]) rfl ?_
  refine rb_iload_n C dX7_cap_7 rfl ?_
  refine rb_iconst C dX7_cap_8 (v := 0) (by decide) ?_
  refine rb_ldc C dX7_cap_9 N_X7_199 ?_
  refine rb_callS C M_X7_44 (fun l X => k_X7_requireRange l X G W c (0 : Int32) ((99999) : Int32)) dX7_cap_11 rfl rfl rfl (Nat.le_of_ble_eq_true rfl) ⟨(Nat.le_of_ble_eq_true rfl), (Nat.le_of_ble_eq_true rfl)⟩ (Nat.le_of_ble_eq_true rfl) (Nat.le_of_ble_eq_true rfl) (fun v G' hp => ?_) (fun e9 G' hp => by obtain ⟨rfl, h11, e8⟩ := hp; rw [e8]; exact rb_out C EX (Nat.le_of_ble_eq_true rfl) (Nat.le_of_ble_eq_true rfl) (px_2 ((if_neg h2).trans ((if_pos h11).trans (rfl)))))
  obtain ⟨h11, rfl, e9⟩ := hp
  rw [e9]
  clear e9 G'
  refine rb_aload C dX7_cap_14 rfl ?_
  refine rb_iload_n C dX7_cap_16 rfl ?_
  refine rw_putI C F_X7_191 dX7_cap_17 rfl ⟨rfl, rfl⟩ ?_
  refine rb_aload C dX7_cap_20 rfl ?_
  refine rb_iload_n C dX7_cap_22 rfl ?_
  refine rw_putI C F_X7_200 dX7_cap_23 rfl ⟨nz_ hco, fz_ hco⟩ ?_
  exact rb_vret C E dX7_cap_26 (Nat.le_of_ble_eq_true rfl) (Nat.le_of_ble_eq_true rfl) (pu_ ((if_neg h2).trans ((if_neg h11).trans (rfl))))

def x7_subscriberIs (W : rb_I) (cn : Nat → Nat) (s : Int32) (what : Int32) : rb_U := (if m_in s 0 (nI (cn 1) - 1) = 0 then (1, (0 : Int32), W) else (if what = 0 then (0, (W (9, s.toNatClampNeg, 0) 4), W) else (if what = 1 then (0, (W (9, s.toNatClampNeg, 0) 3), W) else (if what = 2 then (0, (W (9, s.toNatClampNeg, 0) 6), W) else (if what = 3 then (0, (W (9, s.toNatClampNeg, 0) 9), W) else (if what = 4 then (0, (W (9, s.toNatClampNeg, 0) 10), W) else (if what = 5 then (if (x6_isWarned W s.toNatClampNeg) = 0 then (0, 0, W) else (0, 1, W)) else (if what = 6 then (0, (W (9, s.toNatClampNeg, 0) 7), W) else (2, (0 : Int32), W)))))))))
set_option maxRecDepth 100000 in
set_option maxHeartbeats 4000000 in
theorem k_X7_subscriberIs (l : Launch) (X : rb_X) (G : rb_G) (W : rb_I) (cn : Nat → Nat) (ag : Nat → Nat → Int32) (hG : xCS G cn ag) (s : Int32) (what : Int32) (hI : xCI W cn) : rb_M l X yX7_subscriberIs (.code yX7_subscriberIs cX7_subscriberIs 4 (some .int)) 7 111 12 72 [rbR (0, 0, 0), rbI s, rbI what] (wI G W) (fun v9 G9 => (x7_subscriberIs W cn s what).1 = 0 ∧ v9 = some (rbI (x7_subscriberIs W cn s what).2.1) ∧ G9 = wI G (x7_subscriberIs W cn s what).2.2) (fun e9 G9 => (x7_subscriberIs W cn s what).1 = xc e9 ∧ G9 = wI G (x7_subscriberIs W cn s what).2.2) := by
  have hc0 : cn 0 ≤ 30 := hI.2.2.2.2.2.2.2.2.1
  have hc1 : cn 1 ≤ 10 := hI.2.2.2.2.2.2.2.2.2.1
  have hc2 : cn 2 ≤ 200 := hI.2.2.2.2.2.2.2.2.2.2.1
  refine rb_startM RX7 rfl (by decide +kernel) rfl (Nat.le_of_ble_eq_true rfl) ?_
  intro Φ C E EX
  show rb_W Φ 0 0 0 [some (rbR (0, 0, 0)), some (rbI s), some (rbI what), none] [] (wI G W)
  refine rb_aload_n C dX7_subscriberIs_0 rfl ?_
  refine rb_iload_n C dX7_subscriberIs_1 rfl ?_
  refine rb_callV C M_X7_135 (fun l X => k_X7_subscriberAt l X G W cn ag hG s ((hI.1 1 (by decide))) hc1) rfl (Nat.le_of_ble_eq_true rfl) rfl dX7_subscriberIs_2 rfl rfl rfl (Nat.le_of_ble_eq_true rfl) ⟨(Nat.le_of_ble_eq_true rfl), (Nat.le_of_ble_eq_true rfl)⟩ (Nat.le_of_ble_eq_true rfl) (Nat.le_of_ble_eq_true rfl) (fun v G' hp => ?_) (fun e9 G' hp => by obtain ⟨rfl, h2, e8⟩ := hp; rw [e8]; exact rb_out C EX (Nat.le_of_ble_eq_true rfl) (Nat.le_of_ble_eq_true rfl) (px_1 ((if_pos h2).trans (rfl))))
  obtain ⟨h2, rfl, e9⟩ := hp
  rw [e9]
  clear e9 G'
  refine rb_astore_n C dX7_subscriberIs_5 (Nat.le_of_ble_eq_true rfl) rfl (Lv' := [_, _, _, _]) rfl ?_
  refine rb_iload_n C dX7_subscriberIs_6 rfl ?_
  rcases Classical.em (what = 0) with q7_0 | q7_0
  · refine rb_tableIn C 48 dX7_subscriberIs_7 (by rw [q7_0]; decide) (by rw [q7_0]; decide) (off := 41) (by rw [q7_0]; rfl) (by decide) ?_
    refine rb_aload_n C dX7_subscriberIs_48 rfl ?_
    refine rw_getI C FR_X7_142 dX7_subscriberIs_49 rfl (x := (W (9, s.toNatClampNeg, 0) 4)) (rfl) ?_
    exact rb_iret C E dX7_subscriberIs_52 (Nat.le_of_ble_eq_true rfl) (Nat.le_of_ble_eq_true rfl) (pt_ ((if_neg h2).trans ((if_pos q7_0).trans (rfl))))
  rcases Classical.em (what = 1) with q7_1 | q7_1
  · refine rb_tableIn C 53 dX7_subscriberIs_7 (by rw [q7_1]; decide) (by rw [q7_1]; decide) (off := 46) (by rw [q7_1]; rfl) (by decide) ?_
    refine rb_aload_n C dX7_subscriberIs_53 rfl ?_
    refine rw_getI C FR_X7_58 dX7_subscriberIs_54 rfl (x := (W (9, s.toNatClampNeg, 0) 3)) (rfl) ?_
    exact rb_iret C E dX7_subscriberIs_57 (Nat.le_of_ble_eq_true rfl) (Nat.le_of_ble_eq_true rfl) (pt_ ((if_neg h2).trans ((if_neg q7_0).trans ((if_pos q7_1).trans (rfl)))))
  rcases Classical.em (what = 2) with q7_2 | q7_2
  · refine rb_tableIn C 58 dX7_subscriberIs_7 (by rw [q7_2]; decide) (by rw [q7_2]; decide) (off := 51) (by rw [q7_2]; rfl) (by decide) ?_
    refine rb_aload_n C dX7_subscriberIs_58 rfl ?_
    refine rw_getI C FR_X7_139 dX7_subscriberIs_59 rfl (x := (W (9, s.toNatClampNeg, 0) 6)) (rfl) ?_
    exact rb_iret C E dX7_subscriberIs_62 (Nat.le_of_ble_eq_true rfl) (Nat.le_of_ble_eq_true rfl) (pt_ ((if_neg h2).trans ((if_neg q7_0).trans ((if_neg q7_1).trans ((if_pos q7_2).trans (rfl))))))
  rcases Classical.em (what = 3) with q7_3 | q7_3
  · refine rb_tableIn C 63 dX7_subscriberIs_7 (by rw [q7_3]; decide) (by rw [q7_3]; decide) (off := 56) (by rw [q7_3]; rfl) (by decide) ?_
    refine rb_aload_n C dX7_subscriberIs_63 rfl ?_
    refine rw_getI C FR_X7_181 dX7_subscriberIs_64 rfl (x := (W (9, s.toNatClampNeg, 0) 9)) (rfl) ?_
    exact rb_iret C E dX7_subscriberIs_67 (Nat.le_of_ble_eq_true rfl) (Nat.le_of_ble_eq_true rfl) (pt_ ((if_neg h2).trans ((if_neg q7_0).trans ((if_neg q7_1).trans ((if_neg q7_2).trans ((if_pos q7_3).trans (rfl)))))))
  rcases Classical.em (what = 4) with q7_4 | q7_4
  · refine rb_tableIn C 68 dX7_subscriberIs_7 (by rw [q7_4]; decide) (by rw [q7_4]; decide) (off := 61) (by rw [q7_4]; rfl) (by decide) ?_
    refine rb_aload_n C dX7_subscriberIs_68 rfl ?_
    refine rw_getI C FR_X7_184 dX7_subscriberIs_69 rfl (x := (W (9, s.toNatClampNeg, 0) 10)) (rfl) ?_
    exact rb_iret C E dX7_subscriberIs_72 (Nat.le_of_ble_eq_true rfl) (Nat.le_of_ble_eq_true rfl) (pt_ ((if_neg h2).trans ((if_neg q7_0).trans ((if_neg q7_1).trans ((if_neg q7_2).trans ((if_neg q7_3).trans ((if_pos q7_4).trans (rfl))))))))
  rcases Classical.em (what = 5) with q7_5 | q7_5
  · refine rb_tableIn C 73 dX7_subscriberIs_7 (by rw [q7_5]; decide) (by rw [q7_5]; decide) (off := 66) (by rw [q7_5]; rfl) (by decide) ?_
    refine rb_aload_n C dX7_subscriberIs_73 rfl ?_
    refine rb_callV C M_X7_187 (fun l X => (k_X6_isWarned l X G W s.toNatClampNeg).m) rfl (Nat.le_of_ble_eq_true rfl) rfl dX7_subscriberIs_74 rfl rfl rfl (Nat.le_of_ble_eq_true rfl) ⟨(Nat.le_of_ble_eq_true rfl), (Nat.le_of_ble_eq_true rfl)⟩ (Nat.le_of_ble_eq_true rfl) (Nat.le_of_ble_eq_true rfl) (fun v G' hp => ?_) (fun _ _ hp => hp.elim)
    obtain ⟨rfl, e9⟩ := hp
    rw [e9]
    clear e9 G'
    refine rb_if_eq C 84 dX7_subscriberIs_77 (by decide) (fun h77 => ?_) (fun h77 => ?_)
    · refine rb_iconst C dX7_subscriberIs_84 (v := 0) (by decide) ?_
      exact rb_iret C E dX7_subscriberIs_85 (Nat.le_of_ble_eq_true rfl) (Nat.le_of_ble_eq_true rfl) (pt_ ((if_neg h2).trans ((if_neg q7_0).trans ((if_neg q7_1).trans ((if_neg q7_2).trans ((if_neg q7_3).trans ((if_neg q7_4).trans ((if_pos q7_5).trans ((if_pos h77).trans (rfl))))))))))
    · refine rb_iconst C dX7_subscriberIs_80 (v := 1) (by decide) ?_
      refine rb_goto C 85 dX7_subscriberIs_81 (by decide) ?_
      exact rb_iret C E dX7_subscriberIs_85 (Nat.le_of_ble_eq_true rfl) (Nat.le_of_ble_eq_true rfl) (pt_ ((if_neg h2).trans ((if_neg q7_0).trans ((if_neg q7_1).trans ((if_neg q7_2).trans ((if_neg q7_3).trans ((if_neg q7_4).trans ((if_pos q7_5).trans ((if_neg h77).trans (rfl))))))))))
  rcases Classical.em (what = 6) with q7_6 | q7_6
  · refine rb_tableIn C 86 dX7_subscriberIs_7 (by rw [q7_6]; decide) (by rw [q7_6]; decide) (off := 79) (by rw [q7_6]; rfl) (by decide) ?_
    refine rb_aload_n C dX7_subscriberIs_86 rfl ?_
    refine rw_getI C FR_X7_191 dX7_subscriberIs_87 rfl (x := (W (9, s.toNatClampNeg, 0) 7)) (rfl) ?_
    exact rb_iret C E dX7_subscriberIs_90 (Nat.le_of_ble_eq_true rfl) (Nat.le_of_ble_eq_true rfl) (pt_ ((if_neg h2).trans ((if_neg q7_0).trans ((if_neg q7_1).trans ((if_neg q7_2).trans ((if_neg q7_3).trans ((if_neg q7_4).trans ((if_neg q7_5).trans ((if_pos q7_6).trans (rfl))))))))))
  refine rb_tableOut C 91 dX7_subscriberIs_7 (tw_out6 q7_0 q7_1 q7_2 q7_3 q7_4 q7_5 q7_6) (by decide) ?_
  exact rb_throw C EX Thr_ia (text := "what is out of range") (by decide +kernel) dX7_subscriberIs_91 dX7_subscriberIs_94 dX7_subscriberIs_95 dX7_subscriberIs_97 dX7_subscriberIs_100 rfl (Nat.le_of_ble_eq_true rfl) (Nat.le_of_ble_eq_true rfl) (Nat.le_of_ble_eq_true rfl) (Nat.le_of_ble_eq_true rfl) (px_2 ((if_neg h2).trans ((if_neg q7_0).trans ((if_neg q7_1).trans ((if_neg q7_2).trans ((if_neg q7_3).trans ((if_neg q7_4).trans ((if_neg q7_5).trans ((if_neg q7_6).trans (rfl))))))))))

def x7_attach (W : rb_I) (cn : Nat → Nat) (s : Int32) (n : Int32) : rb_U := (if m_in s 0 (nI (cn 1) - 1) = 0 then (1, (0 : Int32), W) else (if m_isNetwork n = 0 then (1, (0 : Int32), W) else (if (W (9, s.toNatClampNeg, 0) 4) = n then (3, (0 : Int32), W) else (if (x7_whyNotUsable W cn s.toNatClampNeg n) = 0 then (if (x7_isSteered W cn s.toNatClampNeg n) = 0 then (0, 0, (x7_makeContact (up2 (up2 W (9, s.toNatClampNeg, 0) 4 n) (9, s.toNatClampNeg, 0) 6 0) s.toNatClampNeg (W (0, 0, 0) 6))) else (0, 5, (up2 W (9, s.toNatClampNeg, 0) 6 ((W (9, s.toNatClampNeg, 0) 6) + 1)))) else (0, (x7_whyNotUsable W cn s.toNatClampNeg n), W)))))
set_option maxRecDepth 100000 in
set_option maxHeartbeats 4000000 in
theorem k_X7_attach (l : Launch) (X : rb_X) (G : rb_G) (W : rb_I) (cn : Nat → Nat) (ag : Nat → Nat → Int32) (hG : xCS G cn ag) (s : Int32) (n : Int32) (hI : xCI W cn) : rb_M l X yX7_attach (.code yX7_attach cX7_attach 5 (some .int)) 7 145 12 72 [rbR (0, 0, 0), rbI s, rbI n] (wI G W) (fun v9 G9 => (x7_attach W cn s n).1 = 0 ∧ v9 = some (rbI (x7_attach W cn s n).2.1) ∧ G9 = wI G (x7_attach W cn s n).2.2) (fun e9 G9 => (x7_attach W cn s n).1 = xc e9 ∧ G9 = wI G (x7_attach W cn s n).2.2) := by
  have hc0 : cn 0 ≤ 30 := hI.2.2.2.2.2.2.2.2.1
  have hc1 : cn 1 ≤ 10 := hI.2.2.2.2.2.2.2.2.2.1
  have hc2 : cn 2 ≤ 200 := hI.2.2.2.2.2.2.2.2.2.2.1
  refine rb_startM RX7 rfl (by decide +kernel) rfl (Nat.le_of_ble_eq_true rfl) ?_
  intro Φ C E EX
  show rb_W Φ 0 0 0 [some (rbR (0, 0, 0)), some (rbI s), some (rbI n), none, none] [] (wI G W)
  refine rb_aload_n C dX7_attach_0 rfl ?_
  refine rb_iload_n C dX7_attach_1 rfl ?_
  refine rb_callV C M_X7_135 (fun l X => k_X7_subscriberAt l X G W cn ag hG s ((hI.1 1 (by decide))) hc1) rfl (Nat.le_of_ble_eq_true rfl) rfl dX7_attach_2 rfl rfl rfl (Nat.le_of_ble_eq_true rfl) ⟨(Nat.le_of_ble_eq_true rfl), (Nat.le_of_ble_eq_true rfl)⟩ (Nat.le_of_ble_eq_true rfl) (Nat.le_of_ble_eq_true rfl) (fun v G' hp => ?_) (fun e9 G' hp => by obtain ⟨rfl, h2, e8⟩ := hp; rw [e8]; exact rb_out C EX (Nat.le_of_ble_eq_true rfl) (Nat.le_of_ble_eq_true rfl) (px_1 ((if_pos h2).trans (rfl))))
  obtain ⟨h2, rfl, e9⟩ := hp
  rw [e9]
  clear e9 G'
  refine rb_astore_n C dX7_attach_5 (Nat.le_of_ble_eq_true rfl) rfl (Lv' := [_, _, _, _, _]) rfl ?_
  refine rb_aload_n C dX7_attach_6 rfl ?_
  refine rb_iload_n C dX7_attach_7 rfl ?_
  refine rb_callV C M_X7_87 (fun l X => k_X7_requireNetwork l X G W cn ag hG n) rfl (Nat.le_of_ble_eq_true rfl) rfl dX7_attach_8 rfl rfl rfl (Nat.le_of_ble_eq_true rfl) ⟨(Nat.le_of_ble_eq_true rfl), (Nat.le_of_ble_eq_true rfl)⟩ (Nat.le_of_ble_eq_true rfl) (Nat.le_of_ble_eq_true rfl) (fun v G' hp => ?_) (fun e9 G' hp => by obtain ⟨rfl, h8, e8⟩ := hp; rw [e8]; exact rb_out C EX (Nat.le_of_ble_eq_true rfl) (Nat.le_of_ble_eq_true rfl) (px_1 ((if_neg h2).trans ((if_pos h8).trans (rfl)))))
  obtain ⟨h8, rfl, e9⟩ := hp
  rw [e9]
  clear e9 G'
  refine rb_aload_n C dX7_attach_11 rfl ?_
  refine rw_getI C FR_X7_142 dX7_attach_12 rfl (x := (W (9, s.toNatClampNeg, 0) 4)) (rfl) ?_
  refine rb_iload_n C dX7_attach_15 rfl ?_
  refine rb_icmp_ne C 29 dX7_attach_16 (by decide) (fun h16 => ?_) (fun h16 => ?_)
  · refine rb_aload_n C dX7_attach_29 rfl ?_
    refine rb_aload_n C dX7_attach_30 rfl ?_
    refine rb_iload_n C dX7_attach_31 rfl ?_
    refine rb_callV C M_X7_152 (fun l X => (k_X7_whyNotUsable l X G W cn ag hG s.toNatClampNeg n hI (isNetwork_in h8)).m) rfl (Nat.le_of_ble_eq_true rfl) rfl dX7_attach_32 rfl rfl rfl (Nat.le_of_ble_eq_true rfl) ⟨(Nat.le_of_ble_eq_true rfl), (Nat.le_of_ble_eq_true rfl)⟩ (Nat.le_of_ble_eq_true rfl) (Nat.le_of_ble_eq_true rfl) (fun v G' hp => ?_) (fun _ _ hp => hp.elim)
    obtain ⟨rfl, e9⟩ := hp
    rw [e9]
    clear e9 G'
    refine rb_istore C dX7_attach_35 (Nat.le_of_ble_eq_true rfl) rfl (Lv' := [_, _, _, _, _]) rfl ?_
    refine rb_iload C dX7_attach_37 rfl ?_
    refine rb_if_eq C 45 dX7_attach_39 (by decide) (fun h39 => ?_) (fun h39 => ?_)
    · refine rb_aload_n C dX7_attach_45 rfl ?_
      refine rb_aload_n C dX7_attach_46 rfl ?_
      refine rb_iload_n C dX7_attach_47 rfl ?_
      refine rb_callV C M_X7_156 (fun l X => (k_X7_isSteered l X G W cn ag hG s.toNatClampNeg n hI (isNetwork_in h8)).m) rfl (Nat.le_of_ble_eq_true rfl) rfl dX7_attach_48 rfl rfl rfl (Nat.le_of_ble_eq_true rfl) ⟨(Nat.le_of_ble_eq_true rfl), (Nat.le_of_ble_eq_true rfl)⟩ (Nat.le_of_ble_eq_true rfl) (Nat.le_of_ble_eq_true rfl) (fun v G' hp => ?_) (fun _ _ hp => hp.elim)
      obtain ⟨rfl, e9⟩ := hp
      rw [e9]
      clear e9 G'
      refine rb_if_eq C 66 dX7_attach_51 (by decide) (fun h51 => ?_) (fun h51 => ?_)
      · refine rb_aload_n C dX7_attach_66 rfl ?_
        refine rb_iload_n C dX7_attach_67 rfl ?_
        refine rw_putI C F_X7_142 dX7_attach_68 rfl ⟨rfl, rfl⟩ ?_
        refine rb_aload_n C dX7_attach_71 rfl ?_
        refine rb_iconst C dX7_attach_72 (v := 0) (by decide) ?_
        refine rw_putI C F_X7_139 dX7_attach_73 rfl ⟨rfl, rfl⟩ ?_
        refine rb_aload_n C dX7_attach_76 rfl ?_
        refine rb_aload_n C dX7_attach_77 rfl ?_
        refine rb_aload_n C dX7_attach_78 rfl ?_
        refine rw_getI C FR_X7_160 dX7_attach_79 rfl (x := (W (0, 0, 0) 6)) ((up2_n _ _ _ _ (fun q => absurd (congrArg Prod.fst q.1) (show ¬ ((0 : Nat) = 9) by decide))).trans ((up2_n _ _ _ _ (fun q => absurd (congrArg Prod.fst q.1) (show ¬ ((0 : Nat) = 9) by decide))).trans (rfl))) ?_
        refine rb_callV C M_X7_163 (fun l X => (k_X7_makeContact l X G (up2 (up2 W (9, s.toNatClampNeg, 0) 4 n) (9, s.toNatClampNeg, 0) 6 0) cn ag hG s.toNatClampNeg (W (0, 0, 0) 6) (ci_st (ci_att (Or.inr (isNetwork_in h8)) hI)) (by rw [up2_n _ _ _ _ (fun q => absurd q.2 (by decide)), up2_s]; exact in_ne (isNetwork_in h8))).m) rfl (Nat.le_of_ble_eq_true rfl) rfl dX7_attach_82 rfl rfl rfl (Nat.le_of_ble_eq_true rfl) ⟨(Nat.le_of_ble_eq_true rfl), (Nat.le_of_ble_eq_true rfl)⟩ (Nat.le_of_ble_eq_true rfl) (Nat.le_of_ble_eq_true rfl) (fun v G' hp => ?_) (fun _ _ hp => hp.elim)
        obtain ⟨rfl, e9⟩ := hp
        rw [e9]
        clear e9 G'
        refine rb_iconst C dX7_attach_85 (v := 0) (by decide) ?_
        exact rb_iret C E dX7_attach_86 (Nat.le_of_ble_eq_true rfl) (Nat.le_of_ble_eq_true rfl) (pt_ ((if_neg h2).trans ((if_neg h8).trans ((if_neg h16).trans ((if_pos h39).trans ((if_pos h51).trans (rfl)))))))
      · refine rb_aload_n C dX7_attach_54 rfl ?_
        refine rb_dup C dX7_attach_55 rfl ?_
        refine rw_getI C FR_X7_139 dX7_attach_56 rfl (x := (W (9, s.toNatClampNeg, 0) 6)) (rfl) ?_
        refine rb_iconst C dX7_attach_59 (v := 1) (by decide) ?_
        refine rb_iadd C dX7_attach_60 ?_
        refine rw_putI C F_X7_139 dX7_attach_61 rfl ⟨rfl, rfl⟩ ?_
        refine rb_iconst C dX7_attach_64 (v := 5) (by decide) ?_
        exact rb_iret C E dX7_attach_65 (Nat.le_of_ble_eq_true rfl) (Nat.le_of_ble_eq_true rfl) (pt_ ((if_neg h2).trans ((if_neg h8).trans ((if_neg h16).trans ((if_pos h39).trans ((if_neg h51).trans (rfl)))))))
    · refine rb_iload C dX7_attach_42 rfl ?_
      exact rb_iret C E dX7_attach_44 (Nat.le_of_ble_eq_true rfl) (Nat.le_of_ble_eq_true rfl) (pt_ ((if_neg h2).trans ((if_neg h8).trans ((if_neg h16).trans ((if_neg h39).trans (rfl))))))
  · exact rb_throw C EX Thr_is (text := "it is attached to that network") (by decide +kernel) dX7_attach_19 dX7_attach_22 dX7_attach_23 dX7_attach_25 dX7_attach_28 rfl (Nat.le_of_ble_eq_true rfl) (Nat.le_of_ble_eq_true rfl) (Nat.le_of_ble_eq_true rfl) (Nat.le_of_ble_eq_true rfl) (px_3 ((if_neg h2).trans ((if_neg h8).trans ((if_pos h16).trans (rfl)))))

