theorem s_agree {C M : rb_I} {cn : Nat → Nat} {ag : Nat → Nat → Int32} {t R : Nat} (h : sx C M cn ag t R) (ho vi fr0 to0 pr th lw : Int32) : okc sq_3 (x7_agree C cn ho vi fr0 to0 pr th lw) (m_agree M ho vi fr0 to0 pr th lw).1 (m_agree M ho vi fr0 to0 pr th lw).2 (if (x7_agree C cn ho vi fr0 to0 pr th lw).1 = 0 then bump cn 0 else cn) ag := by
  have h9 := h
  obtain ⟨⟨c0, m0, hT, hC, hR, hN, hA, hS, hZ, hM, hB, hK⟩, k28, hR2, hP⟩ := h
  have hb30 := c0.2.2.2.2.2.2.2.2.1
  unfold x7_agree m_agree
  rw [hC.1]
  by_cases e1 : m_isNetwork ho = 0
  · simp only [if_pos e1, ite_self]
    exact ok_thr h9 _ _ _ _ _ sq_31 (by decide)
  simp only [if_neg e1]
  by_cases e2 : m_isNetwork vi = 0
  · simp only [if_pos e2, ite_self]
    exact ok_thr h9 _ _ _ _ _ sq_31 (by decide)
  simp only [if_neg e2]
  by_cases e3 : ho = vi
  · simp only [if_pos e3, ite_self]
    exact ok_thr h9 _ _ _ _ _ sq_32 (by decide)
  simp only [if_neg e3]
  by_cases e4 : m_in fr0 (0 : Int32) (999999 : Int32) = 0
  · simp only [if_pos e4, ite_self]
    exact ok_thr h9 _ _ _ _ _ sq_32 (by decide)
  simp only [if_neg e4]
  by_cases e5 : m_in to0 (fr0 + 1) (1000000 : Int32) = 0
  · simp only [if_pos e5, ite_self]
    exact ok_thr h9 _ _ _ _ _ sq_32 (by decide)
  simp only [if_neg e5]
  by_cases e6 : m_in pr (0 : Int32) (99 : Int32) = 0
  · simp only [if_pos e6, ite_self]
    exact ok_thr h9 _ _ _ _ _ sq_32 (by decide)
  simp only [if_neg e6]
  by_cases e7 : m_in th (0 : Int32) (9999 : Int32) = 0
  · simp only [if_pos e7, ite_self]
    exact ok_thr h9 _ _ _ _ _ sq_32 (by decide)
  simp only [if_neg e7]
  by_cases e8 : m_in lw (0 : Int32) pr = 0
  · simp only [if_pos e8, ite_self]
    exact ok_thr h9 _ _ _ _ _ sq_32 (by decide)
  simp only [if_neg e8]
  by_cases e9 : cn 0 = 30
  · rw [if_neg (show ¬ nI (cn 0) < 30 by rw [e9]; decide), if_pos (show nI (cn 0) = 30 by rw [e9]; rfl)]
    simp only []
    exact ok_thr h9 _ _ _ _ _ sq_33 (by decide)
  rw [if_pos (show nI (cn 0) < 30 from nI_lt (a := cn 0) (b := 30) (by omega) (by decide)), if_neg (show ¬ nI (cn 0) = 30 from fun q => e9 ((nI_eq (a := cn 0) (b := 30) (by omega) (by decide)).mp q))]
  simp only [if_true]
  rw [nI_clamp (show cn 0 < 2 ^ 31 by omega), nI_1]
  have hx9 : xCI (up2 (x1_init (zW C (10, cn 0, 0)) (cn 0) ho vi fr0 to0 pr th lw) (4, 0, 0) 2 (nI (cn 0 + 1))) (bump cn 0) := by
    obtain ⟨x1, x2, x3, x4, x5, x6, x7, x8, x9, x10, x11, x12⟩ := c0
    refine ⟨fun id hid => ?_, fun s => by simp [up2, x1_init, zW]; exact x2 s, fun s => by simp [up2, x1_init, zW]; exact x3 s, fun s => by simp [up2, x1_init, zW]; exact x4 s, fun s => by simp [up2, x1_init, zW]; exact x5 s, fun s => by simp [up2, x1_init, zW]; exact x6 s, fun s hs => by simp [up2, x1_init, zW]; exact x7 s hs, fun s => by simp [up2, x1_init, zW]; exact x8 s, by simp [bump]; omega, x10, x11, fun k hk => by rw [bump_n (by omega)]; exact x12 k hk⟩
    by_cases e : id = 0
    · subst e; simp [up2, bump]
    · have := x1 id hid
      simp [up2, bump, e, x1_init, zW]; exact this
  have hm9 : MI (up2 (up2 (up2 (up2 (up2 (up2 (up2 (up2 (up2 M (16, 0, 0) 0 0) (14, 8, 0) (cn 0) ho) (14, 9, 0) (cn 0) vi) (14, 10, 0) (cn 0) fr0) (14, 11, 0) (cn 0) to0) (14, 12, 0) (cn 0) pr) (14, 13, 0) (cn 0) th) (14, 14, 0) (cn 0) lw) (16, 0, 0) 7 (nI (cn 0 + 1))) := by
    obtain ⟨x1, x2, x3, x4, x5, x6, x7, x8, x9, x10, x11⟩ := m0
    refine ⟨fun s => by simp [up2]; exact x1 s, fun s => by simp [up2]; exact x2 s, fun s => by simp [up2]; exact x3 s, fun s => by simp [up2]; exact x4 s, fun s => by simp [up2]; exact x5 s, fun s => by simp [up2]; exact x6 s, ?_, by simp [up2]; exact x8, by simp [up2]; exact x9, by simp [up2]; exact x10, fun s => by simp [up2]; exact x11 s⟩
    simp [up2]
    exact vp_in_nI (by omega) (by decide)
  have hA9 : sx_A (up2 (x1_init (zW C (10, cn 0, 0)) (cn 0) ho vi fr0 to0 pr th lw) (4, 0, 0) 2 (nI (cn 0 + 1))) (up2 (up2 (up2 (up2 (up2 (up2 (up2 (up2 (up2 M (16, 0, 0) 0 0) (14, 8, 0) (cn 0) ho) (14, 9, 0) (cn 0) vi) (14, 10, 0) (cn 0) fr0) (14, 11, 0) (cn 0) to0) (14, 12, 0) (cn 0) pr) (14, 13, 0) (cn 0) th) (14, 14, 0) (cn 0) lw) (16, 0, 0) 7 (nI (cn 0 + 1))) (bump cn 0) := by
    intro j hj
    have hj9 : j < cn 0 + 1 := hj
    by_cases e : j = cn 0
    · simp [up2, x1_init, e]
    · obtain ⟨b1, b2, b3, b4, b5, b6, b7⟩ := hA j (by omega)
      simp [up2, x1_init, zW, e, b1, b2, b3, b4, b5, b6, b7]
  exact ⟨by simp [up2, sq_30], fun _ => rfl, t, R, ⟨⟨hx9, hm9, (sx_T_c hT (by simp [up2, x1_init, zW]) (by simp [up2, x1_init, zW])), ⟨by simp [up2, bump], by simp [up2, bump]; exact hC.2.1, by simp [up2]; exact hC.2.2⟩, (sx_R_c hR (fun q => by simp [up2, x1_init, zW]) (fun q => by simp [up2, x1_init, zW])), (sx_N_c hN (fun b c q => by simp [up2, x1_init, zW]) (fun q => by simp [up2, x1_init, zW]) (fun q => by simp [up2, x1_init, zW]) (fun q => by simp [up2, x1_init, zW]) (fun q => by simp [up2, x1_init, zW])), hA9, (sx_S_c hS rfl (fun b c q hq => by simp [up2, hq, x1_init, zW]) (fun q => by simp [up2, x1_init, zW]) (fun q => by simp [up2, x1_init, zW]) (fun q => by simp [up2, x1_init, zW]) (fun q => by simp [up2, x1_init, zW]) (fun q => by simp [up2, x1_init, zW]) (fun q => by simp [up2, x1_init, zW]) (fun q => by simp [up2, x1_init, zW]) (fun q => by simp [up2, x1_init, zW]) (fun q => by simp [up2, x1_init, zW])), (sx_Z_c hZ rfl (fun q => by simp [up2, x1_init, zW]) (fun q => by simp [up2, x1_init, zW]) (fun q => by simp [up2, x1_init, zW]) (fun q => by simp [up2, x1_init, zW]) (fun q => by simp [up2, x1_init, zW])), (sx_M_c hM rfl (fun _ => by simp [bump]) (fun b c => by simp [up2, x1_init, zW]) (fun q => by simp [up2, x1_init, zW]) (fun q => by simp [up2, x1_init, zW])), (sx_B_c hB (fun b c q => by simp [up2, x1_init, zW]) (fun q => by simp [up2, x1_init, zW])), (sx_K_c hK bump_ge (fun k => bump_n (by omega)) (fun b c q => by simp [up2, x1_init, zW]) (fun b c q => by simp [up2, x1_init, zW]) (fun q => by simp [up2, x1_init, zW]) (fun q => by simp [up2, x1_init, zW]) (fun q => by simp [up2, x1_init, zW]) (fun q => by simp [up2, x1_init, zW]) (fun q => by simp [up2, x1_init, zW]) (fun q => by simp [up2, x1_init, zW]) (fun q => by simp [up2, x1_init, zW]) (fun q => by simp [up2, x1_init, zW]) (fun q => by simp [up2, x1_init, zW]))⟩, (by simp [up2, bump]; exact k28), (by simp [bump]; exact hR2), (sx_P_c hP rfl (fun b c q => by simp [up2, x1_init, zW]) (fun q => by simp [up2, x1_init, zW]))⟩⟩
theorem s_subscriber {C M : rb_I} {cn : Nat → Nat} {ag : Nat → Nat → Int32} {t R : Nat} (h : sx C M cn ag t R) (ho pl fo0 : Int32) : okc sq_3 (x7_subscriber C cn ho pl fo0) (m_subscriber M ho pl fo0).1 (m_subscriber M ho pl fo0).2 (if (x7_subscriber C cn ho pl fo0).1 = 0 then bump cn 1 else cn) ag := by
  have h9 := h
  obtain ⟨⟨c0, m0, hT, hC, hR, hN, hA, hS, hZ, hM, hB, hK⟩, k28, hR2, hP⟩ := h
  have hb10 := c0.2.2.2.2.2.2.2.2.2.1
  unfold x7_subscriber m_subscriber
  rw [hC.2.1]
  by_cases e1 : m_isNetwork ho = 0
  · simp only [if_pos e1, ite_self]
    exact ok_thr h9 _ _ _ _ _ sq_31 (by decide)
  simp only [if_neg e1]
  by_cases e2 : m_isPlace pl = 0
  · simp only [if_pos e2, ite_self]
    exact ok_thr h9 _ _ _ _ _ sq_31 (by decide)
  simp only [if_neg e2]
  by_cases e3 : m_in fo0 (0 : Int32) (63 : Int32) = 0
  · simp only [if_pos e3, ite_self]
    exact ok_thr h9 _ _ _ _ _ sq_32 (by decide)
  simp only [if_neg e3]
  by_cases e9 : cn 1 = 10
  · rw [if_neg (show ¬ nI (cn 1) < 10 by rw [e9]; decide), if_pos (show nI (cn 1) = 10 by rw [e9]; rfl)]
    simp only []
    exact ok_thr h9 _ _ _ _ _ sq_33 (by decide)
  rw [if_pos (show nI (cn 1) < 10 from nI_lt (a := cn 1) (b := 10) (by omega) (by decide)), if_neg (show ¬ nI (cn 1) = 10 from fun q => e9 ((nI_eq (a := cn 1) (b := 10) (by omega) (by decide)).mp q))]
  simp only [if_true]
  rw [nI_clamp (show cn 1 < 2 ^ 31 by omega), nI_1, nI_pred]
  have hho := isNetwork_in e1
  have hpl := isPlace_in e2
  have hx9 : xCI (up2 (x6_init (zW C (9, cn 1, 0)) (cn 1) (nI (cn 1)) ho pl fo0) (4, 1, 0) 2 (nI (cn 1 + 1))) (bump cn 1) := by
    obtain ⟨x1, x2, x3, x4, x5, x6, x7, x8, x9, x10, x11, x12⟩ := c0
    refine ⟨fun id hid => ?_, fun s => ?_, fun s => ?_, fun s => ?_, fun s => ?_, fun s => by simp [up2, x6_init, zW]; exact x6 s, fun s hs => ?_, fun s => by simp [up2, x6_init, zW]; exact x8 s, by simp [bump]; omega, by simp [bump]; omega, x11, fun k hk => by rw [bump_n (by omega)]; exact x12 k hk⟩
    · by_cases e : id = 1
      · subst e; simp [up2, bump]
      · have := x1 id hid
        simp [up2, bump, e, x6_init, zW]; exact this
    · by_cases e : s = cn 1
      · simp [up2, x6_init, zW, e]; exact hho
      · simp [up2, x6_init, zW, e]; exact x2 s
    · by_cases e : s = cn 1
      · simp [up2, x6_init, zW, e]; exact hpl
      · simp [up2, x6_init, zW, e]; exact x3 s
    · by_cases e : s = cn 1
      · simp [up2, x6_init, zW, e]; exact at6_m1
      · simp [up2, x6_init, zW, e]; exact x4 s
    · by_cases e : s = cn 1
      · simp [up2, x6_init, zW, e]; exact at6_m1
      · simp [up2, x6_init, zW, e]; exact x5 s
    · have hs9 : s < cn 1 + 1 := hs
      by_cases e : s = cn 1
      · simp [up2, x6_init, zW, e]
      · simp [up2, x6_init, zW, e]; exact x7 s (by omega)
  have hm9 : MI (up2 (up2 (up2 (up2 (up2 (up2 (up2 (up2 M (16, 0, 0) 0 0) (14, 16, 0) (cn 1) ho) (14, 17, 0) (cn 1) pl) (14, 18, 0) (cn 1) fo0) (14, 19, 0) (cn 1) (-1)) (14, 21, 0) (cn 1) (-1)) (14, 22, 0) (cn 1) 5000) (16, 0, 0) 15 (nI (cn 1 + 1))) := by
    obtain ⟨x1, x2, x3, x4, x5, x6, x7, x8, x9, x10, x11⟩ := m0
    refine ⟨fun s => ?_, fun s => ?_, fun s => ?_, fun s => ?_, fun s => by simp [up2]; exact x5 s, fun s => by simp [up2]; exact x6 s, by simp [up2]; exact x7, ?_, by simp [up2]; exact x9, by simp [up2]; exact x10, fun s => by simp [up2]; exact x11 s⟩
    · by_cases e : s = cn 1
      · simp [up2, e]; exact hho
      · simp [up2, e]; exact x1 s
    · by_cases e : s = cn 1
      · simp [up2, e]; exact hpl
      · simp [up2, e]; exact x2 s
    · by_cases e : s = cn 1
      · simp [up2, e]; exact at6_m1
      · simp [up2, e]; exact x3 s
    · by_cases e : s = cn 1
      · simp [up2, e]; exact at6_m1
      · simp [up2, e]; exact x4 s
    · simp [up2]
      exact vp_in_nI (by omega) (by decide)
  obtain ⟨z1, z2, z3, z4, z5⟩ := hZ (cn 1) (Nat.le_refl _) (by omega)
  have hS9 : sx_S (up2 (x6_init (zW C (9, cn 1, 0)) (cn 1) (nI (cn 1)) ho pl fo0) (4, 1, 0) 2 (nI (cn 1 + 1))) (up2 (up2 (up2 (up2 (up2 (up2 (up2 (up2 M (16, 0, 0) 0 0) (14, 16, 0) (cn 1) ho) (14, 17, 0) (cn 1) pl) (14, 18, 0) (cn 1) fo0) (14, 19, 0) (cn 1) (-1)) (14, 21, 0) (cn 1) (-1)) (14, 22, 0) (cn 1) 5000) (16, 0, 0) 15 (nI (cn 1 + 1))) (bump cn 1) := by
    intro s hs
    have hs9 : s < cn 1 + 1 := hs
    by_cases e : s = cn 1
    · simp [up2, x6_init, zW, e, z1, z2, z3]
      exact vp_in_nI (n := 5000) (N := 100000) (by decide) (by decide)
    · obtain ⟨b1, b2, b3, b4, b5, b6, b7, b8, b9, b10⟩ := hS s (by omega)
      refine ⟨?_, ?_, ?_, ?_, ?_, ?_, ?_, ?_, ?_, by simp [up2, x6_init, zW, e]; exact b10⟩ <;> simp [up2, x6_init, zW, e, b1, b2, b3, b4, b5, b6, b7, b8, b9]
  have hZ9 : sx_Z (up2 (up2 (up2 (up2 (up2 (up2 (up2 (up2 M (16, 0, 0) 0 0) (14, 16, 0) (cn 1) ho) (14, 17, 0) (cn 1) pl) (14, 18, 0) (cn 1) fo0) (14, 19, 0) (cn 1) (-1)) (14, 21, 0) (cn 1) (-1)) (14, 22, 0) (cn 1) 5000) (16, 0, 0) 15 (nI (cn 1 + 1))) (bump cn 1) := by
    intro s h1 h2
    have h1' : cn 1 + 1 ≤ s := h1
    obtain ⟨b1, b2, b3, b4, b5⟩ := hZ s (by omega) h2
    simp [up2, b1, b2, b3, b4, b5]
  have hM9 : sx_M (up2 (x6_init (zW C (9, cn 1, 0)) (cn 1) (nI (cn 1)) ho pl fo0) (4, 1, 0) 2 (nI (cn 1 + 1))) (up2 (up2 (up2 (up2 (up2 (up2 (up2 (up2 M (16, 0, 0) 0 0) (14, 16, 0) (cn 1) ho) (14, 17, 0) (cn 1) pl) (14, 18, 0) (cn 1) fo0) (14, 19, 0) (cn 1) (-1)) (14, 21, 0) (cn 1) (-1)) (14, 22, 0) (cn 1) 5000) (16, 0, 0) 15 (nI (cn 1 + 1))) (bump cn 1) t (fun _ => 59400 * bump cn 1 2) := by
    intro s hs
    have hs9 : s < cn 1 + 1 := hs
    by_cases e : s = cn 1
    · refine ⟨0, 0, ?_, Nat.zero_le _, ?_, Nat.zero_le _, fun _ => ?_, fun _ => rfl⟩
      · simp [up2, x6_init, zW, e]; rfl
      · simp [up2, e, z4]; rfl
      · simp [up2, e, z5]; rfl
    · obtain ⟨a, mo, b1, b2, b3, b4, b5, b6⟩ := hM s (by omega)
      refine ⟨a, mo, ?_, b2, ?_, b4, fun q => ?_, b6⟩
      · simp [up2, x6_init, zW, e]; exact b1
      · simp [up2]; exact b3
      · simp [up2]; exact b5 q
  exact ⟨by simp [up2, sq_30], fun _ => rfl, t, R, ⟨⟨hx9, hm9, (sx_T_c hT (by simp [up2, x6_init, zW]) (by simp [up2, x6_init, zW])), ⟨by simp [up2, bump]; exact hC.1, by simp [up2, bump], by simp [up2]; exact hC.2.2⟩, (sx_R_c hR (fun q => by simp [up2, x6_init, zW]) (fun q => by simp [up2, x6_init, zW])), (sx_N_c hN (fun b c q => by simp [up2, x6_init, zW]) (fun q => by simp [up2, x6_init, zW]) (fun q => by simp [up2, x6_init, zW]) (fun q => by simp [up2, x6_init, zW]) (fun q => by simp [up2, x6_init, zW])), (sx_A_c hA rfl (fun b c q => by simp [up2, x6_init, zW]) (fun q => by simp [up2, x6_init, zW]) (fun q => by simp [up2, x6_init, zW]) (fun q => by simp [up2, x6_init, zW]) (fun q => by simp [up2, x6_init, zW]) (fun q => by simp [up2, x6_init, zW]) (fun q => by simp [up2, x6_init, zW]) (fun q => by simp [up2, x6_init, zW])), hS9, hZ9, hM9, (sx_B_c hB (fun b c q => by simp [up2, x6_init, zW]) (fun q => by simp [up2, x6_init, zW])), (sx_K_c hK bump_ge (fun k => bump_n (by omega)) (fun b c q => by simp [up2, x6_init, zW]) (fun b c q => by simp [up2, x6_init, zW]) (fun q => by simp [up2, x6_init, zW]) (fun q => by simp [up2, x6_init, zW]) (fun q => by simp [up2, x6_init, zW]) (fun q => by simp [up2, x6_init, zW]) (fun q => by simp [up2, x6_init, zW]) (fun q => by simp [up2, x6_init, zW]) (fun q => by simp [up2, x6_init, zW]) (fun q => by simp [up2, x6_init, zW]) (fun q => by simp [up2, x6_init, zW]))⟩, (by simp [up2, bump]; exact k28), (by simp [bump]; exact hR2), (sx_P_c hP rfl (fun b c q => by simp [up2, x6_init, zW]) (fun q => by simp [up2, x6_init, zW]))⟩⟩
