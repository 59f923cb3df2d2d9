/-- what the rest of sx needs -/
def fq (C M C' M' : rb_I) : Prop := (∀ b c q, C' (11, b, c) q = C (11, b, c) q) ∧ (∀ q, M' (14, 24, 0) q = M (14, 24, 0) q) ∧ M' (16, 0, 0) 28 = M (16, 0, 0) 28 ∧ M' (16, 0, 0) 0 = 0
theorem okk {C M C' M' : rb_I} {cn : Nat → Nat} {ag : Nat → Nat → Int32} {t R : Nat} (h : sx C M cn ag t R) (h1 : sx_1 C' M' cn ag t t R (fun _ => 59400 * cn 2)) (hf : fq C M C' M') (q : Nat → Int32) (x y : Int32) (hq : q 0 = 0) (hx : x = y) : okc q (0, x, C') y M' cn ag :=
  ⟨hf.2.2.2.trans hq.symm, fun _ => hx, t, R, h1, hf.2.2.1.trans h.2.1, h.2.2.1, sx_P_c h.2.2.2 rfl hf.1 hf.2.1⟩
theorem okv {C M : rb_I} {cn : Nat → Nat} {ag : Nat → Nat → Int32} {t R : Nat} (h : sx C M cn ag t R) (q : Nat → Int32) (a : rb_U) (y : Int32) (hq : q 0 = 0) (h1 : a.1 = 0) (hx : a.2.1 = y) (hw : a.2.2 = C) : okc q a y (up2 M (16, 0, 0) 0 0) cn ag := by
  obtain ⟨a, b, c⟩ := a
  subst h1
  subst hw
  exact ok_0 h q b y hq hx
theorem s_where {C M : rb_I} {cn : Nat → Nat} {ag : Nat → Nat → Int32} {t R : Nat} (h : sx C M cn ag t R) (s : Int32) : okc sq_3 (x7_where C cn s) (m_where M s).1 (m_where M s).2 cn ag := by
  have h9 := h
  obtain ⟨⟨c0, m0, hT, hC, hR, hN, hA, hS, hZ, hM, hB, hK⟩, k28, hR2, hP⟩ := h
  unfold x7_where m_where m_isSubscriber
  rw [hC.2.1]
  by_cases e1 : m_in s 0 (nI (cn 1) - 1) = 0
  · simp only [if_pos e1]
    exact ok_thr h9 _ _ _ _ _ sq_31 (by decide)
  simp only [if_neg e1]
  have hs := sub_of c0 e1
  obtain ⟨a1, a2, a3, a4, a5, a6, a7, a8, a9, a10⟩ := hS _ (vp_in_lt hs)
  exact ok_0 h9 _ _ _ sq_30 a5
theorem s_off {C M : rb_I} {cn : Nat → Nat} {ag : Nat → Nat → Int32} {t R : Nat} (h : sx C M cn ag t R) (s : Int32) : okc sq_3 (x7_off C cn s) (m_off M s).1 (m_off M s).2 cn ag := by
  have h9 := h
  obtain ⟨⟨c0, m0, hT, hC, hR, hN, hA, hS, hZ, hM, hB, hK⟩, k28, hR2, hP⟩ := h
  unfold x7_off m_off m_isSubscriber
  rw [hC.2.1]
  by_cases e1 : m_in s 0 (nI (cn 1) - 1) = 0
  · simp only [if_pos e1]
    exact ok_thr h9 _ _ _ _ _ sq_31 (by decide)
  simp only [if_neg e1]
  have hs := sub_of c0 e1
  obtain ⟨a1, a2, a3, a4, a5, a6, a7, a8, a9, a10⟩ := hS _ (vp_in_lt hs)
  exact okk h9 (u_att (sx_1_thr h9.1 0) at6_m1) ⟨fun b c q => by simp [up2], fun q => by simp [up2], by simp [up2], by simp [up2]⟩ _ _ _ sq_30 a4
theorem s_paidAnew {C M : rb_I} {cn : Nat → Nat} {ag : Nat → Nat → Int32} {t R : Nat} (h : sx C M cn ag t R) (s : Int32) : okc sq_3 (x7_paidAnew C cn s) (m_paidAnew M s).1 (m_paidAnew M s).2 cn ag := by
  have h9 := h
  obtain ⟨⟨c0, m0, hT, hC, hR, hN, hA, hS, hZ, hM, hB, hK⟩, k28, hR2, hP⟩ := h
  unfold x7_paidAnew m_paidAnew m_isSubscriber
  rw [hC.2.1]
  by_cases e1 : m_in s 0 (nI (cn 1) - 1) = 0
  · simp only [if_pos e1]
    exact ok_thr h9 _ _ _ _ _ sq_31 (by decide)
  simp only [if_neg e1]
  have hs := sub_of c0 e1
  obtain ⟨a1, a2, a3, a4, a5, a6, a7, a8, a9, a10⟩ := hS _ (vp_in_lt hs)
  have e9 : C (9, s.toNatClampNeg, 0) 0 = nI s.toNatClampNeg := c0.2.2.2.2.2.2.1 _ (vp_in_lt hs)
  have hk := hP _ (Nat.lt_of_lt_of_le (vp_in_lt hs) c0.2.2.2.2.2.2.2.2.2.1)
  refine ok_0 h9 _ _ _ sq_30 ?_
  rw [hk, ← e9]
  rfl
theorem s_cap {C M : rb_I} {cn : Nat → Nat} {ag : Nat → Nat → Int32} {t R : Nat} (h : sx C M cn ag t R) (s c co : Int32) (hco : co = 0 ∨ co = 1) : okc sq_3 (x7_cap C cn s c co) 0 (m_cap M s c co) cn ag := by
  have h9 := h
  obtain ⟨⟨c0, m0, hT, hC, hR, hN, hA, hS, hZ, hM, hB, hK⟩, k28, hR2, hP⟩ := h
  unfold x7_cap m_cap m_isSubscriber
  rw [hC.2.1]
  by_cases e1 : m_in s 0 (nI (cn 1) - 1) = 0
  · simp only [if_pos e1]
    exact ok_thr h9 _ _ _ _ _ sq_31 (by decide)
  simp only [if_neg e1]
  have hs := sub_of c0 e1
  obtain ⟨a1, a2, a3, a4, a5, a6, a7, a8, a9, a10⟩ := hS _ (vp_in_lt hs)
  by_cases e2 : m_in c (0 : Int32) (99999 : Int32) = 0
  · simp only [if_pos e2]
    exact ok_thr h9 _ _ _ _ _ sq_32 (by decide)
  simp only [if_neg e2]
  have hc : vp_in c 100000 := in_of (by decide) rfl e2
  exact okk h9 (u_con (u_cap (sx_1_thr h9.1 0) hc) (vp_in_lt hs)) ⟨fun b c q => by simp [up2], fun q => by simp [up2], by simp [up2], by simp [up2]⟩ _ _ _ sq_30 rfl
theorem s_lose {C M : rb_I} {cn : Nat → Nat} {ag : Nat → Nat → Int32} {t R : Nat} (h : sx C M cn ag t R) (n many : Int32) : okc sq_3 (x7_lose C cn n many) (m_lose M n many).1 (m_lose M n many).2 cn ag := by
  have h9 := h
  obtain ⟨⟨c0, m0, hT, hC, hR, hN, hA, hS, hZ, hM, hB, hK⟩, k28, hR2, hP⟩ := h
  unfold x7_lose m_lose
  by_cases e1 : m_isNetwork n = 0
  · simp only [if_pos e1]
    exact ok_thr h9 _ _ _ _ _ sq_31 (by decide)
  simp only [if_neg e1]
  have hn := isNetwork_in e1
  obtain ⟨a1, a2, a3, a4, a5, a6, a7, a8, a9, a10⟩ := hN _ (vp_in_lt hn)
  by_cases e2 : m_in many (0 : Int32) (9 : Int32) = 0
  · simp only [if_pos e2]
    exact ok_thr h9 _ _ _ _ _ sq_32 (by decide)
  simp only [if_neg e2]
  have hc : vp_in many 10 := in_of (by decide) rfl e2
  exact okk h9 (u_los (sx_1_thr h9.1 0) hc) ⟨fun b c q => by simp [up2], fun q => by simp [up2], by simp [up2], by simp [up2]⟩ _ _ _ sq_30 a6
theorem s_prices {C M : rb_I} {cn : Nat → Nat} {ag : Nat → Nat → Int32} {t R : Nat} (h : sx C M cn ag t R) (ho ah ab ca : Int32) : okc sq_3 (x7_prices C cn ho ah ab ca) 0 (m_prices M ho ah ab ca) cn ag := by
  have h9 := h
  obtain ⟨⟨c0, m0, hT, hC, hR, hN, hA, hS, hZ, hM, hB, hK⟩, k28, hR2, hP⟩ := h
  unfold x7_prices m_prices
  by_cases e1 : m_isNetwork ho = 0
  · simp only [if_pos e1]
    exact ok_thr h9 _ _ _ _ _ sq_31 (by decide)
  simp only [if_neg e1]
  have hn := isNetwork_in e1
  obtain ⟨a1, a2, a3, a4, a5, a6, a7, a8, a9, a10⟩ := hN _ (vp_in_lt hn)
  by_cases e2 : m_in ah (0 : Int32) (99 : Int32) = 0
  · simp only [if_pos e2]
    exact ok_thr h9 _ _ _ _ _ sq_32 (by decide)
  simp only [if_neg e2]
  by_cases e3 : m_in ab (0 : Int32) (99 : Int32) = 0
  · simp only [if_pos e3]
    exact ok_thr h9 _ _ _ _ _ sq_32 (by decide)
  simp only [if_neg e3]
  by_cases e4 : m_in ca (0 : Int32) (99 : Int32) = 0
  · simp only [if_pos e4]
    exact ok_thr h9 _ _ _ _ _ sq_32 (by decide)
  simp only [if_neg e4]
  exact okk h9 (u_pri (sx_1_thr h9.1 0) (in_of (by decide) rfl e2) (in_of (by decide) rfl e3) (in_of (by decide) rfl e4)) ⟨fun b c q => by simp [up2], fun q => by simp [up2], by simp [up2], by simp [up2]⟩ _ _ _ sq_30 rfl
theorem s_steer {C M : rb_I} {cn : Nat → Nat} {ag : Nat → Nat → Int32} {t R : Nat} (h : sx C M cn ag t R) (ho n : Int32) : okc sq_3 (x7_steer C cn ho n) (m_steer M ho n).1 (m_steer M ho n).2 cn ag := by
  have h9 := h
  obtain ⟨⟨c0, m0, hT, hC, hR, hN, hA, hS, hZ, hM, hB, hK⟩, k28, hR2, hP⟩ := h
  unfold x7_steer m_steer
  by_cases e1 : m_isNetwork ho = 0
  · simp only [if_pos e1]
    exact ok_thr h9 _ _ _ _ _ sq_31 (by decide)
  simp only [if_neg e1]
  have hn := isNetwork_in e1
  obtain ⟨a1, a2, a3, a4, a5, a6, a7, a8, a9, a10⟩ := hN _ (vp_in_lt hn)
  have fin : ∀ (hv : at6 n), okc sq_3 (0, C (5, ho.toNatClampNeg, 0) 2, up2 C (5, ho.toNatClampNeg, 0) 2 n) (M (14, 4, 0) ho.toNatClampNeg) (up2 (up2 M (16, 0, 0) 0 0) (14, 4, 0) ho.toNatClampNeg n) cn ag := fun hv =>
    okk h9 (u_fav (sx_1_thr h9.1 0) hv) ⟨fun b c q => by simp [up2], fun q => by simp [up2], by simp [up2], by simp [up2]⟩ _ _ _ sq_30 a2
  by_cases e2 : n = -1
  · simp only [if_pos e2]
    by_cases e3 : ho = n
    · simp only [if_pos e3, if_pos e3.symm]
      exact ok_thr h9 _ _ _ _ _ sq_32 (by decide)
    · simp only [if_neg e3, if_neg (fun q => e3 (Eq.symm q))]
      exact fin (Or.inl e2)
  · simp only [if_neg e2]
    by_cases e4 : m_isNetwork n = 0
    · simp only [if_pos e4]
      exact ok_thr h9 _ _ _ _ _ sq_31 (by decide)
    simp only [if_neg e4]
    by_cases e3 : ho = n
    · simp only [if_pos e3, if_pos e3.symm]
      exact ok_thr h9 _ _ _ _ _ sq_32 (by decide)
    · simp only [if_neg e3, if_neg (fun q => e3 (Eq.symm q))]
      exact fin (Or.inr (isNetwork_in e4))
theorem latest_eq {C M : rb_I} {cn : Nat → Nat} {ag : Nat → Nat → Int32} {tc t R : Nat} {bd : Nat → Nat} (h : sx_1 C M cn ag tc t R bd) {s : Int32} (hs : vp_in s (cn 1)) (n : Nat) : x2_latest C n (C (9, s.toNatClampNeg, 0) 0) = C (7, n, 0) s.toNatClampNeg := by
  obtain ⟨c0, m0, hT, hC, hR, hN, hA, hS, hZ, hM, hB, hK⟩ := h
  have e9 : C (9, s.toNatClampNeg, 0) 0 = nI s.toNatClampNeg := c0.2.2.2.2.2.2.1 _ (vp_in_lt hs)
  have h10 : s.toNatClampNeg < 10 := Nat.lt_of_lt_of_le (vp_in_lt hs) c0.2.2.2.2.2.2.2.2.2.1
  unfold x2_latest
  rw [e9, if_neg (isLine_ne (vp_in_nI h10 (by decide))), nI_clamp (by omega)]
theorem s_contact {C M : rb_I} {cn : Nat → Nat} {ag : Nat → Nat → Int32} {t R : Nat} (h : sx C M cn ag t R) (n s : Int32) : okc sq_3 (x7_contact C cn n s) (m_contact M n s).1 (m_contact M n s).2 cn ag := by
  have h9 := h
  obtain ⟨⟨c0, m0, hT, hC, hR, hN, hA, hS, hZ, hM, hB, hK⟩, k28, hR2, hP⟩ := h
  unfold x7_contact m_contact
  by_cases e1 : m_isNetwork n = 0
  · simp only [if_pos e1]
    exact ok_thr h9 _ _ _ _ _ sq_31 (by decide)
  simp only [if_neg e1]
  have hn := isNetwork_in e1
  obtain ⟨a1, a2, a3, a4, a5, a6, a7, a8, a9, a10⟩ := hN _ (vp_in_lt hn)
  unfold m_isSubscriber
  rw [hC.2.1]
  by_cases e2 : m_in s 0 (nI (cn 1) - 1) = 0
  · simp only [if_pos e2]
    exact ok_thr h9 _ _ _ _ _ sq_31 (by decide)
  simp only [if_neg e2]
  have hs := sub_of c0 e2
  refine ok_0 h9 _ _ _ sq_30 ?_
  rw [latest_eq h9.1 hs]
  exact (hB _ _ (vp_in_lt hn) (Nat.lt_of_lt_of_le (vp_in_lt hs) c0.2.2.2.2.2.2.2.2.2.1)).1
theorem s_move {C M : rb_I} {cn : Nat → Nat} {ag : Nat → Nat → Int32} {t R : Nat} (h : sx C M cn ag t R) (s p : Int32) : okc sq_3 (x7_move C cn s p) (m_move M s p).1 (m_move M s p).2 cn ag := by
  have h9 := h
  obtain ⟨⟨c0, m0, hT, hC, hR, hN, hA, hS, hZ, hM, hB, hK⟩, k28, hR2, hP⟩ := h
  unfold x7_move m_move m_isSubscriber
  rw [hC.2.1]
  by_cases e1 : m_in s 0 (nI (cn 1) - 1) = 0
  · simp only [if_pos e1]
    exact ok_thr h9 _ _ _ _ _ sq_31 (by decide)
  simp only [if_neg e1]
  have hs := sub_of c0 e1
  obtain ⟨a1, a2, a3, a4, a5, a6, a7, a8, a9, a10⟩ := hS _ (vp_in_lt hs)
  by_cases e2 : m_isPlace p = 0
  · simp only [if_pos e2]
    exact ok_thr h9 _ _ _ _ _ sq_31 (by decide)
  simp only [if_neg e2]
  have hp := isPlace_in e2
  have r0 := hR _ (vp_in_lt hp)
  have u1 : sx_1 (up2 (up2 C (9, s.toNatClampNeg, 0) 3 p) (9, s.toNatClampNeg, 0) 6 0) (up2 (up2 (up2 M (16, 0, 0) 0 0) (14, 17, 0) s.toNatClampNeg p) (14, 20, 0) s.toNatClampNeg 0) cn ag t t R (fun _ => 59400 * cn 2) := u_ste (u_plc (sx_1_thr h9.1 0) hp) (vp_in_lt hs)
  have r3 : up2 (up2 C (9, s.toNatClampNeg, 0) 3 p) (9, s.toNatClampNeg, 0) 6 0 (9, s.toNatClampNeg, 0) 4 = M (14, 19, 0) s.toNatClampNeg := by simp [up2, a4]
  have r4 : up2 (up2 C (9, s.toNatClampNeg, 0) 3 p) (9, s.toNatClampNeg, 0) 6 0 (9, s.toNatClampNeg, 0) 3 = p := by simp [up2]
  have r5 : up2 (up2 C (9, s.toNatClampNeg, 0) 3 p) (9, s.toNatClampNeg, 0) 6 0 (1, 0, 0) p.toNatClampNeg = M (14, 2, 0) p.toNatClampNeg := by simp [up2, r0]
  unfold x7_detachIfNotReceived
  rw [r3, r4, r5, isIn_eq]
  by_cases e3 : M (14, 19, 0) s.toNatClampNeg = -1
  · simp only [if_pos e3]
    exact okk h9 u1 ⟨fun b c q => by simp [up2], fun q => by simp [up2], by simp [up2], by simp [up2]⟩ _ _ _ sq_30 r3
  simp only [if_neg e3]
  by_cases e4 : m_isIn (M (14, 2, 0) p.toNatClampNeg) (M (14, 19, 0) s.toNatClampNeg) = 0
  · simp only [if_pos e4]
    exact okk h9 (u_att u1 at6_m1) ⟨fun b c q => by simp [up2], fun q => by simp [up2], by simp [up2], by simp [up2]⟩ _ _ _ sq_30 (up2_s _ _ _ _)
  simp only [if_neg e4]
  exact okk h9 u1 ⟨fun b c q => by simp [up2], fun q => by simp [up2], by simp [up2], by simp [up2]⟩ _ _ _ sq_30 r3
theorem abr_eq {C M : rb_I} {cn : Nat → Nat} {ag : Nat → Nat → Int32} {t R : Nat} {bd : Nat → Nat} (h : sx_1 C M cn ag t t R bd) {s : Int32} (hs : vp_in s (cn 1)) : ∃ a : Nat, C (9, s.toNatClampNeg, 0) 10 = nI a ∧ a ≤ bd s.toNatClampNeg ∧ m_abroadOf M s = nI a := by
  obtain ⟨c0, m0, hT, hC, hR, hN, hA, hS, hZ, hM, hB, hK⟩ := h
  obtain ⟨a, mo, b1, b2, b3, b4, b5, b6⟩ := hM _ (vp_in_lt hs)
  refine ⟨a, b1, b2, ?_⟩
  have ht : t / 43200 ≤ t := Nat.div_le_self _ _
  have h9 := hT.2.1
  unfold m_abroadOf
  rw [b3, hT.2.2.2, dv9 43200 rfl (by decide) (by decide) (by omega)]
  by_cases e : mo = t / 43200
  · rw [e, if_pos rfl, b5 e]
  · rw [if_neg (fun q => e ((nI_eq (by omega) (by omega)).mp q)), b6 e]
    rfl
theorem wrn_eq {C M : rb_I} {cn : Nat → Nat} {ag : Nat → Nat → Int32} {t R : Nat} {bd : Nat → Nat} (h : sx_1 C M cn ag t t R bd) {s : Int32} (hs : vp_in s (cn 1)) (hb : bd s.toNatClampNeg ≤ 20000000) : x6_isWarned C s.toNatClampNeg = (if 100 * m_abroadOf M s < 80 * M (14, 22, 0) s.toNatClampNeg then 0 else 1) := by
  obtain ⟨a, b1, b2, b3⟩ := abr_eq h hs
  obtain ⟨c0, m0, hT, hC, hR, hN, hA, hS, hZ, hM, hB, hK⟩ := h
  obtain ⟨a1, a2, a3, a4, a5, a6, a7, a8, a9, a10⟩ := hS _ (vp_in_lt hs)
  have hc := vp_in_e a10
  have hl := vp_in_lt a10
  unfold x6_isWarned
  rw [b3, ← a7, b1, hc]
  generalize (C (9, s.toNatClampNeg, 0) 7).toNatClampNeg = c at *
  rw [nI_l (by omega), nI_l (by omega), show (100 : Int64) = lN 100 from rfl, show (80 : Int64) = lN 80 from rfl, show (100 : Int32) = nI 100 from rfl, show (80 : Int32) = nI 80 from rfl, lN_mul, lN_mul, pk_mul, pk_mul]
  have hl2 := nI_ltI (a := 100 * a) (b := 80 * c) (by omega) (by omega)
  by_cases e : 100 * a < 80 * c
  · rw [if_pos (hl2.mpr e), if_pos]
    unfold lg_cmp
    have e1 : ¬ lN (a * 100) > lN (c * 80) := fun q => by
      have := (lN_lt (by omega) (by omega)).mp q
      omega
    have e2 : ¬ lN (a * 100) = lN (c * 80) := fun q => by
      have := (lN_eq (by omega) (by omega)).mp q
      omega
    rw [if_neg e1, if_neg e2]
    decide
  · rw [if_neg (fun q => e (hl2.mp q)), if_neg]
    unfold lg_cmp
    by_cases e1 : lN (a * 100) > lN (c * 80)
    · rw [if_pos e1]
      decide
    · rw [if_neg e1]
      have e2 : lN (a * 100) = lN (c * 80) := by
        have h1 : ¬ c * 80 < a * 100 := fun q => e1 ((lN_lt (by omega) (by omega)).mpr q)
        exact (lN_eq (by omega) (by omega)).mpr (by omega)
      rw [if_pos e2]
      decide
theorem s_subscriberIs {C M : rb_I} {cn : Nat → Nat} {ag : Nat → Nat → Int32} {t R : Nat} (h : sx C M cn ag t R) (s what : Int32) : okc sq_3 (x7_subscriberIs C cn s what) (m_subscriberIs M s what).1 (m_subscriberIs M s what).2 cn ag := by
  have h9 := h
  obtain ⟨⟨c0, m0, hT, hC, hR, hN, hA, hS, hZ, hM, hB, hK⟩, k28, hR2, hP⟩ := h
  unfold x7_subscriberIs m_subscriberIs m_isSubscriber
  rw [hC.2.1]
  by_cases e1 : m_in s 0 (nI (cn 1) - 1) = 0
  · simp only [if_pos e1]
    exact ok_thr h9 _ _ _ _ _ sq_31 (by decide)
  simp only [if_neg e1]
  have hs := sub_of c0 e1
  obtain ⟨a1, a2, a3, a4, a5, a6, a7, a8, a9, a10⟩ := hS _ (vp_in_lt hs)
  by_cases w0 : what = 0
  · have e2 : ¬ m_in what 0 6 = 0 := by rw [w0]; decide
    simp only [if_pos w0, if_neg e2]
    exact ok_0 h9 _ _ _ sq_30 a4
  by_cases w1 : what = 1
  · have e2 : ¬ m_in what 0 6 = 0 := by rw [w1]; decide
    simp only [if_neg w0, if_pos w1, if_neg e2]
    exact ok_0 h9 _ _ _ sq_30 a3
  by_cases w2 : what = 2
  · have e2 : ¬ m_in what 0 6 = 0 := by rw [w2]; decide
    simp only [if_neg w0, if_neg w1, if_pos w2, if_neg e2]
    exact ok_0 h9 _ _ _ sq_30 a6
  by_cases w3 : what = 3
  · have e2 : ¬ m_in what 0 6 = 0 := by rw [w3]; decide
    simp only [if_neg w0, if_neg w1, if_neg w2, if_pos w3, if_neg e2]
    exact ok_0 h9 _ _ _ sq_30 a9
  by_cases w4 : what = 4
  · have e2 : ¬ m_in what 0 6 = 0 := by rw [w4]; decide
    simp only [if_neg w0, if_neg w1, if_neg w2, if_neg w3, if_pos w4, if_neg e2]
    obtain ⟨a, b1, b2, b3⟩ := abr_eq (sx_1_thr h9.1 0) hs
    exact ok_0 h9 _ _ _ sq_30 (b1.trans b3.symm)
  by_cases w5 : what = 5
  · have e2 : ¬ m_in what 0 6 = 0 := by rw [w5]; decide
    simp only [if_neg w0, if_neg w1, if_neg w2, if_neg w3, if_neg w4, if_pos w5, if_neg e2]
    have hw := wrn_eq (sx_1_thr h9.1 0) hs (by have := c0.2.2.2.2.2.2.2.2.2.2.1; show 59400 * cn 2 ≤ 20000000; omega)
    rw [up2_n _ _ _ _ (by simp)] at hw
    rw [hw]
    by_cases e3 : 100 * m_abroadOf (up2 M (16, 0, 0) 0 0) s < 80 * M (14, 22, 0) s.toNatClampNeg
    · simp only [if_pos e3, if_true]
      exact ok_0 h9 _ _ _ sq_30 rfl
    · simp only [if_neg e3]
      rw [if_neg (by decide)]
      exact ok_0 h9 _ _ _ sq_30 rfl
  by_cases w6 : what = 6
  · have e2 : ¬ m_in what 0 6 = 0 := by rw [w6]; decide
    simp only [if_neg w0, if_neg w1, if_neg w2, if_neg w3, if_neg w4, if_neg w5, if_pos w6, if_neg e2]
    exact ok_0 h9 _ _ _ sq_30 a7
  have e2 : m_in what 0 6 = 0 := in_no (by
    rcases tw_out6 w0 w1 w2 w3 w4 w5 w6 with q | q
    · exact Or.inl (Int32.lt_iff_toInt_lt.mpr q)
    · exact Or.inr (Int32.lt_iff_toInt_lt.mpr q))
  simp only [if_neg w0, if_neg w1, if_neg w2, if_neg w3, if_neg w4, if_neg w5, if_neg w6, if_pos e2]
  exact ok_thr h9 _ _ _ _ _ sq_32 (by decide)
