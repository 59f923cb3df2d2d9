theorem em_fix (M : rb_I) (u : Int32) {x : Int32} (hx : ¬ x = -1) : ∀ n i v, fo (m_emergency_b M u) i v = x → fo (m_emergency_b M u) (i + n) v = x := by
  intro n
  induction n with
  | zero => intro i v h; exact h
  | succ n ih =>
    intro i v h
    rw [← Nat.add_assoc, fo_s, ih i v h]
    unfold m_emergency_b
    rw [if_neg hx]
theorem s_emergency {C M : rb_I} {cn : Nat → Nat} {ag : Nat → Nat → Int32} {t R : Nat} (h : sx C M cn ag t R) (u : Int32) : okc sq_3 (x7_emergency C cn u) (m_emergency M u).1 (m_emergency M u).2 cn ag := by
  have h9 := h
  obtain ⟨⟨c0, m0, hT, hC, hR, hN, hA, hS, hZ, hM, hB, hK⟩, k28, hR2, hP⟩ := h
  unfold x7_emergency m_emergency m_isSubscriber
  rw [hC.2.1]
  by_cases e1 : m_in u 0 (nI (cn 1) - 1) = 0
  · simp only [if_pos e1]
    exact ok_thr h9 _ _ _ _ _ sq_31 (by decide)
  simp only [if_neg e1]
  have hs := sub_of c0 e1
  obtain ⟨a1, a2, a3, a4, a5, a6, a7, a8, a9, a10⟩ := hS _ (vp_in_lt hs)
  rw [a4]
  by_cases e2 : M (14, 19, 0) u.toNatClampNeg = -1
  · rw [if_pos e2, e2]
    have hp := hR _ (vp_in_lt (c0.2.2.1 u.toNatClampNeg))
    rw [a3] at hp
    have key : ∀ d i, i + d = 6 → fo (m_emergency_b M u) i (-1) = -1 → x7_em_b C u d i = (0, fo (m_emergency_b M u) 6 (-1), C) := by
      intro d
      induction d with
      | zero => intro i hi hv; obtain rfl : i = 6 := by omega
                rw [hv]; rfl
      | succ d ih =>
        intro i hi hv
        have hn := (hN i (by omega)).1
        show (if x7_isIn (C (1, 0, 0) (C (9, u.toNatClampNeg, 0) 3).toNatClampNeg) (nI i) = 0 then x7_em_b C u d (i + 1) else if C (5, i, 0) 1 = 0 then (0, nI i, C) else x7_em_b C u d (i + 1)) = _
        rw [a3, hp, hn, isIn_eq]
        have st : fo (m_emergency_b M u) (i + 1) (-1) = m_emergency_b M u i (-1) := by rw [fo_s, hv]
        unfold m_emergency_b at st
        rw [if_pos rfl] at st
        by_cases c1 : m_isIn (M (14, 2, 0) (M (14, 17, 0) u.toNatClampNeg).toNatClampNeg) (nI i) = 0
        · rw [if_pos c1] at st ⊢
          exact ih (i + 1) (by omega) st
        · rw [if_neg c1] at st ⊢
          by_cases c2 : M (15, 3, 0) i = 0
          · rw [if_pos c2] at st ⊢
            have := em_fix M u (x := nI i) (in_ne (vp_in_nI (show i < 6 by omega) (by decide))) d (i + 1) (-1) st
            rw [show i + 1 + d = 6 by omega] at this
            rw [this]
          · rw [if_neg c2] at st ⊢
            exact ih (i + 1) (by omega) st
    have k0 := key 6 0 rfl (fo_0 _ _)
    rw [k0]
    exact ok_0 h9 _ _ _ sq_30 rfl
  · rw [if_neg e2]
    have := em_fix M u e2 6 0 (M (14, 19, 0) u.toNatClampNeg) (fo_0 _ _)
    rw [Nat.zero_add] at this
    rw [this]
    exact ok_0 h9 _ _ _ sq_30 rfl
theorem ag_fix (M : rb_I) (u : Int32) : ∀ n i v, fo (m_agrees_b M u) i v = 0 → fo (m_agrees_b M u) (i + n) v = 0 := by
  intro n
  induction n with
  | zero => intro i v h; exact h
  | succ n ih =>
    intro i v h
    rw [← Nat.add_assoc, fo_s, ih i v h]
    unfold m_agrees_b
    rw [if_pos rfl]
theorem s_agrees {C M : rb_I} {cn : Nat → Nat} {ag : Nat → Nat → Int32} {t R : Nat} (h : sx C M cn ag t R) (u : Int32) : okc sq_3 (x7_agrees C cn u) (m_agrees M u).1 (m_agrees M u).2 cn ag := by
  have h9 := h
  obtain ⟨⟨c0, m0, hT, hC, hR, hN, hA, hS, hZ, hM, hB, hK⟩, k28, hR2, hP⟩ := h
  unfold x7_agrees m_agrees m_isSubscriber
  rw [hC.2.1]
  by_cases e1 : m_in u 0 (nI (cn 1) - 1) = 0
  · simp only [if_pos e1]
    exact ok_thr h9 _ _ _ _ _ sq_31 (by decide)
  simp only [if_neg e1]
  have hs := sub_of c0 e1
  have h10 : u.toNatClampNeg < 10 := Nat.lt_of_lt_of_le (vp_in_lt hs) c0.2.2.2.2.2.2.2.2.2.1
  obtain ⟨a1, a2, a3, a4, a5, a6, a7, a8, a9, a10⟩ := hS _ (vp_in_lt hs)
  have hh : ∀ i, i < 6 → x2_has C i (C (9, u.toNatClampNeg, 0) 0) = if M (14, 27, 0) (10 * i + u.toNatClampNeg) = -1 then 0 else 1 := by
    intro i hi
    unfold x2_has
    rw [latest_eq h9.1 hs, (hB i _ hi h10).1]
  have stp : ∀ d i, i < 6 → x7_ag_b C u (d + 1) i = if (nI i = M (14, 19, 0) u.toNatClampNeg) = (M (14, 27, 0) (10 * i + u.toNatClampNeg) = -1) then (0, 0, C) else x7_ag_b C u d (i + 1) := by
    intro d i hi
    show (if nI i = C (9, u.toNatClampNeg, 0) 4 then (if x2_has C i (C (9, u.toNatClampNeg, 0) 0) = 1 then x7_ag_b C u d (i + 1) else (0, 0, C)) else (if x2_has C i (C (9, u.toNatClampNeg, 0) 0) = 0 then x7_ag_b C u d (i + 1) else (0, 0, C))) = _
    rw [hh i hi, a4]
    by_cases c1 : nI i = M (14, 19, 0) u.toNatClampNeg <;> by_cases c2 : M (14, 27, 0) (10 * i + u.toNatClampNeg) = -1 <;> simp [c1, c2]
  have mst : ∀ i, m_agrees_b M u i 1 = if (nI i = M (14, 19, 0) u.toNatClampNeg) = (M (14, 27, 0) (10 * i + u.toNatClampNeg) = -1) then 0 else 1 := by
    intro i
    unfold m_agrees_b
    by_cases c1 : nI i = M (14, 19, 0) u.toNatClampNeg <;> by_cases c2 : M (14, 27, 0) (10 * i + u.toNatClampNeg) = -1 <;> simp [c1, c2]
  have yes : (∀ i, x7_ag_b C u 0 i = (0, 1, C)) → x7_ag_b C u 6 0 = (0, fo (m_agrees_b M u) 6 1, C) := by
    intro h0
    have key : ∀ d i, i + d = 6 → fo (m_agrees_b M u) i 1 = 1 → x7_ag_b C u d i = (0, fo (m_agrees_b M u) 6 1, C) := by
      intro d
      induction d with
      | zero => intro i hi hv; obtain rfl : i = 6 := by omega
                rw [hv]; exact h0 6
      | succ d ih =>
        intro i hi hv
        rw [stp d i (by omega)]
        have st : fo (m_agrees_b M u) (i + 1) 1 = m_agrees_b M u i 1 := by rw [fo_s, hv]
        rw [mst] at st
        split
        · rename_i c
          rw [if_pos c] at st
          have := ag_fix M u d (i + 1) 1 st
          rw [show i + 1 + d = 6 by omega] at this
          rw [this]
        · rename_i c
          rw [if_neg c] at st
          exact ih (i + 1) (by omega) st
    exact key 6 0 rfl (fo_0 _ _)
  have no : (∀ i, x7_ag_b C u 0 i = (0, 0, C)) → x7_ag_b C u 6 0 = (0, fo (m_agrees_b M u) 6 0, C) := by
    intro h0
    have z := ag_fix M u 6 0 0 (fo_0 _ _)
    rw [Nat.zero_add] at z
    rw [z]
    have key : ∀ d i, i + d = 6 → x7_ag_b C u d i = (0, 0, C) := by
      intro d
      induction d with
      | zero => intro i _; exact h0 i
      | succ d ih =>
        intro i hi
        rw [stp d i (by omega), ih (i + 1) (by omega)]
        exact ite_self _
    exact key 6 0 rfl
  have z0 : ∀ i, x7_ag_b C u 0 i = (if C (9, u.toNatClampNeg, 0) 4 = -1 then (0, 1, C) else if C (9, u.toNatClampNeg, 0) 5 = C (9, u.toNatClampNeg, 0) 4 then (0, 1, C) else (0, 0, C)) := fun _ => rfl
  rw [a4, a5] at z0
  by_cases e2 : M (14, 19, 0) u.toNatClampNeg = -1
  · simp only [if_pos e2] at z0 ⊢
    rw [yes z0]
    exact ok_0 h9 _ _ _ sq_30 rfl
  · simp only [if_neg e2] at z0 ⊢
    by_cases e3 : M (14, 21, 0) u.toNatClampNeg = M (14, 19, 0) u.toNatClampNeg
    · simp only [if_pos e3] at z0 ⊢
      rw [yes z0]
      exact ok_0 h9 _ _ _ sq_30 rfl
    · simp only [if_neg e3] at z0 ⊢
      rw [no z0]
      exact ok_0 h9 _ _ _ sq_30 rfl
