theorem rc_mono (M : rb_I) (k : Nat) : ∀ n r, rc_n M k r ≤ rc_n M k (r + n) := by
  intro n
  induction n with
  | zero => intro r; exact Nat.le_refl _
  | succ n ih =>
    intro r
    refine Nat.le_trans (ih r) ?_
    show _ ≤ (if rc_k M (r + n) = k then rc_n M k (r + n) + 1 else rc_n M k (r + n))
    split <;> omega
theorem rc_lt {M : rb_I} {k r R : Nat} (h : rc_k M r = k) (hr : r < R) : rc_n M k r < rc_n M k R := by
  have h1 : rc_n M k (r + 1) = rc_n M k r + 1 := by
    show (if rc_k M r = k then rc_n M k r + 1 else rc_n M k r) = _
    rw [if_pos h]
  have h2 := rc_mono M k (R - (r + 1)) (r + 1)
  rw [show r + 1 + (R - (r + 1)) = R by omega] at h2
  omega
theorem rc_le (M : rb_I) (k : Nat) : ∀ r, rc_n M k r ≤ r := by
  intro r
  induction r with
  | zero => exact Nat.le_refl _
  | succ r ih =>
    show (if rc_k M r = k then rc_n M k r + 1 else rc_n M k r) ≤ _
    split <;> omega
theorem rc_sur (M : rb_I) (k : Nat) : ∀ R j, j < rc_n M k R → ∃ r, r < R ∧ rc_k M r = k ∧ rc_n M k r = j := by
  intro R
  induction R with
  | zero => intro j h; exact absurd h (Nat.not_lt_zero _)
  | succ R ih =>
    intro j h
    have h' : j < (if rc_k M R = k then rc_n M k R + 1 else rc_n M k R) := h
    by_cases e : rc_k M R = k
    · rw [if_pos e] at h'
      by_cases e2 : j = rc_n M k R
      · exact ⟨R, by omega, e, e2.symm⟩
      · obtain ⟨r, a, b, c⟩ := ih j (by omega)
        exact ⟨r, by omega, b, c⟩
    · rw [if_neg e] at h'
      obtain ⟨r, a, b, c⟩ := ih j h'
      exact ⟨r, by omega, b, c⟩
/-- a fold over an account's records is a fold over all, the others passed by -/
theorem rc_fold {α : Type} (M : rb_I) (k : Nat) (F F' : Nat → α → α) (a : α) (R : Nat) (h1 : ∀ r, r < R → rc_k M r = k → ∀ s, F' r s = F (rc_n M k r) s) (h2 : ∀ r, r < R → rc_k M r ≠ k → ∀ s, F' r s = s) : fo F' R a = fo F (rc_n M k R) a := by
  have key : ∀ n, n ≤ R → fo F' n a = fo F (rc_n M k n) a := by
    intro n
    induction n with
    | zero => intro _; rw [fo_0]; exact (fo_0 _ _).symm
    | succ n ih =>
      intro hn
      rw [fo_s, ih (by omega)]
      show _ = fo F (if rc_k M n = k then rc_n M k n + 1 else rc_n M k n) a
      by_cases e : rc_k M n = k
      · rw [if_pos e, fo_s, h1 n (by omega) e]
      · rw [if_neg e, h2 n (by omega) e]
  exact key R (Nat.le_refl _)
theorem nI_tn {x y : Int32} {n : Nat} (hx : vp_in x n) (hy : vp_in y n) : x = y ↔ x.toNatClampNeg = y.toNatClampNeg :=
  ⟨fun h => by rw [h], fun h => by rw [vp_in_e hx, vp_in_e hy, h]⟩
theorem isOf_eq {M : rb_I} {r : Nat} {vi ho : Int32} (hr : r < 400) (h1 : vp_in (M (14, 31, 0) r) 6) (h0 : vp_in (M (14, 30, 0) r) 6) (hv : vp_in vi 6) (hh : vp_in ho 6) : m_isOf M (nI r) vi ho = if rc_k M r = 6 * vi.toNatClampNeg + ho.toNatClampNeg then 1 else 0 := by
  have l1 := vp_in_lt h1
  have l0 := vp_in_lt h0
  have lv := vp_in_lt hv
  have lh := vp_in_lt hh
  unfold m_isOf rc_k
  rw [nI_clamp (by omega)]
  by_cases e1 : M (14, 31, 0) r = vi
  · rw [if_pos e1]
    have e1' := (nI_tn h1 hv).mp e1
    by_cases e0 : M (14, 30, 0) r = ho
    · rw [if_pos e0, if_pos]
      have e0' := (nI_tn h0 hh).mp e0
      omega
    · rw [if_neg e0, if_neg]
      exact fun q => e0 ((nI_tn h0 hh).mpr (by omega))
  · rw [if_neg e1, if_neg]
    exact fun q => e1 ((nI_tn h1 hv).mpr (by omega))
theorem k36 {vi ho : Int32} (hv : vp_in vi 6) (hh : vp_in ho 6) : 6 * vi.toNatClampNeg + ho.toNatClampNeg < 36 := by
  have := vp_in_lt hv
  have := vp_in_lt hh
  omega
theorem mo_eq {C M : rb_I} {cn : Nat → Nat} {ag : Nat → Nat → Int32} {R : Nat} (hK : sx_K C M cn ag R) (hR9 : R ≤ 400) {vi ho : Int32} (hv : vp_in vi 6) (hh : vp_in ho 6) (hm29 : M (16, 0, 0) 29 = nI R) (st : Int32) : x0_minutesThatAre C cn (6 * vi.toNatClampNeg + ho.toNatClampNeg) st = m_minutesOf M vi ho st := by
  unfold x0_minutesThatAre m_minutesOf
  rw [hm29, nI_clamp (by omega), hK.1 _ (k36 hv hh)]
  refine (rc_fold M _ _ _ _ R (fun r hr e s => ?_) (fun r hr e s => ?_)).symm
  · obtain ⟨h1, h0, b1, b2, b3, b4, b5, b6, b7⟩ := hK.2.2.2.2 r hr
    rw [e] at b1 b4
    unfold x0_mta_b m_minutesOf_b
    rw [isOf_eq (by omega) h1 h0 hv hh, if_pos e, if_neg (by decide), b4, b1]
    split
    · rfl
    · exact Int32.add_zero s
  · obtain ⟨h1, h0, -⟩ := hK.2.2.2.2 r hr
    unfold m_minutesOf_b
    rw [isOf_eq (by omega) h1 h0 hv hh, if_neg e, if_pos rfl]
    exact Int32.add_zero s
theorem mo_nat {C M : rb_I} {cn : Nat → Nat} {ag : Nat → Nat → Int32} {R : Nat} (hK : sx_K C M cn ag R) (hR9 : R ≤ 400) {vi ho : Int32} (hv : vp_in vi 6) (hh : vp_in ho 6) (hm29 : M (16, 0, 0) 29 = nI R) (st : Int32) : ∃ S : Nat, S ≤ 600 * R ∧ m_minutesOf M vi ho st = nI S := by
  unfold m_minutesOf
  rw [hm29, nI_clamp (by omega)]
  have key : ∀ n, n ≤ R → ∃ S : Nat, S ≤ 600 * n ∧ fo (m_minutesOf_b M vi ho st) n (0 : Int32) = nI S := by
    intro n
    induction n with
    | zero => intro _; exact ⟨0, Nat.le_refl _, fo_0 _ _⟩
    | succ n ih =>
      intro hn
      obtain ⟨S, h1, h2⟩ := ih (by omega)
      obtain ⟨g1, g0, b1, b2, b3, b4, b5, ⟨mi, m1, m2, m3⟩, b7⟩ := hK.2.2.2.2 n (by omega)
      rw [fo_s, h2]
      unfold m_minutesOf_b
      split
      · exact ⟨S, by omega, Int32.add_zero _⟩
      · split
        · exact ⟨S + mi, by omega, by rw [m1, nI_add]⟩
        · exact ⟨S, by omega, Int32.add_zero _⟩
  exact key R (Nat.le_refl _)
theorem pri_eq {C M : rb_I} {cn : Nat → Nat} (hA : sx_A C M cn) {a : Int32} (ha : vp_in a (cn 0)) (m : Int32) : x1_priceAt C a.toNatClampNeg m = m_priceOf M a m := by
  obtain ⟨a0, a1, a2, a3, a4, a5, a6⟩ := hA _ (vp_in_lt ha)
  unfold x1_priceAt m_priceOf
  rw [if_neg (in_ne ha), a4, a5, a6]
theorem owd_eq {C M : rb_I} {cn : Nat → Nat} {ag : Nat → Nat → Int32} {R : Nat} (hK : sx_K C M cn ag R) (hR9 : R ≤ 400) {vi ho : Int32} (hv : vp_in vi 6) (hh : vp_in ho 6) (hA : sx_A C M cn) (hm29 : M (16, 0, 0) 29 = nI R) : x0_owed C cn ag (6 * vi.toNatClampNeg + ho.toNatClampNeg) = fo (m_owes_b M ho vi) R (0 : Int32) := by
  have hmm := mo_eq hK hR9 hv hh hm29 2
  unfold x0_owed
  rw [hK.1 _ (k36 hv hh)]
  have e0 : ∀ a b, m_priceOf (up2 M (16, 0, 0) 0 0) a b = m_priceOf M a b := by intro a b; unfold m_priceOf; simp [up2]
  have e1 : m_minutesOf (up2 M (16, 0, 0) 0 0) vi ho 2 = m_minutesOf M vi ho 2 := by
    unfold m_minutesOf
    rw [up2_n _ _ _ _ (by simp)]
    rfl
  refine (rc_fold M _ _ _ _ R (fun r hr e s => ?_) (fun r hr e s => ?_)).symm
  · obtain ⟨h1, h0, b1, b2, b3, b4, b5, b6, b7⟩ := hK.2.2.2.2 r hr
    rw [e] at b1 b3 b4
    unfold x0_owed_b m_owes_b x4_owed
    have e2 : m_isOf (up2 M (16, 0, 0) 0 0) (nI r) vi ho = m_isOf M (nI r) vi ho := by unfold m_isOf; simp [up2]
    rw [e2, isOf_eq (by omega) h1 h0 hv hh, if_pos e, if_neg (by decide), b4, b1, b3, e0, e1, hmm]
    by_cases e3 : M (14, 35, 0) r = 2
    · rw [if_pos e3, if_pos e3]
      by_cases e4 : M (14, 34, 0) r = -1
      · have hz : ∀ b, m_priceOf M (-1) b = 0 := fun b => if_pos rfl
        rw [if_pos e4, e4, hz, Int32.mul_zero]
      · rw [if_neg e4, pri_eq hA ((hK.2.2.2.1 r hr).resolve_left e4)]
    · rw [if_neg e3, if_neg e3]
  · obtain ⟨h1, h0, -⟩ := hK.2.2.2.2 r hr
    unfold m_owes_b
    have e2 : m_isOf (up2 M (16, 0, 0) 0 0) (nI r) vi ho = m_isOf M (nI r) vi ho := by unfold m_isOf; simp [up2]
    rw [e2, isOf_eq (by omega) h1 h0 hv hh, if_neg e, if_pos rfl]
    exact Int32.add_zero s
/-! sums -/
def su (n : Nat) (w : Nat → Int32) : Int32 := fo (fun i s => s + w i) n 0
theorem su_0 (w : Nat → Int32) : su 0 w = 0 := fo_0 _ _
theorem su_s (n : Nat) (w : Nat → Int32) : su (n + 1) w = su n w + w n := fo_s _ _ _
theorem su_ext {n : Nat} {u w : Nat → Int32} (h : ∀ i, i < n → u i = w i) : su n u = su n w := by
  induction n with
  | zero => rw [su_0, su_0]
  | succ n ih => rw [su_s, su_s, ih (fun i hi => h i (by omega)), h n (by omega)]
theorem su_of {n : Nat} {F : Nat → Int32 → Int32} {w : Nat → Int32} (h : ∀ i s, F i s = s + w i) : fo F n (0 : Int32) = su n w := by
  have e : F = fun i s => s + w i := by funext i s; exact h i s
  rw [e]; rfl
theorem su_z (n : Nat) : su n (fun _ => 0) = 0 := by
  induction n with
  | zero => exact su_0 _
  | succ n ih => rw [su_s, ih, Int32.add_zero]
theorem su_add (n : Nat) (u w : Nat → Int32) : su n (fun i => u i + w i) = su n u + su n w := by
  induction n with
  | zero => rw [su_0, su_0, su_0, Int32.add_zero]
  | succ n ih => rw [su_s, su_s, su_s, ih, Int32.add_assoc, Int32.add_assoc, ← Int32.add_assoc (su n w), Int32.add_comm (su n w) (u n), Int32.add_assoc (u n)]
theorem su_sw (g n : Nat) (h : Nat → Nat → Int32) : su g (fun f => su n (fun j => h f j)) = su n (fun j => su g (fun f => h f j)) := by
  induction n with
  | zero => rw [su_0]; exact (su_ext (fun i _ => su_0 _)).trans (su_z g)
  | succ n ih => rw [su_s, ← ih, ← su_add]; exact su_ext (fun i _ => su_s _ _)
theorem su_one {x w : Int32} {f0 : Nat} (hx : x = nI f0) (h0 : f0 < 2 ^ 31) : ∀ g, g < 2 ^ 31 → su g (fun f => if x = nI f then w else 0) = if f0 < g then w else 0 := by
  intro g
  induction g with
  | zero => intro _; exact su_0 _
  | succ g ih =>
    intro hg
    rw [su_s, ih (by omega), hx]
    by_cases e : f0 = g
    · rw [if_neg (by omega), if_pos (by rw [e]), if_pos (by omega), Int32.zero_add]
    · rw [if_neg (fun q => e ((nI_eq h0 (by omega)).mp q)), Int32.add_zero]
      by_cases e2 : f0 < g
      · rw [if_pos e2, if_pos (by omega)]
      · rw [if_neg e2, if_neg (by omega)]
/-- by files is as it is -/
theorem su_fil {g n : Nat} {tag w : Nat → Int32} (hg : g < 2 ^ 31) (h : ∀ j, j < n → w j = 0 ∨ ∃ f, f < g ∧ tag j = nI f) : su g (fun f => su n (fun j => if tag j = nI f then w j else 0)) = su n w := by
  rw [su_sw]
  refine su_ext fun j hj => ?_
  rcases h j hj with q | ⟨f, hf, q⟩
  · rw [q]
    exact (su_ext (fun i _ => ite_self _)).trans (su_z g)
  · rw [su_one q (by omega) g hg, if_pos hf]
theorem obf_eq {C M : rb_I} {cn : Nat → Nat} {ag : Nat → Nat → Int32} {R : Nat} (hK : sx_K C M cn ag R) {k : Nat} (hk : k < 36) : x0_owedFileByFile C cn ag k = x0_owed C cn ag k := by
  have tg : ∀ j, j < cn (10 + k) → C (12, k, j) 3 = 2 → ∃ f, f < (C (8, k, 0) 2).toNatClampNeg ∧ C (12, k, j) 4 = nI f := by
    intro j hj h2
    rw [hK.1 k hk] at hj
    obtain ⟨r, r1, r2, r3⟩ := rc_sur M k R j hj
    obtain ⟨h1, h0, b1, b2, b3, b4, b5, b6, b7⟩ := hK.2.2.2.2 r r1
    rw [r2, r3] at b4 b5
    rw [r2] at b7
    obtain ⟨f9, g9, c1, c2, c3, c4, c5, c6⟩ := hK.2.1 k hk
    rw [c3, ← c4]
    rw [h2] at b4
    rcases b7 with q | ⟨f, f1, f2⟩
    · exact absurd (b4.trans q) (by decide)
    · rcases f2 with ⟨q, -⟩ | ⟨-, q⟩
      · exact absurd (b4.trans q) (by decide)
      · exact ⟨f, q, by rw [b5, ← b4, if_neg (by decide), f1]⟩
  have hg : (C (8, k, 0) 2).toNatClampNeg < 2 ^ 31 := by
    have := vp_in_lt (hK.2.2.1 k)
    omega
  have s1 : ∀ fl, x0_minutesTakenIn C cn k fl = su (cn (10 + k)) (fun j => if C (12, k, j) 4 = fl then (if C (12, k, j) 3 = 2 then C (12, k, j) 0 else 0) else 0) := fun fl => su_of (fun i s => by
    unfold x0_mti_b
    split
    · split
      · rfl
      · exact (Int32.add_zero s).symm
    · exact (Int32.add_zero s).symm)
  have s2 : fo (x0_ofa_b C cn k) (C (8, k, 0) 2).toNatClampNeg (0 : Int32) = su (C (8, k, 0) 2).toNatClampNeg (fun f => x0_minutesTakenIn C cn k (nI f)) := rfl
  have s3 : x0_minutesThatAre C cn k 2 = su (cn (10 + k)) (fun j => if C (12, k, j) 3 = 2 then C (12, k, j) 0 else 0) := su_of (fun i s => by
    unfold x0_mta_b
    split
    · rfl
    · exact (Int32.add_zero s).symm)
  have s4 : fo (x0_ofa_b C cn k) (C (8, k, 0) 2).toNatClampNeg (0 : Int32) = x0_minutesThatAre C cn k 2 := by
    rw [s2, s3]
    simp only [s1]
    refine su_fil hg (fun j hj => ?_)
    by_cases e : C (12, k, j) 3 = 2
    · exact Or.inr (tg j hj e)
    · exact Or.inl (if_neg e)
  have s5 : ∀ fl mt, x0_owedIn C cn ag k fl mt = su (cn (10 + k)) (fun j => if C (12, k, j) 4 = fl then x4_owed C k j (ag k j) mt else 0) := fun fl mt => su_of (fun i s => by
    unfold x0_owedIn_b
    split
    · rfl
    · exact (Int32.add_zero s).symm)
  unfold x0_owedFileByFile
  have s6 : fo (x0_ofb_b C cn ag k) (C (8, k, 0) 2).toNatClampNeg (0 : Int32) = su (C (8, k, 0) 2).toNatClampNeg (fun f => x0_owedIn C cn ag k (nI f) (x0_minutesThatAre C cn k 2)) := by
    rw [← s4]; rfl
  rw [s6]
  simp only [s5]
  refine (su_fil hg (fun j hj => ?_)).trans ?_
  · by_cases e : C (12, k, j) 3 = 2
    · exact Or.inr (tg j hj e)
    · exact Or.inl (by unfold x4_owed; exact if_neg e)
  · rfl
theorem s_recorded {C M : rb_I} {cn : Nat → Nat} {ag : Nat → Nat → Int32} {t R : Nat} (h : sx C M cn ag t R) (vi ho what : Int32) : okc sq_3 (x7_recorded C cn vi ho what) (m_recorded M vi ho what).1 (m_recorded M vi ho what).2 cn ag := by
  have h9 := h
  obtain ⟨⟨c0, m0, hT, hC, hR, hN, hA, hS, hZ, hM, hB, hK⟩, k28, hR2, hP⟩ := h
  unfold x7_recorded m_recorded
  by_cases e1 : m_isNetwork vi = 0
  · simp only [if_pos e1]
    exact ok_thr h9 _ _ _ _ _ sq_31 (by decide)
  simp only [if_neg e1]
  by_cases e2 : m_isNetwork ho = 0
  · simp only [if_pos e2]
    exact ok_thr h9 _ _ _ _ _ sq_31 (by decide)
  simp only [if_neg e2]
  have hv := isNetwork_in e1
  have hh := isNetwork_in e2
  have hR9 : R ≤ 400 := by have := c0.2.2.2.2.2.2.2.2.2.2.1; omega
  by_cases e3 : m_in what (0 : Int32) (3 : Int32) = 0
  · simp only [if_pos e3]
    exact ok_thr h9 _ _ _ _ _ sq_32 (by decide)
  simp only [if_neg e3]
  obtain ⟨⟨-, -, -, hC1, -, -, -, -, -, -, -, hK1⟩, -⟩ := sx_thr h9 0
  exact ok_0 h9 _ _ _ sq_30 (mo_eq hK1 hR9 hv hh hC1.2.2 what)
theorem s_owes {C M : rb_I} {cn : Nat → Nat} {ag : Nat → Nat → Int32} {t R : Nat} (h : sx C M cn ag t R) (ho vi : Int32) : okc sq_3 (x7_owes C cn ag ho vi) (m_owes M ho vi).1 (m_owes M ho vi).2 cn ag := by
  have h9 := h
  obtain ⟨⟨c0, m0, hT, hC, hR, hN, hA, hS, hZ, hM, hB, hK⟩, k28, hR2, hP⟩ := h
  unfold x7_owes m_owes
  by_cases e1 : m_isNetwork vi = 0
  · simp only [if_pos e1, ite_self]
    exact ok_thr h9 _ _ _ _ _ sq_31 (by decide)
  simp only [if_neg e1]
  by_cases e2 : m_isNetwork ho = 0
  · simp only [if_pos e2, ite_self]
    exact ok_thr h9 _ _ _ _ _ sq_31 (by decide)
  simp only [if_neg e2]
  have hv := isNetwork_in e1
  have hh := isNetwork_in e2
  have hR9 : R ≤ 400 := by have := c0.2.2.2.2.2.2.2.2.2.2.1; omega
  rw [hC.2.2, nI_clamp (by omega)]
  exact ok_0 h9 _ _ _ sq_30 (owd_eq hK hR9 hv hh hA hC.2.2)
theorem s_owesAnew {C M : rb_I} {cn : Nat → Nat} {ag : Nat → Nat → Int32} {t R : Nat} (h : sx C M cn ag t R) (ho vi : Int32) : okc sq_3 (x7_owesAnew C cn ag ho vi) (m_owesAnew M ho vi).1 (m_owesAnew M ho vi).2 cn ag := by
  have k := s_owes h ho vi
  have e : x7_owesAnew C cn ag ho vi = x7_owes C cn ag ho vi := by
    unfold x7_owesAnew x7_owes
    by_cases e1 : m_isNetwork vi = 0
    · rw [if_pos e1, if_pos e1]
    rw [if_neg e1, if_neg e1]
    by_cases e2 : m_isNetwork ho = 0
    · rw [if_pos e2, if_pos e2]
    rw [if_neg e2, if_neg e2, obf_eq h.1.2.2.2.2.2.2.2.2.2.2.2 (acc_lt e1 e2)]
  rw [e]
  exact k
