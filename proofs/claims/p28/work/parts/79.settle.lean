theorem u_pd {C M : rb_I} {cn : Nat → Nat} {ag : Nat → Nat → Int32} {tc t R : Nat} {bd : Nat → Nat} (h : sx_1 C M cn ag tc t R bd) {j : Nat} {v : Int32} (hj : j < cn 1) : sx_1 (up2 C (9, j, 0) 9 v) (up2 M (14, 24, 0) j v) cn ag tc t R bd := by
  obtain ⟨c0, m0, hT, hC, hR, hN, hA, hS, hZ, hM, hB, hK⟩ := h
  exact ⟨(xCI_c c0 (fun b => by simp [up2]) (fun b q hq => by rcases hq with rfl | rfl <;> simp [up2]) (fun b q hq => by rcases hq with rfl | rfl | rfl | rfl | rfl <;> simp [up2])), (MI_c m0 (fun q => by simp [up2]) (fun q => by simp [up2]) (fun q => by simp [up2]) (fun q => by simp [up2]) (fun q => by simp [up2]) (fun q => by simp [up2]) (by simp [up2]) (by simp [up2]) (by simp [up2]) (by simp [up2]) (fun q => by simp [up2])), (sx_T_c hT (by simp [up2]) (by simp [up2])), (sx_C_c hC (by simp [up2]) (by simp [up2]) (by simp [up2]) rfl rfl), (sx_R_c hR (fun q => by simp [up2]) (fun q => by simp [up2])), (sx_N_c hN (fun b c q => by simp [up2]) (fun q => by simp [up2]) (fun q => by simp [up2]) (fun q => by simp [up2]) (fun q => by simp [up2])), (sx_A_c hA rfl (fun b c q => by simp [up2]) (fun q => by simp [up2]) (fun q => by simp [up2]) (fun q => by simp [up2]) (fun q => by simp [up2]) (fun q => by simp [up2]) (fun q => by simp [up2]) (fun q => by simp [up2])), (fun s hs => by
    obtain ⟨a1, a2, a3, a4, a5, a6, a7, a8, a9, a10⟩ := hS s hs
    refine ⟨?_, ?_, ?_, ?_, ?_, ?_, ?_, ?_, ?_, ?_⟩
    · simp only [up2]; simp [a1]
    · simp only [up2]; simp [a2]
    · simp only [up2]; simp [a3]
    · simp only [up2]; simp [a4]
    · simp only [up2]; simp [a5]
    · simp only [up2]; simp [a6]
    · simp only [up2]; simp [a7]
    · simp only [up2]; simp [a8]
    · simp only [up2]; simp [a9]
    · simp only [up2]; simp; exact a10), (fun s h1 h2 => by
    have e : s ≠ j := by omega
    obtain ⟨a1, a2, a3, a4, a5⟩ := hZ s h1 h2
    simp only [up2]
    simp [e, a1, a2, a3, a4, a5]), (sx_M_c hM rfl (fun _ => Nat.le_refl _) (fun b c => by simp [up2]) (fun q => by simp [up2]) (fun q => by simp [up2])), (sx_B_c hB (fun b c q => by simp [up2]) (fun q => by simp [up2])), (sx_K_c hK (Nat.le_refl _) (fun _ => rfl) (fun b c q => by simp [up2]) (fun b c q => by simp [up2]) (fun q => by simp [up2]) (fun q => by simp [up2]) (fun q => by simp [up2]) (fun q => by simp [up2]) (fun q => by simp [up2]) (fun q => by simp [up2]) (fun q => by simp [up2]) (fun q => by simp [up2]) (fun q => by simp [up2]))⟩
theorem u_ab {C M : rb_I} {cn : Nat → Nat} {ag : Nat → Nat → Int32} {t R : Nat} {bd bd' : Nat → Nat} (h : sx_1 C M cn ag t t R bd) {j a : Nat} (hj : j < cn 1) (ha : a ≤ bd' j) (hb : ∀ s, bd s ≤ bd' s) : sx_1 (up2 C (9, j, 0) 10 (nI a)) (up2 (up2 M (14, 26, 0) j (nI a)) (14, 25, 0) j (nI (t / 43200))) cn ag t t R bd' := by
  obtain ⟨c0, m0, hT, hC, hR, hN, hA, hS, hZ, hM, hB, hK⟩ := h
  have hM9 : sx_M (up2 C (9, j, 0) 10 (nI a)) (up2 (up2 M (14, 26, 0) j (nI a)) (14, 25, 0) j (nI (t / 43200))) cn t bd' := by
    intro s hs
    by_cases e : s = j
    · subst e
      exact ⟨a, t / 43200, up2_s _ _ _ _, ha, up2_s _ _ _ _, Nat.le_refl _, fun _ => by simp [up2], fun q => absurd rfl q⟩
    · obtain ⟨a', mo, b1, b2, b3, b4, b5, b6⟩ := hM s hs
      exact ⟨a', mo, by simp [up2, e]; exact b1, Nat.le_trans b2 (hb s), by simp [up2, e]; exact b3, b4, fun q => by simp [up2, e]; exact b5 q, b6⟩
  exact ⟨(xCI_c c0 (fun b => by simp [up2]) (fun b q hq => by rcases hq with rfl | rfl <;> simp [up2]) (fun b q hq => by rcases hq with rfl | rfl | rfl | rfl | rfl <;> simp [up2])), (MI_c m0 (fun q => by simp [up2]) (fun q => by simp [up2]) (fun q => by simp [up2]) (fun q => by simp [up2]) (fun q => by simp [up2]) (fun q => by simp [up2]) (by simp [up2]) (by simp [up2]) (by simp [up2]) (by simp [up2]) (fun q => by simp [up2])), (sx_T_c hT (by simp [up2]) (by simp [up2])), (sx_C_c hC (by simp [up2]) (by simp [up2]) (by simp [up2]) rfl rfl), (sx_R_c hR (fun q => by simp [up2]) (fun q => by simp [up2])), (sx_N_c hN (fun b c q => by simp [up2]) (fun q => by simp [up2]) (fun q => by simp [up2]) (fun q => by simp [up2]) (fun q => by simp [up2])), (sx_A_c hA rfl (fun b c q => by simp [up2]) (fun q => by simp [up2]) (fun q => by simp [up2]) (fun q => by simp [up2]) (fun q => by simp [up2]) (fun q => by simp [up2]) (fun q => by simp [up2]) (fun q => by simp [up2])), (sx_S_c hS rfl (fun b c q hq => by simp [up2, hq]) (fun q => by simp [up2]) (fun q => by simp [up2]) (fun q => by simp [up2]) (fun q => by simp [up2]) (fun q => by simp [up2]) (fun q => by simp [up2]) (fun q => by simp [up2]) (fun q => by simp [up2]) (fun q => by simp [up2])), (fun s h1 h2 => by
    have e : s ≠ j := by omega
    obtain ⟨a1, a2, a3, a4, a5⟩ := hZ s h1 h2
    simp only [up2]
    simp [e, a1, a2, a3, a4, a5]), hM9, (sx_B_c hB (fun b c q => by simp [up2]) (fun q => by simp [up2])), (sx_K_c hK (Nat.le_refl _) (fun _ => rfl) (fun b c q => by simp [up2]) (fun b c q => by simp [up2]) (fun q => by simp [up2]) (fun q => by simp [up2]) (fun q => by simp [up2]) (fun q => by simp [up2]) (fun q => by simp [up2]) (fun q => by simp [up2]) (fun q => by simp [up2]) (fun q => by simp [up2]) (fun q => by simp [up2]))⟩
theorem m_agr_c {W W' : rb_I} {a b : Int32} (h8 : ∀ q, W' (14, 8, 0) q = W (14, 8, 0) q) (h9 : ∀ q, W' (14, 9, 0) q = W (14, 9, 0) q) (h10 : ∀ q, W' (14, 10, 0) q = W (14, 10, 0) q) (h11 : ∀ q, W' (14, 11, 0) q = W (14, 11, 0) q) (h1 : W' (16, 0, 0) 1 = W (16, 0, 0) 1) (h7 : W' (16, 0, 0) 7 = W (16, 0, 0) 7) : m_agreement W' a b = m_agreement W a b := by
  have e : m_agreement_b W' a b = m_agreement_b W a b := by
    funext i s
    unfold m_agreement_b
    rw [h8, h9, h10, h11, h1]
  unfold m_agreement
  rw [e, h7]
theorem u_rc {C M : rb_I} {cn : Nat → Nat} {ag : Nat → Nat → Int32} {tc t R : Nat} {bd : Nat → Nat} (h : sx_1 C M cn ag tc t R bd) (hR9 : R < 400) {att ho x : Int32} (ha : vp_in att 6) (hh : vp_in ho 6) {mi K : Nat} (h0 : 0 < mi) (h6 : mi ≤ 600) (eK : K = 6 * att.toNatClampNeg + ho.toNatClampNeg) (hx : x = -1 ∨ vp_in x (cn 0)) : sx_1 (up2 (x4_init (zW C (12, K, cn (10 + K))) K (cn (10 + K)) (nI mi) (nI t)) (4, 10 + K, 0) 2 (nI (cn (10 + K) + 1))) (up2 (up2 (up2 (up2 (up2 (up2 (up2 M (14, 30, 0) R ho) (14, 31, 0) R att) (14, 32, 0) R (nI mi)) (14, 33, 0) R (nI t)) (14, 34, 0) R x) (14, 35, 0) R 0) (16, 0, 0) 29 (nI (R + 1))) (bump cn (10 + K)) (fun k i => if k = K ∧ i = cn (10 + K) then x else ag k i) tc t (R + 1) bd := by
  obtain ⟨c0, m0, hT, hC, hR, hN, hA, hS, hZ, hM, hB, hK⟩ := h
  have la := vp_in_lt ha
  have lh := vp_in_lt hh
  have hK36 : K < 36 := by omega
  have hcn := hK.1 K hK36
  have hle := rc_le M K R
  have hx9 : xCI (up2 (x4_init (zW C (12, K, cn (10 + K))) K (cn (10 + K)) (nI mi) (nI t)) (4, 10 + K, 0) 2 (nI (cn (10 + K) + 1))) (bump cn (10 + K)) := by
    refine ci_frame (Or.inr ⟨by omega, by omega⟩) (fun i hi => ?_) (up2_s _ _ _ _) (fun n q => by simp [up2, x4_init, zW]) (fun s q _ _ => by simp [up2, x4_init, zW]) (by omega) (fun q => by omega) c0
    rw [up2_n _ _ _ _ (fun z => hi (congrArg (fun r : rb_R => r.2.1) z.1))]
    simp [up2, x4_init, zW]
  have hm9 : MI (up2 (up2 (up2 (up2 (up2 (up2 (up2 M (14, 30, 0) R ho) (14, 31, 0) R att) (14, 32, 0) R (nI mi)) (14, 33, 0) R (nI t)) (14, 34, 0) R x) (14, 35, 0) R 0) (16, 0, 0) 29 (nI (R + 1))) := by
    have hc30 := c0.2.2.2.2.2.2.2.2.1
    obtain ⟨x1, x2, x3, x4, x5, x6, x7, x8, x9, x10, x11⟩ := m0
    refine ⟨fun s => by simp [up2]; exact x1 s, fun s => by simp [up2]; exact x2 s, fun s => by simp [up2]; exact x3 s, fun s => by simp [up2]; exact x4 s, fun s => by simp [up2]; exact x5 s, fun s => ?_, by simp [up2]; exact x7, by simp [up2]; exact x8, by simp [up2]; exact x9, ?_, fun s => by simp [up2]; exact x11 s⟩
    · by_cases e : s = R
      · simp [up2, e]; exact hx.imp id (fun q => vp_in_up q hc30)
      · simp [up2, e]; exact x6 s
    · simp [up2]; exact vp_in_nI (by omega) (by decide)
  have hne : ∀ b q, q < R → b ≠ 0 → b ≠ 1 → (up2 (up2 (up2 (up2 (up2 (up2 (up2 M (14, 30, 0) R ho) (14, 31, 0) R att) (14, 32, 0) R (nI mi)) (14, 33, 0) R (nI t)) (14, 34, 0) R x) (14, 35, 0) R 0) (16, 0, 0) 29 (nI (R + 1))) (14, b, 0) q = M (14, b, 0) q := fun b q hq _ _ => by
    have e : q ≠ R := by omega
    simp [up2, e]
  have rn : ∀ k r, r ≤ R → rc_n (up2 (up2 (up2 (up2 (up2 (up2 (up2 M (14, 30, 0) R ho) (14, 31, 0) R att) (14, 32, 0) R (nI mi)) (14, 33, 0) R (nI t)) (14, 34, 0) R x) (14, 35, 0) R 0) (16, 0, 0) 29 (nI (R + 1))) k r = rc_n M k r := fun k r hr => rc_n_c (R := R) (fun q hq => hne 30 q hq (by decide) (by decide)) (fun q hq => hne 31 q hq (by decide) (by decide)) k r hr
  have rk : ∀ r, r < R → rc_k (up2 (up2 (up2 (up2 (up2 (up2 (up2 M (14, 30, 0) R ho) (14, 31, 0) R att) (14, 32, 0) R (nI mi)) (14, 33, 0) R (nI t)) (14, 34, 0) R x) (14, 35, 0) R 0) (16, 0, 0) 29 (nI (R + 1))) r = rc_k M r := fun r hr => by
    have : r ≠ R := by omega
    unfold rc_k
    simp [up2, this]
  have rkR : rc_k (up2 (up2 (up2 (up2 (up2 (up2 (up2 M (14, 30, 0) R ho) (14, 31, 0) R att) (14, 32, 0) R (nI mi)) (14, 33, 0) R (nI t)) (14, 34, 0) R x) (14, 35, 0) R 0) (16, 0, 0) 29 (nI (R + 1))) R = K := by
    unfold rc_k
    simp [up2]
    exact eK.symm
  have hK9 : sx_K (up2 (x4_init (zW C (12, K, cn (10 + K))) K (cn (10 + K)) (nI mi) (nI t)) (4, 10 + K, 0) 2 (nI (cn (10 + K) + 1))) (up2 (up2 (up2 (up2 (up2 (up2 (up2 M (14, 30, 0) R ho) (14, 31, 0) R att) (14, 32, 0) R (nI mi)) (14, 33, 0) R (nI t)) (14, 34, 0) R x) (14, 35, 0) R 0) (16, 0, 0) 29 (nI (R + 1))) (bump cn (10 + K)) (fun k i => if k = K ∧ i = cn (10 + K) then x else ag k i) (R + 1) := by
    refine ⟨fun k hk => ?_, fun k hk => ?_, fun k => by simp [up2, x4_init, zW]; exact hK.2.2.1 k, fun r hr => ?_, fun r hr => ?_⟩
    · show _ = (if rc_k (up2 (up2 (up2 (up2 (up2 (up2 (up2 M (14, 30, 0) R ho) (14, 31, 0) R att) (14, 32, 0) R (nI mi)) (14, 33, 0) R (nI t)) (14, 34, 0) R x) (14, 35, 0) R 0) (16, 0, 0) 29 (nI (R + 1))) R = k then rc_n (up2 (up2 (up2 (up2 (up2 (up2 (up2 M (14, 30, 0) R ho) (14, 31, 0) R att) (14, 32, 0) R (nI mi)) (14, 33, 0) R (nI t)) (14, 34, 0) R x) (14, 35, 0) R 0) (16, 0, 0) 29 (nI (R + 1))) k R + 1 else rc_n (up2 (up2 (up2 (up2 (up2 (up2 (up2 M (14, 30, 0) R ho) (14, 31, 0) R att) (14, 32, 0) R (nI mi)) (14, 33, 0) R (nI t)) (14, 34, 0) R x) (14, 35, 0) R 0) (16, 0, 0) 29 (nI (R + 1))) k R)
      rw [rn k R (Nat.le_refl _), rkR]
      by_cases e : K = k
      · subst e; rw [bump_s, if_pos rfl, hcn]
      · rw [bump_n (by omega), if_neg e]; exact hK.1 k hk
    · obtain ⟨f, g, d1, d2, d3, d4, d5, d6⟩ := hK.2.1 k hk
      exact ⟨f, g, by simp [up2, x4_init, zW]; exact d1, by simp [up2]; exact d2, by simp [up2, x4_init, zW]; exact d3, by simp [up2]; exact d4, d5, d6⟩
    · rw [bump_n (by omega)]
      by_cases e : r = R
      · simp [up2, e]; exact hx
      · simp [up2, e]; exact hK.2.2.2.1 r (by omega)
    · by_cases e : r = R
      · subst e
        rw [rkR, rn K r (Nat.le_refl _), ← hcn]
        refine ⟨by simp [up2]; exact ha, by simp [up2]; exact hh, ?_⟩
        unfold rc_E
        simp [up2, x4_init]
        exact ⟨mi, rfl, h0, h6⟩
      · have hr9 : r < R := by omega
        obtain ⟨h1, h0', b1, b2, b3, b4, b5, b6, b7⟩ := hK.2.2.2.2 r hr9
        rw [rk r hr9, rn _ r (by omega)]
        have ne : ¬ (rc_k M r = K ∧ rc_n M (rc_k M r) r = cn (10 + K)) := fun q => by
          have := rc_lt q.1 hr9
          rw [q.1] at q
          omega
        have hc : ∀ q, (up2 (x4_init (zW C (12, K, cn (10 + K))) K (cn (10 + K)) (nI mi) (nI t)) (4, 10 + K, 0) 2 (nI (cn (10 + K) + 1))) (12, rc_k M r, rc_n M (rc_k M r) r) q = C (12, rc_k M r, rc_n M (rc_k M r) r) q := fun q => by
          have e1 : ¬ ((12, rc_k M r, rc_n M (rc_k M r) r) : rb_R) = (12, K, cn (10 + K)) := fun z => ne (by simp at z; exact z)
          rw [up2_n _ _ _ _ (by simp)]
          unfold x4_init
          rw [up2_n _ _ _ _ (fun z => e1 z.1), up2_n _ _ _ _ (fun z => e1 z.1), up2_n _ _ _ _ (fun z => e1 z.1), up2_n _ _ _ _ (fun z => e1 z.1)]
          unfold zW
          rw [if_neg e1]
        unfold rc_E
        rw [hc, hc, hc, hc]
        simp only [if_neg ne]
        refine ⟨by simp [up2, e]; exact h1, by simp [up2, e]; exact h0', by simp [up2, e]; exact b1, by simp [up2, e]; exact b2, by simp [up2]; simp [e]; exact b3, by simp [up2]; simp [e]; exact b4, by simp [up2]; simp [e]; exact b5, by simp [up2]; simp [e]; exact b6, by simp [up2]; simp [e]; exact b7⟩
  exact ⟨hx9, hm9, (sx_T_c hT (by simp [up2, x4_init, zW]) (by simp [up2, x4_init, zW])), ⟨by rw [bump_n (by omega)]; simp [up2]; exact hC.1, by rw [bump_n (by omega)]; simp [up2]; exact hC.2.1, by simp [up2]⟩, (sx_R_c hR (fun q => by simp [up2, x4_init, zW]) (fun q => by simp [up2, x4_init, zW])), (sx_N_c hN (fun b c q => by simp [up2, x4_init, zW]) (fun q => by simp [up2, x4_init, zW]) (fun q => by simp [up2, x4_init, zW]) (fun q => by simp [up2, x4_init, zW]) (fun q => by simp [up2, x4_init, zW])), (sx_A_c hA (bump_n (by omega)) (fun b c q => by simp [up2, x4_init, zW]) (fun q => by simp [up2, x4_init, zW]) (fun q => by simp [up2, x4_init, zW]) (fun q => by simp [up2, x4_init, zW]) (fun q => by simp [up2, x4_init, zW]) (fun q => by simp [up2, x4_init, zW]) (fun q => by simp [up2, x4_init, zW]) (fun q => by simp [up2, x4_init, zW])), (sx_S_c hS (bump_n (by omega)) (fun b c q hq => by simp [up2, hq, x4_init, zW]) (fun q => by simp [up2, x4_init, zW]) (fun q => by simp [up2, x4_init, zW]) (fun q => by simp [up2, x4_init, zW]) (fun q => by simp [up2, x4_init, zW]) (fun q => by simp [up2, x4_init, zW]) (fun q => by simp [up2, x4_init, zW]) (fun q => by simp [up2, x4_init, zW]) (fun q => by simp [up2, x4_init, zW]) (fun q => by simp [up2, x4_init, zW])), (sx_Z_c hZ (bump_n (by omega)) (fun q => by simp [up2, x4_init, zW]) (fun q => by simp [up2, x4_init, zW]) (fun q => by simp [up2, x4_init, zW]) (fun q => by simp [up2, x4_init, zW]) (fun q => by simp [up2, x4_init, zW])), (sx_M_c hM (bump_n (by omega)) (fun _ => Nat.le_refl _) (fun b c => by simp [up2, x4_init, zW]) (fun q => by simp [up2, x4_init, zW]) (fun q => by simp [up2, x4_init, zW])), (sx_B_c hB (fun b c q => by simp [up2, x4_init, zW]) (fun q => by simp [up2, x4_init, zW])), hK9⟩
theorem abd_eq {C M : rb_I} {cn : Nat → Nat} {ag : Nat → Nat → Int32} {tc t R : Nat} {bd : Nat → Nat} (h : sx_1 C M cn ag tc t R bd) {s : Int32} (hs : vp_in s (cn 1)) (hat : ¬ M (14, 19, 0) s.toNatClampNeg = -1) : x6_isAbroad C s.toNatClampNeg = m_isAbroad M s := by
  obtain ⟨c0, m0, hT, hC, hR, hN, hA, hS, hZ, hM, hB, hK⟩ := h
  obtain ⟨a1, a2, a3, a4, a5, a6, a7, a8, a9, a10⟩ := hS _ (vp_in_lt hs)
  unfold x6_isAbroad m_isAbroad
  rw [a4, a1, if_neg hat]
theorem u_set {C M : rb_I} {cn : Nat → Nat} {ag : Nat → Nat → Int32} {t R : Nat} {bd : Nat → Nat} (h : sx_1 C M cn ag t t R bd) {s : Int32} (hs : vp_in s (cn 1)) (hat : ¬ M (14, 19, 0) s.toNatClampNeg = -1) (hR9 : R < 400) {p mi : Nat} (hp : p ≤ 59400) (h0 : 0 < mi) (h6 : mi ≤ 600) : sx_1 (x7_settle C cn s.toNatClampNeg (nI p) (nI mi)) (m_records (m_pays M s (nI p)) s (nI mi)) (x7_scn C cn s.toNatClampNeg (nI p)) (x7_sag C cn ag s.toNatClampNeg (nI p)) t t (if m_isAbroad M s = 0 then R else R + 1) (fun j => if j = s.toNatClampNeg then bd j + 59400 else bd j) := by
  have h9 := h
  obtain ⟨c0, m0, hT, hC, hR, hN, hA, hS, hZ, hM, hB, hK⟩ := h
  obtain ⟨a1, a2, a3, a4, a5, a6, a7, a8, a9, a10⟩ := hS _ (vp_in_lt hs)
  have u1 := u_pd h9 (v := M (14, 24, 0) s.toNatClampNeg + nI p) (vp_in_lt hs)
  have eW : x7_sW0 C s.toNatClampNeg (nI p) = up2 C (9, s.toNatClampNeg, 0) 9 (M (14, 24, 0) s.toNatClampNeg + nI p) := by unfold x7_sW0; rw [a9]
  have eA : x6_isAbroad (x7_sW0 C s.toNatClampNeg (nI p)) s.toNatClampNeg = m_isAbroad M s := by
    rw [eW]
    exact (abd_eq u1 hs (by simp [up2]; exact hat)).trans (by unfold m_isAbroad; simp [up2])
  have eB : m_isAbroad (up2 M (14, 24, 0) s.toNatClampNeg (M (14, 24, 0) s.toNatClampNeg + nI p)) s = m_isAbroad M s := by unfold m_isAbroad; simp [up2]
  have hbd : ∀ j, bd j ≤ (fun j => if j = s.toNatClampNeg then bd j + 59400 else bd j) j := fun j => by
    show _ ≤ (if j = s.toNatClampNeg then bd j + 59400 else bd j)
    split <;> omega
  unfold x7_settle x7_scn x7_sag m_pays
  rw [eA, eB]
  by_cases e : m_isAbroad M s = 0
  · simp only [if_pos e]
    rw [eW]
    unfold m_records
    rw [eB, if_pos e]
    obtain ⟨c0, m0, hT, hC, hR, hN, hA, hS, hZ, hM, hB, hK⟩ := u1
    exact ⟨c0, m0, hT, hC, hR, hN, hA, hS, hZ, sx_M_c hM rfl hbd (fun _ _ => rfl) (fun _ => rfl) (fun _ => rfl), hB, hK⟩
  simp only [if_neg e]
  obtain ⟨a, b1, b2, b3⟩ := abr_eq u1 hs
  rw [b3]
  have e1 : (M (16, 0, 0) 1) / 43200 = nI (t / 43200) := by rw [hT.2.2.2]; exact dv9 43200 rfl (by decide) (by decide) (by have := hT.2.1; omega)
  rw [e1, nI_add]
  have u2 := u_ab u1 (j := s.toNatClampNeg) (a := a + p) (bd' := fun j => if j = s.toNatClampNeg then bd j + 59400 else bd j) (vp_in_lt hs) (by show _ ≤ (if s.toNatClampNeg = s.toNatClampNeg then _ else _); rw [if_pos rfl]; omega) hbd
  have eW1 : x7_sW1 C s.toNatClampNeg (nI p) = up2 (up2 C (9, s.toNatClampNeg, 0) 9 (M (14, 24, 0) s.toNatClampNeg + nI p)) (9, s.toNatClampNeg, 0) 10 (nI (a + p)) := by
    unfold x7_sW1
    rw [eW]
    have b1' : C (9, s.toNatClampNeg, 0) 10 = nI a := by
      rw [← b1]; simp [up2]
    rw [b1', nI_add]
  have hA6 : vp_in (M (14, 19, 0) s.toNatClampNeg) 6 := (m0.2.2.1 s.toNatClampNeg).resolve_left hat
  have hH6 : vp_in (M (14, 16, 0) s.toNatClampNeg) 6 := m0.1 s.toNatClampNeg
  have eX : x7_sx C cn s.toNatClampNeg (nI p) = m_agreement M (M (14, 16, 0) s.toNatClampNeg) (M (14, 19, 0) s.toNatClampNeg) := by
    unfold x7_sx
    rw [eW1, a1, a4, agn_eq u2.2.2.1 u2.2.2.2.1 u2.2.2.2.2.2.2.1 c0.2.2.2.2.2.2.2.2.1]
    exact m_agr_c (fun q => by simp [up2]) (fun q => by simp [up2]) (fun q => by simp [up2]) (fun q => by simp [up2]) (by simp [up2]) (by simp [up2])
  have hXr : m_agreement M (M (14, 16, 0) s.toNatClampNeg) (M (14, 19, 0) s.toNatClampNeg) = -1 ∨ vp_in (m_agreement M (M (14, 16, 0) s.toNatClampNeg) (M (14, 19, 0) s.toNatClampNeg)) (cn 0) := by
    rw [← agn_eq hT hC hA c0.2.2.2.2.2.2.2.2.1]
    exact agNow_in C _ _ _ (by have := c0.2.2.2.2.2.2.2.2.1; omega)
  have eK : x7_sK C s.toNatClampNeg = 6 * (M (14, 19, 0) s.toNatClampNeg).toNatClampNeg + (M (14, 16, 0) s.toNatClampNeg).toNatClampNeg := by unfold x7_sK; rw [a4, a1]
  have u3 := u_rc u2 hR9 hA6 hH6 h0 h6 eK hXr
  unfold x7_sW2 x7_sR
  rw [eX, eW1, hT.2.2.1]
  unfold m_records
  rw [show m_isAbroad (up2 (up2 (up2 M (14, 24, 0) s.toNatClampNeg (M (14, 24, 0) s.toNatClampNeg + nI p)) (14, 26, 0) s.toNatClampNeg (nI (a + p))) (14, 25, 0) s.toNatClampNeg (nI (t / 43200))) s = m_isAbroad M s by unfold m_isAbroad; simp [up2], if_neg e]
  have g29 : up2 (up2 (up2 M (14, 24, 0) s.toNatClampNeg (M (14, 24, 0) s.toNatClampNeg + nI p)) (14, 26, 0) s.toNatClampNeg (nI (a + p))) (14, 25, 0) s.toNatClampNeg (nI (t / 43200)) (16, 0, 0) 29 = nI R := by simp [up2]; exact hC.2.2
  have g1 : up2 (up2 (up2 M (14, 24, 0) s.toNatClampNeg (M (14, 24, 0) s.toNatClampNeg + nI p)) (14, 26, 0) s.toNatClampNeg (nI (a + p))) (14, 25, 0) s.toNatClampNeg (nI (t / 43200)) (16, 0, 0) 1 = nI t := by simp [up2]; exact hT.2.2.2
  have g16 : up2 (up2 (up2 M (14, 24, 0) s.toNatClampNeg (M (14, 24, 0) s.toNatClampNeg + nI p)) (14, 26, 0) s.toNatClampNeg (nI (a + p))) (14, 25, 0) s.toNatClampNeg (nI (t / 43200)) (14, 16, 0) s.toNatClampNeg = M (14, 16, 0) s.toNatClampNeg := by simp [up2]
  have g19 : up2 (up2 (up2 M (14, 24, 0) s.toNatClampNeg (M (14, 24, 0) s.toNatClampNeg + nI p)) (14, 26, 0) s.toNatClampNeg (nI (a + p))) (14, 25, 0) s.toNatClampNeg (nI (t / 43200)) (14, 19, 0) s.toNatClampNeg = M (14, 19, 0) s.toNatClampNeg := by simp [up2]
  rw [g29, g1, g16, g19, nI_clamp (show R < 2 ^ 31 by omega), nI_1]
  rw [m_agr_c (W := M) (fun q => by simp [up2]) (fun q => by simp [up2]) (fun q => by simp [up2]) (fun q => by simp [up2]) (by simp [up2]) (by simp [up2])]
  exact u3
