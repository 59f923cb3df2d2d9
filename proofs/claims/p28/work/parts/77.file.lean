theorem lt_sx {j n : Nat} (h : j ≠ n) : (j < n + 1) = (j < n) := propext ⟨fun _ => by omega, fun _ => by omega⟩
theorem ftr_at (C : rb_I) (k : Nat) (n : Nat) : (∀ j, fo (x0_ftr_b C k) n C (12, k, j) 3 = if j < n ∧ C (12, k, j) 3 = 0 then 1 else C (12, k, j) 3) ∧ (∀ j, fo (x0_ftr_b C k) n C (12, k, j) 4 = if j < n ∧ C (12, k, j) 3 = 0 then C (8, k, 0) 1 else C (12, k, j) 4) ∧ ∀ r q, ¬ (r.1 = 12 ∧ r.2.1 = k ∧ (q = 3 ∨ q = 4)) → fo (x0_ftr_b C k) n C r q = C r q := by
  induction n with
  | zero =>
    rw [fo_0]
    exact ⟨fun j => by rw [if_neg (fun q => absurd q.1 (Nat.not_lt_zero _))], fun j => by rw [if_neg (fun q => absurd q.1 (Nat.not_lt_zero _))], fun _ _ _ => rfl⟩
  | succ n ih =>
    obtain ⟨h1, h2, h3⟩ := ih
    rw [fo_s]
    generalize fo (x0_ftr_b C k) n C = s at *
    have hn := h1 n
    rw [if_neg (fun q => absurd q.1 (Nat.lt_irrefl _))] at hn
    unfold x0_ftr_b
    rw [hn]
    by_cases e : C (12, k, n) 3 = 0
    · rw [if_pos e]
      refine ⟨fun j => ?_, fun j => ?_, fun r q hq => ?_⟩
      · by_cases ej : j = n
        · subst ej; simp [up2, e]
        · simp only [lt_sx ej]; rw [← h1 j]; simp [up2, ej]
      · by_cases ej : j = n
        · subst ej; simp [up2, e]
        · simp only [lt_sx ej]; rw [← h2 j]; simp [up2, ej]
      · rw [up2_n _ _ _ _ (fun z => hq (by rw [z.1, z.2]; exact ⟨rfl, rfl, Or.inr rfl⟩)), up2_n _ _ _ _ (fun z => hq (by rw [z.1, z.2]; exact ⟨rfl, rfl, Or.inl rfl⟩))]
        exact h3 r q hq
    · rw [if_neg e]
      refine ⟨fun j => ?_, fun j => ?_, h3⟩
      · by_cases ej : j = n
        · subst ej; rw [if_neg (fun q => e q.2)]; exact hn
        · simp only [lt_sx ej]; exact h1 j
      · by_cases ej : j = n
        · subst ej
          have h2j := h2 j
          rw [if_neg (fun q => e q.2)] at h2j ⊢
          exact h2j
        · simp only [lt_sx ej]; exact h2 j
theorem mfl_at (M M0 : rb_I) {vi ho : Int32} (hv : vp_in vi 6) (hh : vp_in ho 6) (R : Nat) (hR : R ≤ 400) (hr : ∀ r, r < R → vp_in (M0 (14, 31, 0) r) 6 ∧ vp_in (M0 (14, 30, 0) r) 6) (n : Nat) (hn : n ≤ R) :
    (∀ j, fo (m_file_b M vi ho) n M0 (14, 35, 0) j = if j < n ∧ rc_k M0 j = 6 * vi.toNatClampNeg + ho.toNatClampNeg ∧ M0 (14, 35, 0) j = 0 then 1 else M0 (14, 35, 0) j) ∧ (∀ j, fo (m_file_b M vi ho) n M0 (14, 36, 0) j = if j < n ∧ rc_k M0 j = 6 * vi.toNatClampNeg + ho.toNatClampNeg ∧ M0 (14, 35, 0) j = 0 then M (14, 37, 0) (6 * vi.toNatClampNeg + ho.toNatClampNeg) else M0 (14, 36, 0) j) ∧ ∀ r q, r ≠ (14, 35, 0) → r ≠ (14, 36, 0) → fo (m_file_b M vi ho) n M0 r q = M0 r q := by
  induction n with
  | zero =>
    rw [fo_0]
    exact ⟨fun j => by rw [if_neg (fun q => absurd q.1 (Nat.not_lt_zero _))], fun j => by rw [if_neg (fun q => absurd q.1 (Nat.not_lt_zero _))], fun _ _ _ _ => rfl⟩
  | succ n ih =>
    obtain ⟨h1, h2, h3⟩ := ih (by omega)
    rw [fo_s]
    generalize fo (m_file_b M vi ho) n M0 = s at *
    have hn1 := h1 n
    rw [if_neg (fun q => absurd q.1 (Nat.lt_irrefl _))] at hn1
    obtain ⟨r1, r2⟩ := hr n (by omega)
    have e31 : s (14, 31, 0) n = M0 (14, 31, 0) n := h3 _ _ (by simp) (by simp)
    have e30 : s (14, 30, 0) n = M0 (14, 30, 0) n := h3 _ _ (by simp) (by simp)
    have ek : rc_k s n = rc_k M0 n := by unfold rc_k; rw [e31, e30]
    unfold m_file_b
    rw [isOf_eq (by omega) (by rw [e31]; exact r1) (by rw [e30]; exact r2) hv hh, hn1, ek]
    by_cases e0 : rc_k M0 n = 6 * vi.toNatClampNeg + ho.toNatClampNeg
    · rw [if_pos e0, if_neg (by decide)]
      by_cases e : M0 (14, 35, 0) n = 0
      · rw [if_pos e]
        refine ⟨fun j => ?_, fun j => ?_, fun r q hq hq' => ?_⟩
        · by_cases ej : j = n
          · subst ej; simp [up2, e, e0]
          · simp only [lt_sx ej]; rw [← h1 j]; simp [up2, ej]
        · by_cases ej : j = n
          · subst ej; simp [up2, e, e0]
          · simp only [lt_sx ej]; rw [← h2 j]; simp [up2, ej]
        · rw [up2_n _ _ _ _ (fun z => hq' z.1), up2_n _ _ _ _ (fun z => hq z.1)]
          exact h3 r q hq hq'
      · rw [if_neg e]
        refine ⟨fun j => ?_, fun j => ?_, h3⟩
        · by_cases ej : j = n
          · subst ej; rw [if_neg (fun q => e q.2.2)]; exact hn1
          · simp only [lt_sx ej]; exact h1 j
        · by_cases ej : j = n
          · subst ej
            have h2j := h2 j
            rw [if_neg (fun q => e q.2.2)] at h2j ⊢
            exact h2j
          · simp only [lt_sx ej]; exact h2 j
    · rw [if_neg e0, if_pos rfl]
      refine ⟨fun j => ?_, fun j => ?_, h3⟩
      · by_cases ej : j = n
        · subst ej; rw [if_neg (fun q => e0 q.2.1)]; exact hn1
        · simp only [lt_sx ej]; exact h1 j
      · by_cases ej : j = n
        · subst ej
          have h2j := h2 j
          rw [if_neg (fun q => e0 q.2.1)] at h2j ⊢
          exact h2j
        · simp only [lt_sx ej]; exact h2 j
theorem u_acc {C M : rb_I} {cn : Nat → Nat} {ag : Nat → Nat → Int32} {t R : Nat} (h : sx C M cn ag t R) {C' M' : rb_I} (fc : ∀ a b c q, a ≠ 12 → a ≠ 8 → C' (a, b, c) q = C (a, b, c) q) (fm : ∀ a b c q, ¬ (a = 14 ∧ (b = 35 ∨ b = 36 ∨ b = 37 ∨ b = 38)) → ¬ (a = 16 ∧ b = 0 ∧ c = 0 ∧ q = 0) → M' (a, b, c) q = M (a, b, c) q) (hK9 : sx_K C' M' cn ag R) : sx C' M' cn ag t R := by
  obtain ⟨⟨c0, m0, hT, hC, hR, hN, hA, hS, hZ, hM, hB, hK⟩, k28, hR2, hP⟩ := h
  exact ⟨⟨(xCI_c c0 (fun b => fc _ _ _ _ (by decide) (by decide)) (fun b q hq => fc _ _ _ _ (by decide) (by decide)) (fun b q hq => fc _ _ _ _ (by decide) (by decide))), (MI_c m0 (fun q => fm _ _ _ _ (by simp) (by simp)) (fun q => fm _ _ _ _ (by simp) (by simp)) (fun q => fm _ _ _ _ (by simp) (by simp)) (fun q => fm _ _ _ _ (by simp) (by simp)) (fun q => fm _ _ _ _ (by simp) (by simp)) (fun q => fm _ _ _ _ (by simp) (by simp)) (fm _ _ _ _ (by simp) (by simp)) (fm _ _ _ _ (by simp) (by simp)) (fm _ _ _ _ (by simp) (by simp)) (fm _ _ _ _ (by simp) (by simp)) (fun q => fm _ _ _ _ (by simp) (by simp))), (sx_T_c hT (fc _ _ _ _ (by decide) (by decide)) (fm _ _ _ _ (by simp) (by simp))), (sx_C_c hC (fm _ _ _ _ (by simp) (by simp)) (fm _ _ _ _ (by simp) (by simp)) (fm _ _ _ _ (by simp) (by simp)) rfl rfl), (sx_R_c hR (fun q => fc _ _ _ _ (by decide) (by decide)) (fun q => fm _ _ _ _ (by simp) (by simp))), (sx_N_c hN (fun b c q => fc _ _ _ _ (by decide) (by decide)) (fun q => fm _ _ _ _ (by simp) (by simp)) (fun q => fm _ _ _ _ (by simp) (by simp)) (fun q => fm _ _ _ _ (by simp) (by simp)) (fun q => fm _ _ _ _ (by simp) (by simp))), (sx_A_c hA rfl (fun b c q => fc _ _ _ _ (by decide) (by decide)) (fun q => fm _ _ _ _ (by simp) (by simp)) (fun q => fm _ _ _ _ (by simp) (by simp)) (fun q => fm _ _ _ _ (by simp) (by simp)) (fun q => fm _ _ _ _ (by simp) (by simp)) (fun q => fm _ _ _ _ (by simp) (by simp)) (fun q => fm _ _ _ _ (by simp) (by simp)) (fun q => fm _ _ _ _ (by simp) (by simp))), (sx_S_c hS rfl (fun b c q hq => fc _ _ _ _ (by decide) (by decide)) (fun q => fm _ _ _ _ (by simp) (by simp)) (fun q => fm _ _ _ _ (by simp) (by simp)) (fun q => fm _ _ _ _ (by simp) (by simp)) (fun q => fm _ _ _ _ (by simp) (by simp)) (fun q => fm _ _ _ _ (by simp) (by simp)) (fun q => fm _ _ _ _ (by simp) (by simp)) (fun q => fm _ _ _ _ (by simp) (by simp)) (fun q => fm _ _ _ _ (by simp) (by simp)) (fun q => fm _ _ _ _ (by simp) (by simp))), (sx_Z_c hZ rfl (fun q => fm _ _ _ _ (by simp) (by simp)) (fun q => fm _ _ _ _ (by simp) (by simp)) (fun q => fm _ _ _ _ (by simp) (by simp)) (fun q => fm _ _ _ _ (by simp) (by simp)) (fun q => fm _ _ _ _ (by simp) (by simp))), (sx_M_c hM rfl (fun _ => Nat.le_refl _) (fun b c => fc _ _ _ _ (by decide) (by decide)) (fun q => fm _ _ _ _ (by simp) (by simp)) (fun q => fm _ _ _ _ (by simp) (by simp))), (sx_B_c hB (fun b c q => fc _ _ _ _ (by decide) (by decide)) (fun q => fm _ _ _ _ (by simp) (by simp))), hK9⟩, (fm _ _ _ _ (by simp) (by simp)).trans k28, hR2, sx_P_c hP rfl (fun b c q => fc _ _ _ _ (by decide) (by decide)) (fun q => fm _ _ _ _ (by simp) (by simp))⟩
theorem s_file {C M : rb_I} {cn : Nat → Nat} {ag : Nat → Nat → Int32} {t R : Nat} (h : sx C M cn ag t R) (vi ho : Int32) : okc sq_2 (x7_file C cn vi ho) (m_file M vi ho).1 (m_file M vi ho).2 cn ag := by
  have h9 := h
  obtain ⟨⟨c0, m0, hT, hC, hR, hN, hA, hS, hZ, hM, hB, hK⟩, k28, hR2, hP⟩ := h
  unfold x7_file m_file
  by_cases e1 : m_isNetwork vi = 0
  · simp only [if_pos e1]
    exact ok_thr h9 _ _ _ _ _ sq_21 (by decide)
  simp only [if_neg e1]
  by_cases e2 : m_isNetwork ho = 0
  · simp only [if_pos e2]
    exact ok_thr h9 _ _ _ _ _ sq_21 (by decide)
  simp only [if_neg e2]
  have hv := isNetwork_in e1
  have hh := isNetwork_in e2
  have hR9 : R ≤ 400 := by have := c0.2.2.2.2.2.2.2.2.2.2.1; omega
  have hK9 := (sx_thr h9 0).1.2.2.2.2.2.2.2.2.2.2.2
  have hmo := mo_eq hK9 hR9 hv hh (by simp [up2]; exact hC.2.2) 0
  obtain ⟨S, hS1, hS2⟩ := mo_nat hK9 hR9 hv hh (by simp [up2]; exact hC.2.2) 0
  obtain ⟨f, g, c1, c2, c3, c4, c5, c6⟩ := hK.2.1 _ (k36 hv hh)
  unfold x0_hasUnfiled
  rw [hmo, hS2, c1, c2]
  by_cases e3 : S = 0
  · subst e3
    rw [if_pos (show nI 0 ≤ 0 by decide), if_pos rfl, if_pos (show nI 0 = 0 by decide)]
    exact ok_thr (sx_thr h9 0) _ _ _ _ _ sq_23 (by decide)
  rw [if_neg (show ¬ nI S ≤ 0 from nI_nle (by omega) (by omega)), if_neg (by decide), if_neg (show ¬ nI S = 0 from nI_ne0 (by omega) (by omega))]
  by_cases e4 : f = 20
  · subst e4
    rw [if_neg (show ¬ nI 20 < 20 by decide), if_pos (show nI 20 = 20 by decide)]
    exact ok_thr (sx_thr h9 0) _ _ _ _ _ sq_23 (by decide)
  rw [if_pos (show nI f < 20 from nI_lt (a := f) (b := 20) (by omega) (by decide)), if_neg (show ¬ nI f = 20 from fun q => e4 ((nI_eq (a := f) (b := 20) (by omega) (by decide)).mp q))]
  unfold x0_fileTheRest
  rw [hC.2.2, nI_clamp (show R < 2 ^ 31 by omega)]
  obtain ⟨p1, p2, p3⟩ := ftr_at C (6 * vi.toNatClampNeg + ho.toNatClampNeg) (cn (10 + (6 * vi.toNatClampNeg + ho.toNatClampNeg)))
  obtain ⟨w1, w2, w3⟩ := mfl_at M (up2 (up2 M (16, 0, 0) 0 0) (16, 0, 0) 0 0) hv hh R hR9 (fun r hr => by have := hK.2.2.2.2 r hr; simp [up2]; exact ⟨this.1, this.2.1⟩) R (Nat.le_refl _)
  simp only []
  rw [p3 (8, (6 * vi.toNatClampNeg + ho.toNatClampNeg), 0) 1 (by simp), w3 (14, 37, 0) (6 * vi.toNatClampNeg + ho.toNatClampNeg) (by simp) (by simp), c1]
  have c2' : up2 (up2 M (16, 0, 0) 0 0) (16, 0, 0) 0 0 (14, 37, 0) (6 * vi.toNatClampNeg + ho.toNatClampNeg) = nI f := by simp [up2]; exact c2
  rw [c2', nI_1]
  have ek : ∀ r, rc_k (up2 (up2 M (16, 0, 0) 0 0) (16, 0, 0) 0 0) r = rc_k M r := fun r => by unfold rc_k; simp [up2]
  have e35 : ∀ r, (up2 (up2 M (16, 0, 0) 0 0) (16, 0, 0) 0 0) (14, 35, 0) r = M (14, 35, 0) r := fun r => by simp [up2]
  have e36 : ∀ r, (up2 (up2 M (16, 0, 0) 0 0) (16, 0, 0) 0 0) (14, 36, 0) r = M (14, 36, 0) r := fun r => by simp [up2]
  simp only [ek, e35, e36, c1, c2] at p1 p2 w1 w2
  generalize hCf : fo (x0_ftr_b C (6 * vi.toNatClampNeg + ho.toNatClampNeg)) (cn (10 + (6 * vi.toNatClampNeg + ho.toNatClampNeg))) C = Cf at *
  generalize hMf : fo (m_file_b M vi ho) R (up2 (up2 M (16, 0, 0) 0 0) (16, 0, 0) 0 0) = Mf at *
  refine ⟨?_, fun _ => rfl, t, R, u_acc h9 (fun a b c q h12 h8 => ?_) (fun a b c q h14 h16 => ?_) ?_⟩
  · rw [up2_n _ _ _ _ (by simp), w3 _ _ (by simp) (by simp)]; simp [up2, sq_20]
  · show up2 Cf (8, (6 * vi.toNatClampNeg + ho.toNatClampNeg), 0) 1 (nI (f + 1)) (a, b, c) q = C (a, b, c) q
    rw [up2_n _ _ _ _ (fun z => h8 (congrArg Prod.fst z.1)), p3 _ _ (fun z => h12 z.1)]
  · rw [up2_n _ _ _ _ (fun z => h14 (by have := z.1; simp at this; exact ⟨this.1, by omega⟩)), w3 _ _ (fun z => h14 (by simp at z; exact ⟨z.1, by omega⟩)) (fun z => h14 (by simp at z; exact ⟨z.1, by omega⟩)), up2_n _ _ _ _ (fun z => h16 (by have := z.1; simp at this; exact ⟨this.1, this.2.1, this.2.2, z.2⟩)), up2_n _ _ _ _ (fun z => h16 (by have := z.1; simp at this; exact ⟨this.1, this.2.1, this.2.2, z.2⟩))]
  · show sx_K (up2 Cf (8, (6 * vi.toNatClampNeg + ho.toNatClampNeg), 0) 1 (nI (f + 1))) (up2 Mf (14, 37, 0) (6 * vi.toNatClampNeg + ho.toNatClampNeg) (nI (f + 1))) cn ag R
    have hm : ∀ b q, b ≠ 35 → b ≠ 36 → b ≠ 37 → up2 Mf (14, 37, 0) (6 * vi.toNatClampNeg + ho.toNatClampNeg) (nI (f + 1)) (14, b, 0) q = M (14, b, 0) q := fun b q h5 h6 h7 => by
      rw [up2_n _ _ _ _ (fun z => h7 (congrArg (fun r : rb_R => r.2.1) z.1)), w3 _ _ (fun z => h5 (congrArg (fun r : rb_R => r.2.1) z)) (fun z => h6 (congrArg (fun r : rb_R => r.2.1) z))]; simp [up2]
    have m35 : ∀ q, up2 Mf (14, 37, 0) (6 * vi.toNatClampNeg + ho.toNatClampNeg) (nI (f + 1)) (14, 35, 0) q = Mf (14, 35, 0) q := fun q => by simp [up2]
    have m36 : ∀ q, up2 Mf (14, 37, 0) (6 * vi.toNatClampNeg + ho.toNatClampNeg) (nI (f + 1)) (14, 36, 0) q = Mf (14, 36, 0) q := fun q => by simp [up2]
    have hc : ∀ b c q, q ≠ 3 → q ≠ 4 → up2 Cf (8, (6 * vi.toNatClampNeg + ho.toNatClampNeg), 0) 1 (nI (f + 1)) (12, b, c) q = C (12, b, c) q := fun b c q h3 h4 => by
      rw [up2_n _ _ _ _ (by simp), p3 _ _ (fun z => z.2.2.elim h3 h4)]
    have hcn : ∀ b c q, b ≠ (6 * vi.toNatClampNeg + ho.toNatClampNeg) → up2 Cf (8, (6 * vi.toNatClampNeg + ho.toNatClampNeg), 0) 1 (nI (f + 1)) (12, b, c) q = C (12, b, c) q := fun b c q hb => by
      rw [up2_n _ _ _ _ (by simp), p3 _ _ (fun z => hb z.2.1)]
    have h82 : ∀ b, up2 Cf (8, (6 * vi.toNatClampNeg + ho.toNatClampNeg), 0) 1 (nI (f + 1)) (8, b, 0) 2 = C (8, b, 0) 2 := fun b => by
      rw [up2_n _ _ _ _ (by simp), p3 _ _ (by simp)]
    have rk : ∀ r, rc_k (up2 Mf (14, 37, 0) (6 * vi.toNatClampNeg + ho.toNatClampNeg) (nI (f + 1))) r = rc_k M r := fun r => by
      unfold rc_k
      rw [hm 31 r (by decide) (by decide) (by decide), hm 30 r (by decide) (by decide) (by decide)]
    have rn : ∀ k r, rc_n (up2 Mf (14, 37, 0) (6 * vi.toNatClampNeg + ho.toNatClampNeg) (nI (f + 1))) k r = rc_n M k r := fun k r => rc_n_c (R := r) (fun q _ => hm 30 q (by decide) (by decide) (by decide)) (fun q _ => hm 31 q (by decide) (by decide) (by decide)) k r (Nat.le_refl _)
    refine ⟨fun k hk => by rw [rn]; exact hK.1 k hk, fun k hk => ?_, fun k => by rw [h82]; exact hK.2.2.1 k, fun r hr => by rw [hm 34 r (by decide) (by decide) (by decide)]; exact hK.2.2.2.1 r hr, fun r hr => ?_⟩
    · by_cases ek9 : k = (6 * vi.toNatClampNeg + ho.toNatClampNeg)
      · refine ⟨f + 1, g, ?_, ?_, ?_, ?_, by omega, by omega⟩
        · rw [ek9, up2_s]
        · rw [ek9, up2_s]
        · rw [h82, ek9]; exact c3
        · rw [hm 38 k (by decide) (by decide) (by decide), ek9]; exact c4
      · obtain ⟨f', g', d1, d2, d3, d4, d5, d6⟩ := hK.2.1 k hk
        refine ⟨f', g', ?_, ?_, ?_, ?_, d5, d6⟩
        · rw [up2_n _ _ _ _ (fun z => ek9 (congrArg (fun r : rb_R => r.2.1) z.1)), p3 _ _ (by simp)]; exact d1
        · rw [up2_n _ _ _ _ (fun z => ek9 z.2), w3 _ _ (by simp) (by simp)]; simp [up2]; exact d2
        · rw [h82]; exact d3
        · rw [hm 38 k (by decide) (by decide) (by decide)]; exact d4
    · obtain ⟨h1, h0, b1, b2, b3, b4, b5, b6, b7⟩ := hK.2.2.2.2 r hr
      rw [rk, rn]
      unfold rc_E
      rw [hm 31 r (by decide) (by decide) (by decide), hm 30 r (by decide) (by decide) (by decide), hm 32 r (by decide) (by decide) (by decide), hm 33 r (by decide) (by decide) (by decide), hm 34 r (by decide) (by decide) (by decide), hm 38 _ (by decide) (by decide) (by decide), m35, m36, hc _ _ 0 (by decide) (by decide), hc _ _ 1 (by decide) (by decide), w1, w2]
      refine ⟨h1, h0, b1, b2, b3, ?_⟩
      by_cases ek9 : rc_k M r = (6 * vi.toNatClampNeg + ho.toNatClampNeg)
      · have hlt := rc_lt ek9 hr
        rw [← hK.1 _ (k36 hv hh)] at hlt
        have q3 : up2 Cf (8, (6 * vi.toNatClampNeg + ho.toNatClampNeg), 0) 1 (nI (f + 1)) (12, rc_k M r, rc_n M (rc_k M r) r) 3 = if C (12, rc_k M r, rc_n M (rc_k M r) r) 3 = 0 then 1 else C (12, rc_k M r, rc_n M (rc_k M r) r) 3 := by
          rw [up2_n _ _ _ _ (by simp), ek9, p1]
          simp [hlt]
        have q4 : up2 Cf (8, (6 * vi.toNatClampNeg + ho.toNatClampNeg), 0) 1 (nI (f + 1)) (12, rc_k M r, rc_n M (rc_k M r) r) 4 = if C (12, rc_k M r, rc_n M (rc_k M r) r) 3 = 0 then nI f else C (12, rc_k M r, rc_n M (rc_k M r) r) 4 := by
          rw [up2_n _ _ _ _ (by simp), ek9, p2]
          simp [hlt]
        rw [q3, q4, b4, b5]
        by_cases e5 : M (14, 35, 0) r = 0
        · have cT : r < R ∧ rc_k M r = (6 * vi.toNatClampNeg + ho.toNatClampNeg) ∧ M (14, 35, 0) r = 0 := ⟨hr, ek9, e5⟩
          (repeat rw [if_pos cT])
          (repeat rw [if_pos e5])
          refine ⟨rfl, by rw [if_neg (by decide)], b6, Or.inr ⟨f, rfl, Or.inl ⟨rfl, ?_, ?_⟩⟩⟩
          · rw [ek9, c4, nI_clamp (by omega)]; omega
          · rw [ek9, up2_s, nI_clamp (by omega)]; omega
        · have cT : ¬ (r < R ∧ rc_k M r = (6 * vi.toNatClampNeg + ho.toNatClampNeg) ∧ M (14, 35, 0) r = 0) := fun q => e5 q.2.2
          (repeat rw [if_neg cT])
          (repeat rw [if_neg e5])
          refine ⟨rfl, rfl, b6, ?_⟩
          rcases b7 with q | ⟨f', f1, f2⟩
          · exact absurd q e5
          · refine Or.inr ⟨f', f1, ?_⟩
            rcases f2 with ⟨q1, q2, q3⟩ | q
            · refine Or.inl ⟨q1, q2, ?_⟩
              rw [ek9, up2_s, nI_clamp (by omega)]
              rw [ek9, c2, nI_clamp (by omega)] at q3
              omega
            · exact Or.inr q
      · have u37 : up2 Mf (14, 37, 0) (6 * vi.toNatClampNeg + ho.toNatClampNeg) (nI (f + 1)) (14, 37, 0) (rc_k M r) = M (14, 37, 0) (rc_k M r) := by
          rw [up2_n _ _ _ _ (fun z => ek9 z.2), w3 _ _ (by simp) (by simp)]; simp [up2]
        have cT : ¬ (r < R ∧ rc_k M r = (6 * vi.toNatClampNeg + ho.toNatClampNeg) ∧ M (14, 35, 0) r = 0) := fun q => ek9 q.2.1
        rw [hcn _ _ 3 ek9, hcn _ _ 4 ek9, u37]
        (repeat rw [if_neg cT])
        exact ⟨b4, b5, b6, b7⟩
