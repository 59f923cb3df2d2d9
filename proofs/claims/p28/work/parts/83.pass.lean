theorem u_now {C M : rb_I} {cn : Nat → Nat} {ag : Nat → Nat → Int32} {tc t R : Nat} {bd : Nat → Nat} (h : sx_1 C M cn ag tc t R bd) (ht : t + 1 < 1000000) : sx_1 C (up2 M (16, 0, 0) 1 (nI (t + 1))) cn ag tc (t + 1) R bd := by
  obtain ⟨c0, m0, hT, hC, hR, hN, hA, hS, hZ, hM, hB, hK⟩ := h
  have hT9 : sx_T C (up2 M (16, 0, 0) 1 (nI (t + 1))) tc (t + 1) := ⟨Nat.le_succ_of_le hT.1, ht, hT.2.2.1, up2_s _ _ _ _⟩
  have hB9 : sx_B C (up2 M (16, 0, 0) 1 (nI (t + 1))) (t + 1) := fun n s hn hs => by
    obtain ⟨b1, b2⟩ := hB n s hn hs
    exact ⟨by simp [up2]; exact b1, b2.imp id (fun ⟨e, h1, h2⟩ => ⟨e, by omega, h2⟩)⟩
  exact ⟨(xCI_c c0 (fun b => by simp [up2]) (fun b q hq => by rcases hq with rfl | rfl <;> simp [up2]) (fun b q hq => by rcases hq with rfl | rfl | rfl | rfl | rfl <;> simp [up2])), (MI_c m0 (fun q => by simp [up2]) (fun q => by simp [up2]) (fun q => by simp [up2]) (fun q => by simp [up2]) (fun q => by simp [up2]) (fun q => by simp [up2]) (by simp [up2]) (by simp [up2]) (by simp [up2]) (by simp [up2]) (fun q => by simp [up2])), hT9, (sx_C_c hC (by simp [up2]) (by simp [up2]) (by simp [up2]) rfl rfl), (sx_R_c hR (fun q => by simp [up2]) (fun q => by simp [up2])), (sx_N_c hN (fun b c q => by simp [up2]) (fun q => by simp [up2]) (fun q => by simp [up2]) (fun q => by simp [up2]) (fun q => by simp [up2])), (sx_A_c hA rfl (fun b c q => by simp [up2]) (fun q => by simp [up2]) (fun q => by simp [up2]) (fun q => by simp [up2]) (fun q => by simp [up2]) (fun q => by simp [up2]) (fun q => by simp [up2]) (fun q => by simp [up2])), (sx_S_c hS rfl (fun b c q hq => by simp [up2, hq]) (fun q => by simp [up2]) (fun q => by simp [up2]) (fun q => by simp [up2]) (fun q => by simp [up2]) (fun q => by simp [up2]) (fun q => by simp [up2]) (fun q => by simp [up2]) (fun q => by simp [up2]) (fun q => by simp [up2])), (sx_Z_c hZ rfl (fun q => by simp [up2]) (fun q => by simp [up2]) (fun q => by simp [up2]) (fun q => by simp [up2]) (fun q => by simp [up2])), (sx_M_c hM rfl (fun _ => Nat.le_refl _) (fun b c => by simp [up2]) (fun q => by simp [up2]) (fun q => by simp [up2])), hB9, (sx_K_c hK (Nat.le_refl _) (fun _ => rfl) (fun b c q => by simp [up2]) (fun b c q => by simp [up2]) (fun q => by simp [up2]) (fun q => by simp [up2]) (fun q => by simp [up2]) (fun q => by simp [up2]) (fun q => by simp [up2]) (fun q => by simp [up2]) (fun q => by simp [up2]) (fun q => by simp [up2]) (fun q => by simp [up2]))⟩
theorem u_cls {C M : rb_I} {cn : Nat → Nat} {ag : Nat → Nat → Int32} {tc t R : Nat} {bd : Nat → Nat} (h : sx_1 C M cn ag tc t R bd) (e : t / 43200 = tc / 43200) : sx_1 (up2 C (0, 0, 0) 6 (nI t)) M cn ag t t R bd := by
  obtain ⟨c0, m0, hT, hC, hR, hN, hA, hS, hZ, hM, hB, hK⟩ := h
  have hle : tc / 43200 ≤ t / 43200 := Nat.div_le_div_right hT.1
  have hT9 : sx_T (up2 C (0, 0, 0) 6 (nI t)) M t t := ⟨Nat.le_refl _, hT.2.1, up2_s _ _ _ _, hT.2.2.2⟩
  have hM9 : sx_M (up2 C (0, 0, 0) 6 (nI t)) M cn t bd := fun s hs => by
    obtain ⟨a, mo, b1, b2, b3, b4, b5, b6⟩ := hM s hs
    exact ⟨a, mo, by simp [up2]; exact b1, b2, b3, by omega, fun q => b5 (by omega), fun q => b6 (by omega)⟩
  exact ⟨(xCI_c c0 (fun b => by simp [up2]) (fun b q hq => by rcases hq with rfl | rfl <;> simp [up2]) (fun b q hq => by rcases hq with rfl | rfl | rfl | rfl | rfl <;> simp [up2])), (MI_c m0 (fun q => by simp [up2]) (fun q => by simp [up2]) (fun q => by simp [up2]) (fun q => by simp [up2]) (fun q => by simp [up2]) (fun q => by simp [up2]) (by simp [up2]) (by simp [up2]) (by simp [up2]) (by simp [up2]) (fun q => by simp [up2])), hT9, (sx_C_c hC (by simp [up2]) (by simp [up2]) (by simp [up2]) rfl rfl), (sx_R_c hR (fun q => by simp [up2]) (fun q => by simp [up2])), (sx_N_c hN (fun b c q => by simp [up2]) (fun q => by simp [up2]) (fun q => by simp [up2]) (fun q => by simp [up2]) (fun q => by simp [up2])), (sx_A_c hA rfl (fun b c q => by simp [up2]) (fun q => by simp [up2]) (fun q => by simp [up2]) (fun q => by simp [up2]) (fun q => by simp [up2]) (fun q => by simp [up2]) (fun q => by simp [up2]) (fun q => by simp [up2])), (sx_S_c hS rfl (fun b c q hq => by simp [up2, hq]) (fun q => by simp [up2]) (fun q => by simp [up2]) (fun q => by simp [up2]) (fun q => by simp [up2]) (fun q => by simp [up2]) (fun q => by simp [up2]) (fun q => by simp [up2]) (fun q => by simp [up2]) (fun q => by simp [up2])), (sx_Z_c hZ rfl (fun q => by simp [up2]) (fun q => by simp [up2]) (fun q => by simp [up2]) (fun q => by simp [up2]) (fun q => by simp [up2])), hM9, (sx_B_c hB (fun b c q => by simp [up2]) (fun q => by simp [up2])), (sx_K_c hK (Nat.le_refl _) (fun _ => rfl) (fun b c q => by simp [up2]) (fun b c q => by simp [up2]) (fun q => by simp [up2]) (fun q => by simp [up2]) (fun q => by simp [up2]) (fun q => by simp [up2]) (fun q => by simp [up2]) (fun q => by simp [up2]) (fun q => by simp [up2]) (fun q => by simp [up2]) (fun q => by simp [up2]))⟩
theorem u_clm {C M : rb_I} {cn : Nat → Nat} {ag : Nat → Nat → Int32} {tc t R : Nat} {bd : Nat → Nat} (h : sx_1 C M cn ag tc t R bd) (e : t / 43200 ≠ tc / 43200) : sx_1 (up2 (x7_beginMonth C cn) (0, 0, 0) 6 (nI t)) M cn ag t t R bd := by
  obtain ⟨c0, m0, hT, hC, hR, hN, hA, hS, hZ, hM, hB, hK⟩ := h
  have hle : tc / 43200 ≤ t / 43200 := Nat.div_le_div_right hT.1
  have bm : ∀ n, (∀ s, fo x7_bm_b n C (9, s, 0) 10 = if s < n then 0 else C (9, s, 0) 10) ∧ ∀ r q, ¬ (r.1 = 9 ∧ q = 10) → fo x7_bm_b n C r q = C r q := by
    intro n
    induction n with
    | zero => rw [fo_0]; exact ⟨fun s => by rw [if_neg (Nat.not_lt_zero _)], fun _ _ _ => rfl⟩
    | succ n ih =>
      obtain ⟨h1, h2⟩ := ih
      rw [fo_s]
      generalize fo x7_bm_b n C = S at *
      unfold x7_bm_b
      refine ⟨fun s => ?_, fun r q hq => ?_⟩
      · by_cases es : s = n
        · subst es; rw [up2_s, if_pos (Nat.lt_succ_self _)]
        · rw [up2_n _ _ _ _ (fun z => es (congrArg (fun r : rb_R => r.2.1) z.1)), h1]
          by_cases el : s < n
          · rw [if_pos el, if_pos (by omega)]
          · rw [if_neg el, if_neg (by omega)]
      · rw [up2_n _ _ _ _ (fun z => hq (by rw [z.1, z.2]; exact ⟨rfl, rfl⟩))]
        exact h2 r q hq
  obtain ⟨g1, g2⟩ := bm (cn 1)
  have gg : ∀ r q, ¬ (r.1 = 9 ∧ q = 10) → r.1 ≠ 0 → up2 (x7_beginMonth C cn) (0, 0, 0) 6 (nI t) r q = C r q := fun r q h1 h2 => by
    rw [up2_n _ _ _ _ (fun z => h2 (by rw [z.1]))]
    exact g2 r q h1
  have hT9 : sx_T (up2 (x7_beginMonth C cn) (0, 0, 0) 6 (nI t)) M t t := ⟨Nat.le_refl _, hT.2.1, up2_s _ _ _ _, hT.2.2.2⟩
  have hM9 : sx_M (up2 (x7_beginMonth C cn) (0, 0, 0) 6 (nI t)) M cn t bd := fun s hs => by
    obtain ⟨a, mo, b1, b2, b3, b4, b5, b6⟩ := hM s hs
    refine ⟨0, mo, ?_, Nat.zero_le _, b3, by omega, fun q => by omega, fun _ => rfl⟩
    rw [up2_n _ _ _ _ (by simp)]
    unfold x7_beginMonth
    rw [g1, if_pos hs]
    rfl
  exact ⟨xCI_c c0 (fun b => gg _ _ (by simp) (by simp)) (fun b q _ => gg _ _ (by simp) (by simp)) (fun b q hq => gg _ _ (fun z => by have := z.2; omega) (by simp)), m0, hT9, hC, sx_R_c hR (fun q => gg _ _ (by simp) (by simp)) (fun _ => rfl), sx_N_c hN (fun b c q => gg _ _ (by simp) (by simp)) (fun _ => rfl) (fun _ => rfl) (fun _ => rfl) (fun _ => rfl),
    sx_A_c hA rfl (fun b c q => gg _ _ (by simp) (by simp)) (fun _ => rfl) (fun _ => rfl) (fun _ => rfl) (fun _ => rfl) (fun _ => rfl) (fun _ => rfl) (fun _ => rfl), sx_S_c hS rfl (fun b c q hq => gg _ _ (fun z => hq z.2) (by simp)) (fun _ => rfl) (fun _ => rfl) (fun _ => rfl) (fun _ => rfl) (fun _ => rfl) (fun _ => rfl) (fun _ => rfl) (fun _ => rfl) (fun _ => rfl), hZ, hM9,
    sx_B_c hB (fun b c q => gg _ _ (by simp) (by simp)) (fun _ => rfl), sx_K_c hK (Nat.le_refl _) (fun _ => rfl) (fun b c q => gg _ _ (by simp) (by simp)) (fun b c q => gg _ _ (by simp) (by simp)) (fun _ => rfl) (fun _ => rfl) (fun _ => rfl) (fun _ => rfl) (fun _ => rfl) (fun _ => rfl) (fun _ => rfl) (fun _ => rfl) (fun _ => rfl)⟩
theorem now60 {n : Nat} (hn : n < 1000000) : (nI n - nI n / 60 * 60 = 0) ↔ n % 60 = 0 := by
  rw [dv9 (d := 60) 60 rfl (by decide) (by decide) (by omega), show (60 : Int32) = nI 60 from rfl, pk_mul, pk_sub (by omega), show (0 : Int32) = nI 0 from rfl, nI_eq (by omega) (by omega)]
  omega
theorem u_run {C M : rb_I} {cn : Nat → Nat} {ag : Nat → Nat → Int32} {t R : Nat} {bd : Nat → Nat} (h : sx_1 C M cn ag t t R bd) {Ca Ma : rb_I} (hf : fq Ca Ma C M) : ∀ k, t + k < 1000000 → sx_1 (fo (x7_hr_b cn (t / 60 + 1)) ((t + k) / 60 - t / 60) C) (fo m_pass_b k M) cn ag t (t + k) R bd ∧ fq Ca Ma (fo (x7_hr_b cn (t / 60 + 1)) ((t + k) / 60 - t / 60) C) (fo m_pass_b k M) := by
  intro k
  induction k with
  | zero => intro _; rw [show (t + 0) / 60 - t / 60 = 0 by omega, fo_0, fo_0]; exact ⟨h, hf⟩
  | succ k ih =>
    intro hk
    obtain ⟨i1, i2⟩ := ih (by omega)
    rw [fo_s]
    have hnow := i1.2.2.1.2.2.2
    generalize fo m_pass_b k M = M1 at *
    have u1 := u_now i1 (by omega)
    have f1 : fq Ca Ma (fo (x7_hr_b cn (t / 60 + 1)) ((t + k) / 60 - t / 60) C) (up2 M1 (16, 0, 0) 1 (nI (t + k + 1))) := ⟨i2.1, fun q => by simp [up2]; exact i2.2.1 q, by simp [up2]; exact i2.2.2.1, by simp [up2]; exact i2.2.2.2⟩
    unfold m_pass_b
    rw [hnow, nI_1]
    by_cases e : (t + k + 1) % 60 = 0
    · rw [if_pos ((now60 (by omega)).mpr e)]
      rw [show (t + (k + 1)) / 60 - t / 60 = (t + k) / 60 - t / 60 + 1 by omega, fo_s]
      generalize fo (x7_hr_b cn (t / 60 + 1)) ((t + k) / 60 - t / 60) C = C1 at *
      unfold x7_hr_b
      rw [show (t / 60 + 1 + ((t + k) / 60 - t / 60)) * 60 = t + k + 1 by omega]
      exact u_hr u1 f1
    · rw [if_neg (fun q => e ((now60 (by omega)).mp q))]
      rw [show (t + (k + 1)) / 60 - t / 60 = (t + k) / 60 - t / 60 by omega]
      exact ⟨u1, f1⟩
theorem s_pass {C M : rb_I} {cn : Nat → Nat} {ag : Nat → Nat → Int32} {t R : Nat} (h : sx C M cn ag t R) (mins : Int32) : okc sq_1 (x7_pass C cn mins t) (m_pass M mins).1 (m_pass M mins).2 cn ag := by
  have h9 := h
  obtain ⟨⟨c0, m0, hT, hC, hR, hN, hA, hS, hZ, hM, hB, hK⟩, k28, hR2, hP⟩ := h
  have ht := hT.2.1
  unfold x7_pass m_pass
  by_cases e1 : m_in mins (1 : Int32) (50000 : Int32) = 0
  · simp only [if_pos e1, ite_self]
    exact ok_thr h9 _ _ _ _ _ sq_12 (by decide)
  simp only [if_neg e1]
  have hv : vp_in mins 50001 := in1_of e1
  have hve := vp_in_e hv
  have hvl := vp_in_lt hv
  have c1 : mins ≤ 999999 - nI t ↔ t + mins.toNatClampNeg ≤ 999999 := by
    rw [show (999999 : Int32) = nI 999999 from rfl, pk_sub (by omega)]
    conv => lhs; rw [hve]
    rw [nI_leI (by omega) (by omega)]
    omega
  have c2 : M (16, 0, 0) 1 + mins ≤ 999999 ↔ t + mins.toNatClampNeg ≤ 999999 := by
    rw [hT.2.2.2, add9 hv, show (999999 : Int32) = nI 999999 from rfl, nI_leI (by omega) (by omega)]
  by_cases e2 : t + mins.toNatClampNeg ≤ 999999
  · rw [if_pos (c1.mpr e2), if_pos (c2.mpr e2)]
    generalize mins.toNatClampNeg = k at *
    obtain ⟨k1, k2⟩ := u_run (sx_1_thr h9.1 0) (Ca := C) (Ma := M) ⟨fun b c q => by simp [up2], fun q => by simp [up2], by simp [up2], by simp [up2]⟩ k (by omega)
    have hh := hours_eq (C := C) (cn := cn) c0 (t := t) (a := t / 60 + 1) (b := (t + k) / 60) ht rfl (by omega) (fun n hn => (hN n hn).2.2.2.2.2.2.2.2.2) (fun n s hn hs => (hB n s hn hs).2)
    rw [hh, show (t + k) / 60 + 1 - (t / 60 + 1) = (t + k) / 60 - t / 60 by omega]
    have kT := k1.2.2.1.2.2.2
    generalize fo (x7_hr_b cn (t / 60 + 1)) ((t + k) / 60 - t / 60) C = C1 at *
    generalize fo m_pass_b k (up2 M (16, 0, 0) 0 0) = M1 at *
    have bmo : ∀ b q, x7_beginMonth C1 cn (11, b, 0) q = C1 (11, b, 0) q := fun b q => x7_bm_o (by simp)
    by_cases e3 : (t + k) / 43200 = t / 43200
    · rw [if_pos (by rw [e3])]
      have u := u_cls k1 e3
      have hx : ∀ b c q, up2 C1 (0, 0, 0) 6 (nI (t + k)) (11, b, c) q = C (11, b, c) q := fun b c q => by rw [up2_n _ _ _ _ (by simp)]; exact k2.1 b c q
      exact ⟨k2.2.2.2.trans sq_10.symm, fun _ => kT.symm, t + k, R, u, k2.2.2.1.trans k28, hR2, sx_P_c hP rfl hx k2.2.1⟩
    · rw [if_neg (fun q => e3 ((nI_eq (by omega) (by omega)).mp q))]
      have hx : ∀ b c q, up2 (x7_beginMonth C1 cn) (0, 0, 0) 6 (nI (t + k)) (11, b, c) q = C (11, b, c) q := fun b c q => by rw [up2_n _ _ _ _ (by simp), x7_bm_o (by simp)]; exact k2.1 b c q
      exact ⟨k2.2.2.2.trans sq_10.symm, fun _ => kT.symm, t + k, R, u_clm k1 e3, k2.2.2.1.trans k28, hR2, sx_P_c hP rfl hx k2.2.1⟩
  · rw [if_neg (fun q => e2 (c1.mp q)), if_neg (fun q => e2 (c2.mp q))]
    simp only [ite_self]
    exact ok_thr h9 _ _ _ _ _ sq_13 (by decide)
