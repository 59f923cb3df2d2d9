theorem tk_at (s : rb_I) (n : Nat) (x : Int32) (m : Nat) : (∀ q, fo (x2_takeOutUpTo_b n x) m s (7, n, 0) q = if q < m ∧ ¬ x < s (7, n, 0) q then -1 else s (7, n, 0) q) ∧ ∀ r q, r ≠ (7, n, 0) → fo (x2_takeOutUpTo_b n x) m s r q = s r q := by
  induction m with
  | zero => rw [fo_0]; exact ⟨fun q => by rw [if_neg (fun z => absurd z.1 (Nat.not_lt_zero _))], fun _ _ _ => rfl⟩
  | succ m ih =>
    obtain ⟨h1, h2⟩ := ih
    rw [fo_s]
    generalize fo (x2_takeOutUpTo_b n x) m s = s1 at *
    have hm := h1 m
    rw [if_neg (fun z => absurd z.1 (Nat.lt_irrefl _))] at hm
    unfold x2_takeOutUpTo_b
    rw [hm]
    by_cases e : x < s (7, n, 0) m
    · rw [if_pos e]
      refine ⟨fun q => ?_, h2⟩
      by_cases eq : q = m
      · subst eq; rw [if_neg (fun z => z.2 e)]; exact hm
      · simp only [lt_sx eq]; exact h1 q
    · rw [if_neg e]
      refine ⟨fun q => ?_, fun r q hr => ?_⟩
      · by_cases eq : q = m
        · subst eq; rw [if_pos ⟨Nat.lt_succ_self _, e⟩, up2_s]
        · simp only [lt_sx eq]; rw [up2_n _ _ _ _ (fun z => eq z.2)]; exact h1 q
      · rw [up2_n _ _ _ _ (fun z => hr z.1)]; exact h2 r q hr
theorem tk6_at (s : rb_I) (wh : Int32) (m : Nat) : (∀ n q, n < m → q < 10 → fo (x7_bh_c wh) m s (7, n, 0) q = if wh - 180 < s (7, n, 0) q then s (7, n, 0) q else -1) ∧ (∀ n q, m ≤ n → fo (x7_bh_c wh) m s (7, n, 0) q = s (7, n, 0) q) ∧ (∀ r q, ¬ (r.1 = 7 ∧ r.2.2 = 0) → fo (x7_bh_c wh) m s r q = s r q) ∧ ∀ n q, 10 ≤ q → fo (x7_bh_c wh) m s (7, n, 0) q = s (7, n, 0) q := by
  induction m with
  | zero => rw [fo_0]; exact ⟨fun n q h => absurd h (Nat.not_lt_zero _), fun _ _ _ => rfl, fun _ _ _ => rfl, fun _ _ _ => rfl⟩
  | succ m ih =>
    obtain ⟨h1, h2, h3, h4⟩ := ih
    rw [fo_s]
    generalize fo (x7_bh_c wh) m s = s1 at *
    unfold x7_bh_c x2_takeOutUpTo
    obtain ⟨g1, g2⟩ := tk_at s1 m (wh - 180) 10
    refine ⟨fun n q hn hq => ?_, fun n q hn => ?_, fun r q hr => ?_, fun n q hq => ?_⟩
    · by_cases e : n = m
      · subst e
        rw [g1, h2 n q (Nat.le_refl _)]
        by_cases c : wh - 180 < s (7, n, 0) q
        · rw [if_pos c, if_neg (fun z => z.2 c)]
        · rw [if_neg c, if_pos ⟨hq, c⟩]
      · rw [g2 _ _ (fun z => e (congrArg (fun r : rb_R => r.2.1) z))]
        exact h1 n q (by omega) hq
    · rw [g2 _ _ (fun z => by have : n = m := congrArg (fun r : rb_R => r.2.1) z
                              omega)]
      exact h2 n q (by omega)
    · rw [g2 _ _ (fun z => hr (by rw [z]; exact ⟨rfl, rfl⟩))]
      exact h3 r q hr
    · by_cases e : n = m
      · subst e
        rw [g1, if_neg (fun z => by omega)]
        exact h4 n q hq
      · rw [g2 _ _ (fun z => e (congrArg (fun r : rb_R => r.2.1) z))]
        exact h4 n q hq
theorem bc_at (s : rb_I) (m : Nat) : (∀ k, k < m → fo m_begins_c m s (14, 27, 0) k = if s (14, 27, 0) k = -1 then -1 else if s (16, 0, 0) 1 - s (14, 27, 0) k < 180 then s (14, 27, 0) k else -1) ∧ (∀ k, m ≤ k → fo m_begins_c m s (14, 27, 0) k = s (14, 27, 0) k) ∧ ∀ r q, r ≠ (14, 27, 0) → fo m_begins_c m s r q = s r q := by
  induction m with
  | zero => rw [fo_0]; exact ⟨fun k h => absurd h (Nat.not_lt_zero _), fun _ _ => rfl, fun _ _ _ => rfl⟩
  | succ m ih =>
    obtain ⟨h1, h2, h3⟩ := ih
    rw [fo_s]
    generalize fo m_begins_c m s = s1 at *
    have e27 := h2 m (Nat.le_refl _)
    have e1 := h3 (16, 0, 0) 1 (by simp)
    have key : ∀ v : Int32, v = (if s (14, 27, 0) m = -1 then -1 else if s (16, 0, 0) 1 - s (14, 27, 0) m < 180 then s (14, 27, 0) m else -1) → (∀ k, k < m + 1 → up2 s1 (14, 27, 0) m v (14, 27, 0) k = if s (14, 27, 0) k = -1 then -1 else if s (16, 0, 0) 1 - s (14, 27, 0) k < 180 then s (14, 27, 0) k else -1) ∧ (∀ k, m + 1 ≤ k → up2 s1 (14, 27, 0) m v (14, 27, 0) k = s (14, 27, 0) k) ∧ ∀ r q, r ≠ (14, 27, 0) → up2 s1 (14, 27, 0) m v r q = s r q := by
      intro v hv
      refine ⟨fun k hk => ?_, fun k hk => ?_, fun r q hr => ?_⟩
      · by_cases e : k = m
        · subst e; rw [up2_s]; exact hv
        · rw [up2_n _ _ _ _ (fun z => e z.2)]; exact h1 k (by omega)
      · rw [up2_n _ _ _ _ (fun z => by have := z.2; omega)]; exact h2 k (by omega)
      · rw [up2_n _ _ _ _ (fun z => hr z.1)]; exact h3 r q hr
    unfold m_begins_c
    rw [e27, e1]
    by_cases c1 : s (14, 27, 0) m = -1
    · rw [if_pos c1]; exact key _ (by rw [if_pos c1]; exact c1)
    rw [if_neg c1]
    by_cases c2 : s (16, 0, 0) 1 - s (14, 27, 0) m < 180
    · rw [if_pos c2]; exact key _ (by rw [if_neg c1, if_pos c2])
    · rw [if_neg c2]; exact key _ (by rw [if_neg c1, if_neg c2])
theorem old_lt {t e : Nat} (ht : t < 1000000) (he : e ≤ t) : (nI t - 180 < nI e) ↔ nI t - nI e < 180 := by
  rw [Int32.lt_iff_toInt_lt, Int32.lt_iff_toInt_lt, show (180 : Int32) = nI 180 from rfl, pk_sub_toInt (by omega) (by decide), pk_sub_toInt (by omega) (by omega), nI_toInt (by omega), nI_toInt (by decide)]
  omega
theorem u_flt {C M : rb_I} {cn : Nat → Nat} {ag : Nat → Nat → Int32} {tc t R : Nat} {bd : Nat → Nat} (h : sx_1 C M cn ag tc t R bd) {Ca Ma : rb_I} (hf : fq Ca Ma C M) : sx_1 (fo (x7_bh_c (nI t)) 6 C) (fo m_begins_c 60 M) cn ag tc t R bd ∧ fq Ca Ma (fo (x7_bh_c (nI t)) 6 C) (fo m_begins_c 60 M) := by
  obtain ⟨c0, m0, hT, hC, hR, hN, hA, hS, hZ, hM, hB, hK⟩ := h
  obtain ⟨c1, c2, c3, c4⟩ := tk6_at C (nI t) 6
  obtain ⟨d1, d2, d3⟩ := bc_at M 60
  have hB9 : sx_B (fo (x7_bh_c (nI t)) 6 C) (fo m_begins_c 60 M) t := by
    intro n s hn hs
    obtain ⟨b1, b2⟩ := hB n s hn hs
    rw [c1 n s hn hs, d1 _ (by omega), ← b1, hT.2.2.2]
    rcases b2 with b2 | ⟨e, he, b2⟩
    · rw [b2, if_pos rfl, ite_self]
      exact ⟨rfl, Or.inl rfl⟩
    · have hne : ¬ nI e = -1 := in_ne (vp_in_nI (show e < 1000000 by have := hT.2.1; omega) (by decide))
      rw [b2, if_neg hne]
      by_cases c : nI t - 180 < nI e
      · rw [if_pos c, if_pos ((old_lt hT.2.1 he).mp c)]
        exact ⟨rfl, Or.inr ⟨e, he, rfl⟩⟩
      · rw [if_neg c, if_neg (fun z => c ((old_lt hT.2.1 he).mpr z))]
        exact ⟨rfl, Or.inl rfl⟩
  exact ⟨⟨(xCI_c c0 (fun b => c3 _ _ (by simp)) (fun b q hq => c3 _ _ (by simp)) (fun b q hq => c3 _ _ (by simp))), (MI_c m0 (fun q => d3 _ _ (by simp)) (fun q => d3 _ _ (by simp)) (fun q => d3 _ _ (by simp)) (fun q => d3 _ _ (by simp)) (fun q => d3 _ _ (by simp)) (fun q => d3 _ _ (by simp)) (d3 _ _ (by simp)) (d3 _ _ (by simp)) (d3 _ _ (by simp)) (d3 _ _ (by simp)) (fun q => d3 _ _ (by simp))), (sx_T_c hT (c3 _ _ (by simp)) (d3 _ _ (by simp))), (sx_C_c hC (d3 _ _ (by simp)) (d3 _ _ (by simp)) (d3 _ _ (by simp)) rfl rfl), (sx_R_c hR (fun q => c3 _ _ (by simp)) (fun q => d3 _ _ (by simp))), (sx_N_c hN (fun b c q => c3 _ _ (by simp)) (fun q => d3 _ _ (by simp)) (fun q => d3 _ _ (by simp)) (fun q => d3 _ _ (by simp)) (fun q => d3 _ _ (by simp))), (sx_A_c hA rfl (fun b c q => c3 _ _ (by simp)) (fun q => d3 _ _ (by simp)) (fun q => d3 _ _ (by simp)) (fun q => d3 _ _ (by simp)) (fun q => d3 _ _ (by simp)) (fun q => d3 _ _ (by simp)) (fun q => d3 _ _ (by simp)) (fun q => d3 _ _ (by simp))), (sx_S_c hS rfl (fun b c q hq => c3 _ _ (by simp)) (fun q => d3 _ _ (by simp)) (fun q => d3 _ _ (by simp)) (fun q => d3 _ _ (by simp)) (fun q => d3 _ _ (by simp)) (fun q => d3 _ _ (by simp)) (fun q => d3 _ _ (by simp)) (fun q => d3 _ _ (by simp)) (fun q => d3 _ _ (by simp)) (fun q => d3 _ _ (by simp))), (sx_Z_c hZ rfl (fun q => d3 _ _ (by simp)) (fun q => d3 _ _ (by simp)) (fun q => d3 _ _ (by simp)) (fun q => d3 _ _ (by simp)) (fun q => d3 _ _ (by simp))), (sx_M_c hM rfl (fun _ => Nat.le_refl _) (fun b c => c3 _ _ (by simp)) (fun q => d3 _ _ (by simp)) (fun q => d3 _ _ (by simp))), hB9, (sx_K_c hK (Nat.le_refl _) (fun _ => rfl) (fun b c q => c3 _ _ (by simp)) (fun b c q => c3 _ _ (by simp)) (fun q => d3 _ _ (by simp)) (fun q => d3 _ _ (by simp)) (fun q => d3 _ _ (by simp)) (fun q => d3 _ _ (by simp)) (fun q => d3 _ _ (by simp)) (fun q => d3 _ _ (by simp)) (fun q => d3 _ _ (by simp)) (fun q => d3 _ _ (by simp)) (fun q => d3 _ _ (by simp)))⟩, fun b c q => (c3 _ _ (by simp)).trans (hf.1 b c q), fun q => (d3 _ _ (by simp)).trans (hf.2.1 q), (d3 _ _ (by simp)).trans hf.2.2.1, (d3 _ _ (by simp)).trans hf.2.2.2⟩
theorem u_hr {C M : rb_I} {cn : Nat → Nat} {ag : Nat → Nat → Int32} {tc t R : Nat} {bd : Nat → Nat} (h : sx_1 C M cn ag tc t R bd) {Ca Ma : rb_I} (hf : fq Ca Ma C M) : sx_1 (x7_beginHour C cn (nI t)) (m_begins M) cn ag tc t R bd ∧ fq Ca Ma (x7_beginHour C cn (nI t)) (m_begins M) := by
  have h10 := h.1.2.2.2.2.2.2.2.2.2.1
  have h15 := h.2.2.2.1.2.1
  unfold x7_beginHour m_begins
  rw [h15, nI_clamp (by omega)]
  have key : ∀ i, i ≤ cn 1 → sx_1 (fo (x7_bh_b (nI t)) i C) (fo m_begins_b i M) cn ag tc t R bd ∧ fq Ca Ma (fo (x7_bh_b (nI t)) i C) (fo m_begins_b i M) := by
    intro i
    induction i with
    | zero => intro _; rw [fo_0, fo_0]; exact ⟨h, hf⟩
    | succ i ih =>
      intro hi
      obtain ⟨i1, i2⟩ := ih (by omega)
      rw [fo_s, fo_s]
      generalize fo (x7_bh_b (nI t)) i C = C1 at *
      generalize fo m_begins_b i M = M1 at *
      have a4 := (i1.2.2.2.2.2.2.2.1 i (by omega)).2.2.2.1
      unfold x7_bh_b m_begins_b
      rw [a4]
      by_cases e : M1 (14, 19, 0) i = -1
      · rw [if_pos e, if_pos e]; exact ⟨i1, i2⟩
      rw [if_neg e, if_neg e]
      have hv : vp_in (nI i) (cn 1) := vp_in_nI (by omega) (by omega)
      have ec : (nI i).toNatClampNeg = i := nI_clamp (by omega)
      have := u_mc i1 hv (by rw [ec]; exact e)
      rw [ec] at this
      exact ⟨this, fq_mc i2⟩
  obtain ⟨k1, k2⟩ := key _ (Nat.le_refl _)
  exact u_flt k1 k2
