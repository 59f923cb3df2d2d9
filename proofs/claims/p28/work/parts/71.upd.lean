theorem sx_1_thr {C M : rb_I} {cn : Nat → Nat} {ag : Nat → Nat → Int32} {tc t R : Nat} {bd : Nat → Nat} (h : sx_1 C M cn ag tc t R bd) (v : Int32) : sx_1 C (up2 M (16, 0, 0) 0 v) cn ag tc t R bd := by
  obtain ⟨c0, m0, hT, hC, hR, hN, hA, hS, hZ, hM, hB, hK⟩ := h
  exact ⟨(xCI_c c0 (fun b => by simp [up2]) (fun b q hq => by rcases hq with rfl | rfl <;> simp [up2]) (fun b q hq => by rcases hq with rfl | rfl | rfl | rfl | rfl <;> simp [up2])), (MI_c m0 (fun q => by simp [up2]) (fun q => by simp [up2]) (fun q => by simp [up2]) (fun q => by simp [up2]) (fun q => by simp [up2]) (fun q => by simp [up2]) (by simp [up2]) (by simp [up2]) (by simp [up2]) (by simp [up2]) (fun q => by simp [up2])), (sx_T_c hT (by simp [up2]) (by simp [up2])), (sx_C_c hC (by simp [up2]) (by simp [up2]) (by simp [up2]) rfl rfl), (sx_R_c hR (fun q => by simp [up2]) (fun q => by simp [up2])), (sx_N_c hN (fun b c q => by simp [up2]) (fun q => by simp [up2]) (fun q => by simp [up2]) (fun q => by simp [up2]) (fun q => by simp [up2])), (sx_A_c hA rfl (fun b c q => by simp [up2]) (fun q => by simp [up2]) (fun q => by simp [up2]) (fun q => by simp [up2]) (fun q => by simp [up2]) (fun q => by simp [up2]) (fun q => by simp [up2]) (fun q => by simp [up2])), (sx_S_c hS rfl (fun b c q hq => by simp [up2, hq]) (fun q => by simp [up2]) (fun q => by simp [up2]) (fun q => by simp [up2]) (fun q => by simp [up2]) (fun q => by simp [up2]) (fun q => by simp [up2]) (fun q => by simp [up2]) (fun q => by simp [up2]) (fun q => by simp [up2])), (sx_Z_c hZ rfl (fun q => by simp [up2]) (fun q => by simp [up2]) (fun q => by simp [up2]) (fun q => by simp [up2]) (fun q => by simp [up2])), (sx_M_c hM rfl (fun _ => Nat.le_refl _) (fun b c => by simp [up2]) (fun q => by simp [up2]) (fun q => by simp [up2])), (sx_B_c hB (fun b c q => by simp [up2]) (fun q => by simp [up2])), (sx_K_c hK (Nat.le_refl _) (fun _ => rfl) (fun b c q => by simp [up2]) (fun b c q => by simp [up2]) (fun q => by simp [up2]) (fun q => by simp [up2]) (fun q => by simp [up2]) (fun q => by simp [up2]) (fun q => by simp [up2]) (fun q => by simp [up2]) (fun q => by simp [up2]) (fun q => by simp [up2]) (fun q => by simp [up2]))⟩
theorem sx_thr {C M : rb_I} {cn : Nat → Nat} {ag : Nat → Nat → Int32} {t R : Nat} (h : sx C M cn ag t R) (v : Int32) : sx C (up2 M (16, 0, 0) 0 v) cn ag t R := by
  obtain ⟨⟨c0, m0, hT, hC, hR, hN, hA, hS, hZ, hM, hB, hK⟩, k28, hR2, hP⟩ := h
  exact ⟨⟨(xCI_c c0 (fun b => by simp [up2]) (fun b q hq => by rcases hq with rfl | rfl <;> simp [up2]) (fun b q hq => by rcases hq with rfl | rfl | rfl | rfl | rfl <;> simp [up2])), (MI_c m0 (fun q => by simp [up2]) (fun q => by simp [up2]) (fun q => by simp [up2]) (fun q => by simp [up2]) (fun q => by simp [up2]) (fun q => by simp [up2]) (by simp [up2]) (by simp [up2]) (by simp [up2]) (by simp [up2]) (fun q => by simp [up2])), (sx_T_c hT (by simp [up2]) (by simp [up2])), (sx_C_c hC (by simp [up2]) (by simp [up2]) (by simp [up2]) rfl rfl), (sx_R_c hR (fun q => by simp [up2]) (fun q => by simp [up2])), (sx_N_c hN (fun b c q => by simp [up2]) (fun q => by simp [up2]) (fun q => by simp [up2]) (fun q => by simp [up2]) (fun q => by simp [up2])), (sx_A_c hA rfl (fun b c q => by simp [up2]) (fun q => by simp [up2]) (fun q => by simp [up2]) (fun q => by simp [up2]) (fun q => by simp [up2]) (fun q => by simp [up2]) (fun q => by simp [up2]) (fun q => by simp [up2])), (sx_S_c hS rfl (fun b c q hq => by simp [up2, hq]) (fun q => by simp [up2]) (fun q => by simp [up2]) (fun q => by simp [up2]) (fun q => by simp [up2]) (fun q => by simp [up2]) (fun q => by simp [up2]) (fun q => by simp [up2]) (fun q => by simp [up2]) (fun q => by simp [up2])), (sx_Z_c hZ rfl (fun q => by simp [up2]) (fun q => by simp [up2]) (fun q => by simp [up2]) (fun q => by simp [up2]) (fun q => by simp [up2])), (sx_M_c hM rfl (fun _ => Nat.le_refl _) (fun b c => by simp [up2]) (fun q => by simp [up2]) (fun q => by simp [up2])), (sx_B_c hB (fun b c q => by simp [up2]) (fun q => by simp [up2])), (sx_K_c hK (Nat.le_refl _) (fun _ => rfl) (fun b c q => by simp [up2]) (fun b c q => by simp [up2]) (fun q => by simp [up2]) (fun q => by simp [up2]) (fun q => by simp [up2]) (fun q => by simp [up2]) (fun q => by simp [up2]) (fun q => by simp [up2]) (fun q => by simp [up2]) (fun q => by simp [up2]) (fun q => by simp [up2]))⟩, (Eq.trans (by simp [up2]) k28), hR2, (sx_P_c hP rfl (fun b c q => by simp [up2]) (fun q => by simp [up2]))⟩
theorem ok_thr {C M : rb_I} {cn : Nat → Nat} {ag : Nat → Nat → Int32} {t R : Nat} (h : sx C M cn ag t R) (q : Nat → Int32) (n : Nat) (x y v : Int32) (hn : q n = v) (h0 : n ≠ 0) : okc q (n, x, C) y (up2 M (16, 0, 0) 0 v) cn ag :=
  ⟨by rw [up2_s]; exact hn.symm, fun e => absurd e h0, t, R, sx_thr h v⟩
theorem ok_0 {C M : rb_I} {cn : Nat → Nat} {ag : Nat → Nat → Int32} {t R : Nat} (h : sx C M cn ag t R) (q : Nat → Int32) (x y : Int32) (hq : q 0 = 0) (hx : x = y) : okc q (0, x, C) y (up2 M (16, 0, 0) 0 0) cn ag :=
  ⟨by rw [up2_s]; exact hq.symm, fun _ => hx, t, R, sx_thr h 0⟩
theorem sq_30 : sq_3 0 = 0 := by decide
theorem sq_31 : sq_3 1 = 1 := by decide
theorem sq_32 : sq_3 2 = 2 := by decide
theorem sq_33 : sq_3 3 = 3 := by decide
theorem sq_20 : sq_2 0 = 0 := by decide
theorem sq_21 : sq_2 1 = 1 := by decide
theorem sq_23 : sq_2 3 = 2 := by decide
theorem sq_10 : sq_1 0 = 0 := by decide
theorem sq_12 : sq_1 2 = 1 := by decide
theorem sq_13 : sq_1 3 = 2 := by decide
theorem isIn_eq (a k : Int32) : x7_isIn a k = m_isIn a k := rfl
theorem sub_of {cn : Nat → Nat} {C : rb_I} (c0 : xCI C cn) {s : Int32} (e : ¬ m_in s 0 (nI (cn 1) - 1) = 0) : vp_in s (cn 1) := sub_in (by have := c0.2.2.2.2.2.2.2.2.2.1; omega) e
theorem agn_eq {C M : rb_I} {cn : Nat → Nat} {t R : Nat} (hT : sx_T C M t t) (hC : sx_C M cn R) (hA : sx_A C M cn) (h30 : cn 0 ≤ 30) (ho vi : Int32) : x7_agNow C ho vi (cn 0) = m_agreement M ho vi := by
  unfold m_agreement
  rw [hC.1, nI_clamp (by omega)]
  have key : ∀ n, n ≤ cn 0 → x7_agNow C ho vi n = fo (m_agreement_b M ho vi) n (-1) := by
    intro n
    induction n with
    | zero => intro _; rw [fo_0]; rfl
    | succ n ih =>
      intro hn
      obtain ⟨a0, a1, a2, a3, -⟩ := hA n (by omega)
      rw [fo_s]
      show (if x1_holds C n ho vi (C (0, 0, 0) 6) = 0 then x7_agNow C ho vi n else nI n) = _
      rw [ih (by omega)]
      unfold m_agreement_b x1_holds
      rw [a0, a1, a2, a3, hT.2.2.1, hT.2.2.2]
      by_cases e1 : M (14, 8, 0) n = ho <;> by_cases e2 : M (14, 9, 0) n = vi <;> by_cases e3 : nI t < M (14, 10, 0) n <;> by_cases e4 : M (14, 11, 0) n ≤ nI t <;> simp [e1, e2, e3, e4]
  exact key _ (Nat.le_refl _)
theorem why_eq {C M : rb_I} {cn : Nat → Nat} {ag : Nat → Nat → Int32} {t R : Nat} {bd : Nat → Nat} (h : sx_1 C M cn ag t t R bd) {s n : Int32} (hs : vp_in s (cn 1)) (hn : vp_in n 6) : x7_whyNotUsable C cn s.toNatClampNeg n = m_reason M s n := by
  obtain ⟨c0, m0, hT, hC, hR, hN, hA, hS, hZ, hM, hB, hK⟩ := h
  obtain ⟨a1, a2, a3, a4, a5, a6, a7, a8, a9, -⟩ := hS _ (vp_in_lt hs)
  have hp := hR _ (vp_in_lt (c0.2.2.1 s.toNatClampNeg))
  rw [a3] at hp
  have hd := (hN _ (vp_in_lt hn)).1
  unfold x7_whyNotUsable m_reason
  rw [a1, a2, a3, hp, hd, agn_eq hT hC hA c0.2.2.2.2.2.2.2.2.1]
  rfl
theorem stw_eq {C M : rb_I} {cn : Nat → Nat} {ag : Nat → Nat → Int32} {t R : Nat} {bd : Nat → Nat} (h : sx_1 C M cn ag t t R bd) {s n : Int32} (hs : vp_in s (cn 1)) (hn : vp_in n 6) : x7_isSteered C cn s.toNatClampNeg n = m_isSteered M s n := by
  have h9 := h
  obtain ⟨c0, m0, hT, hC, hR, hN, hA, hS, hZ, hM, hB, hK⟩ := h
  obtain ⟨a1, a2, a3, a4, a5, a6, a7, a8, a9, -⟩ := hS _ (vp_in_lt hs)
  have hh := c0.2.1 s.toNatClampNeg
  have hf := c0.2.2.2.2.2.1 (C (9, s.toNatClampNeg, 0) 1).toNatClampNeg
  have hd := (hN _ (vp_in_lt hh)).2.1
  unfold x7_isSteered m_isSteered
  by_cases e1 : C (5, (C (9, s.toNatClampNeg, 0) 1).toNatClampNeg, 0) 2 = -1
  · rw [if_pos e1, ← a1, ← hd, if_pos e1]
  · have e := why_eq h9 hs (hf.resolve_left e1)
    rw [if_neg e1, e, a6, ← a1, ← hd, if_neg e1]
    by_cases e2 : C (5, (C (9, s.toNatClampNeg, 0) 1).toNatClampNeg, 0) 2 = n
    · rw [if_pos e2, if_pos e2]
    · rw [if_neg e2, if_neg e2]
      by_cases e3 : (2 : Int32) ≤ M (14, 20, 0) s.toNatClampNeg <;> by_cases e4 : m_reason M s (C (5, (C (9, s.toNatClampNeg, 0) 1).toNatClampNeg, 0) 2) = 0 <;> simp [e3, e4]
theorem u_att {C M : rb_I} {cn : Nat → Nat} {ag : Nat → Nat → Int32} {tc t R : Nat} {bd : Nat → Nat} (h : sx_1 C M cn ag tc t R bd) {j : Nat} {v : Int32} (hv : at6 v) : sx_1 (up2 C (9, j, 0) 4 v) (up2 M (14, 19, 0) j v) cn ag tc t R bd := by
  obtain ⟨c0, m0, hT, hC, hR, hN, hA, hS, hZ, hM, hB, hK⟩ := h
  exact ⟨⟨(fun id hid => by simp only [up2]; simp; exact c0.1 id hid), (fun s => by simp only [up2]; simp; exact c0.2.1 s), (fun s => by simp only [up2]; simp; exact c0.2.2.1 s), (fun s => by simp only [up2]; simp; split; exact hv; exact c0.2.2.2.1 s), (fun s => by simp only [up2]; simp; exact c0.2.2.2.2.1 s), (fun n => by simp only [up2]; simp; exact c0.2.2.2.2.2.1 n), (fun s hs => by simp only [up2]; simp; exact c0.2.2.2.2.2.2.1 s hs), (fun n => by simp only [up2]; simp; exact c0.2.2.2.2.2.2.2.1 n), c0.2.2.2.2.2.2.2.2⟩, ⟨(fun s => by simp only [up2]; simp; exact m0.1 s), (fun s => by simp only [up2]; simp; exact m0.2.1 s), (fun s => by simp only [up2]; simp; split; exact hv; exact m0.2.2.1 s), (fun s => by simp only [up2]; simp; exact m0.2.2.2.1 s), (fun s => by simp only [up2]; simp; exact m0.2.2.2.2.1 s), (fun s => by simp only [up2]; simp; exact m0.2.2.2.2.2.1 s), (by simp only [up2]; simp; exact m0.2.2.2.2.2.2.1), (by simp only [up2]; simp; exact m0.2.2.2.2.2.2.2.1), (by simp only [up2]; simp; exact m0.2.2.2.2.2.2.2.2.1), (by simp only [up2]; simp; exact m0.2.2.2.2.2.2.2.2.2.1), (fun s => by simp only [up2]; simp; exact m0.2.2.2.2.2.2.2.2.2.2 s)⟩, (sx_T_c hT (by simp [up2]) (by simp [up2])), (sx_C_c hC (by simp [up2]) (by simp [up2]) (by simp [up2]) rfl rfl), (sx_R_c hR (fun q => by simp [up2]) (fun q => by simp [up2])), (sx_N_c hN (fun b c q => by simp [up2]) (fun q => by simp [up2]) (fun q => by simp [up2]) (fun q => by simp [up2]) (fun q => by simp [up2])), (sx_A_c hA rfl (fun b c q => by simp [up2]) (fun q => by simp [up2]) (fun q => by simp [up2]) (fun q => by simp [up2]) (fun q => by simp [up2]) (fun q => by simp [up2]) (fun q => by simp [up2]) (fun q => by simp [up2])), (fun s hs => by
    obtain ⟨a1, a2, a3, a4, a5, a6, a7, a8, a9, a10⟩ := hS s hs
    refine ⟨?_, ?_, ?_, ?_, ?_, ?_, ?_, ?_, ?_, ?_⟩
    · simp only [up2]; simp [a1]
    · simp only [up2]; simp [a2]
    · simp only [up2]; simp [a3]
    · simp only [up2]; simp [a4]
    · simp only [up2]; simp [a5]
    · simp only [up2]; simp [a6]
    · simp only [up2]; simp [a7]
    · simp only [up2]; simp [a8]
    · simp only [up2]; simp [a9]
    · simp only [up2]; simp; exact a10), (sx_Z_c hZ rfl (fun q => by simp [up2]) (fun q => by simp [up2]) (fun q => by simp [up2]) (fun q => by simp [up2]) (fun q => by simp [up2])), (sx_M_c hM rfl (fun _ => Nat.le_refl _) (fun b c => by simp [up2]) (fun q => by simp [up2]) (fun q => by simp [up2])), (sx_B_c hB (fun b c q => by simp [up2]) (fun q => by simp [up2])), (sx_K_c hK (Nat.le_refl _) (fun _ => rfl) (fun b c q => by simp [up2]) (fun b c q => by simp [up2]) (fun q => by simp [up2]) (fun q => by simp [up2]) (fun q => by simp [up2]) (fun q => by simp [up2]) (fun q => by simp [up2]) (fun q => by simp [up2]) (fun q => by simp [up2]) (fun q => by simp [up2]) (fun q => by simp [up2]))⟩
theorem u_plc {C M : rb_I} {cn : Nat → Nat} {ag : Nat → Nat → Int32} {tc t R : Nat} {bd : Nat → Nat} (h : sx_1 C M cn ag tc t R bd) {j : Nat} {v : Int32} (hv : vp_in v 8) : sx_1 (up2 C (9, j, 0) 3 v) (up2 M (14, 17, 0) j v) cn ag tc t R bd := by
  obtain ⟨c0, m0, hT, hC, hR, hN, hA, hS, hZ, hM, hB, hK⟩ := h
  exact ⟨⟨(fun id hid => by simp only [up2]; simp; exact c0.1 id hid), (fun s => by simp only [up2]; simp; exact c0.2.1 s), (fun s => by simp only [up2]; simp; split; exact hv; exact c0.2.2.1 s), (fun s => by simp only [up2]; simp; exact c0.2.2.2.1 s), (fun s => by simp only [up2]; simp; exact c0.2.2.2.2.1 s), (fun n => by simp only [up2]; simp; exact c0.2.2.2.2.2.1 n), (fun s hs => by simp only [up2]; simp; exact c0.2.2.2.2.2.2.1 s hs), (fun n => by simp only [up2]; simp; exact c0.2.2.2.2.2.2.2.1 n), c0.2.2.2.2.2.2.2.2⟩, ⟨(fun s => by simp only [up2]; simp; exact m0.1 s), (fun s => by simp only [up2]; simp; split; exact hv; exact m0.2.1 s), (fun s => by simp only [up2]; simp; exact m0.2.2.1 s), (fun s => by simp only [up2]; simp; exact m0.2.2.2.1 s), (fun s => by simp only [up2]; simp; exact m0.2.2.2.2.1 s), (fun s => by simp only [up2]; simp; exact m0.2.2.2.2.2.1 s), (by simp only [up2]; simp; exact m0.2.2.2.2.2.2.1), (by simp only [up2]; simp; exact m0.2.2.2.2.2.2.2.1), (by simp only [up2]; simp; exact m0.2.2.2.2.2.2.2.2.1), (by simp only [up2]; simp; exact m0.2.2.2.2.2.2.2.2.2.1), (fun s => by simp only [up2]; simp; exact m0.2.2.2.2.2.2.2.2.2.2 s)⟩, (sx_T_c hT (by simp [up2]) (by simp [up2])), (sx_C_c hC (by simp [up2]) (by simp [up2]) (by simp [up2]) rfl rfl), (sx_R_c hR (fun q => by simp [up2]) (fun q => by simp [up2])), (sx_N_c hN (fun b c q => by simp [up2]) (fun q => by simp [up2]) (fun q => by simp [up2]) (fun q => by simp [up2]) (fun q => by simp [up2])), (sx_A_c hA rfl (fun b c q => by simp [up2]) (fun q => by simp [up2]) (fun q => by simp [up2]) (fun q => by simp [up2]) (fun q => by simp [up2]) (fun q => by simp [up2]) (fun q => by simp [up2]) (fun q => by simp [up2])), (fun s hs => by
    obtain ⟨a1, a2, a3, a4, a5, a6, a7, a8, a9, a10⟩ := hS s hs
    refine ⟨?_, ?_, ?_, ?_, ?_, ?_, ?_, ?_, ?_, ?_⟩
    · simp only [up2]; simp [a1]
    · simp only [up2]; simp [a2]
    · simp only [up2]; simp [a3]
    · simp only [up2]; simp [a4]
    · simp only [up2]; simp [a5]
    · simp only [up2]; simp [a6]
    · simp only [up2]; simp [a7]
    · simp only [up2]; simp [a8]
    · simp only [up2]; simp [a9]
    · simp only [up2]; simp; exact a10), (sx_Z_c hZ rfl (fun q => by simp [up2]) (fun q => by simp [up2]) (fun q => by simp [up2]) (fun q => by simp [up2]) (fun q => by simp [up2])), (sx_M_c hM rfl (fun _ => Nat.le_refl _) (fun b c => by simp [up2]) (fun q => by simp [up2]) (fun q => by simp [up2])), (sx_B_c hB (fun b c q => by simp [up2]) (fun q => by simp [up2])), (sx_K_c hK (Nat.le_refl _) (fun _ => rfl) (fun b c q => by simp [up2]) (fun b c q => by simp [up2]) (fun q => by simp [up2]) (fun q => by simp [up2]) (fun q => by simp [up2]) (fun q => by simp [up2]) (fun q => by simp [up2]) (fun q => by simp [up2]) (fun q => by simp [up2]) (fun q => by simp [up2]) (fun q => by simp [up2]))⟩
theorem u_not {C M : rb_I} {cn : Nat → Nat} {ag : Nat → Nat → Int32} {tc t R : Nat} {bd : Nat → Nat} (h : sx_1 C M cn ag tc t R bd) {j : Nat} {v : Int32} (hv : at6 v) : sx_1 (up2 C (9, j, 0) 5 v) (up2 M (14, 21, 0) j v) cn ag tc t R bd := by
  obtain ⟨c0, m0, hT, hC, hR, hN, hA, hS, hZ, hM, hB, hK⟩ := h
  exact ⟨⟨(fun id hid => by simp only [up2]; simp; exact c0.1 id hid), (fun s => by simp only [up2]; simp; exact c0.2.1 s), (fun s => by simp only [up2]; simp; exact c0.2.2.1 s), (fun s => by simp only [up2]; simp; exact c0.2.2.2.1 s), (fun s => by simp only [up2]; simp; split; exact hv; exact c0.2.2.2.2.1 s), (fun n => by simp only [up2]; simp; exact c0.2.2.2.2.2.1 n), (fun s hs => by simp only [up2]; simp; exact c0.2.2.2.2.2.2.1 s hs), (fun n => by simp only [up2]; simp; exact c0.2.2.2.2.2.2.2.1 n), c0.2.2.2.2.2.2.2.2⟩, ⟨(fun s => by simp only [up2]; simp; exact m0.1 s), (fun s => by simp only [up2]; simp; exact m0.2.1 s), (fun s => by simp only [up2]; simp; exact m0.2.2.1 s), (fun s => by simp only [up2]; simp; split; exact hv; exact m0.2.2.2.1 s), (fun s => by simp only [up2]; simp; exact m0.2.2.2.2.1 s), (fun s => by simp only [up2]; simp; exact m0.2.2.2.2.2.1 s), (by simp only [up2]; simp; exact m0.2.2.2.2.2.2.1), (by simp only [up2]; simp; exact m0.2.2.2.2.2.2.2.1), (by simp only [up2]; simp; exact m0.2.2.2.2.2.2.2.2.1), (by simp only [up2]; simp; exact m0.2.2.2.2.2.2.2.2.2.1), (fun s => by simp only [up2]; simp; exact m0.2.2.2.2.2.2.2.2.2.2 s)⟩, (sx_T_c hT (by simp [up2]) (by simp [up2])), (sx_C_c hC (by simp [up2]) (by simp [up2]) (by simp [up2]) rfl rfl), (sx_R_c hR (fun q => by simp [up2]) (fun q => by simp [up2])), (sx_N_c hN (fun b c q => by simp [up2]) (fun q => by simp [up2]) (fun q => by simp [up2]) (fun q => by simp [up2]) (fun q => by simp [up2])), (sx_A_c hA rfl (fun b c q => by simp [up2]) (fun q => by simp [up2]) (fun q => by simp [up2]) (fun q => by simp [up2]) (fun q => by simp [up2]) (fun q => by simp [up2]) (fun q => by simp [up2]) (fun q => by simp [up2])), (fun s hs => by
    obtain ⟨a1, a2, a3, a4, a5, a6, a7, a8, a9, a10⟩ := hS s hs
    refine ⟨?_, ?_, ?_, ?_, ?_, ?_, ?_, ?_, ?_, ?_⟩
    · simp only [up2]; simp [a1]
    · simp only [up2]; simp [a2]
    · simp only [up2]; simp [a3]
    · simp only [up2]; simp [a4]
    · simp only [up2]; simp [a5]
    · simp only [up2]; simp [a6]
    · simp only [up2]; simp [a7]
    · simp only [up2]; simp [a8]
    · simp only [up2]; simp [a9]
    · simp only [up2]; simp; exact a10), (sx_Z_c hZ rfl (fun q => by simp [up2]) (fun q => by simp [up2]) (fun q => by simp [up2]) (fun q => by simp [up2]) (fun q => by simp [up2])), (sx_M_c hM rfl (fun _ => Nat.le_refl _) (fun b c => by simp [up2]) (fun q => by simp [up2]) (fun q => by simp [up2])), (sx_B_c hB (fun b c q => by simp [up2]) (fun q => by simp [up2])), (sx_K_c hK (Nat.le_refl _) (fun _ => rfl) (fun b c q => by simp [up2]) (fun b c q => by simp [up2]) (fun q => by simp [up2]) (fun q => by simp [up2]) (fun q => by simp [up2]) (fun q => by simp [up2]) (fun q => by simp [up2]) (fun q => by simp [up2]) (fun q => by simp [up2]) (fun q => by simp [up2]) (fun q => by simp [up2]))⟩
theorem u_ste {C M : rb_I} {cn : Nat → Nat} {ag : Nat → Nat → Int32} {tc t R : Nat} {bd : Nat → Nat} (h : sx_1 C M cn ag tc t R bd) {j : Nat} {v : Int32} (hj : j < cn 1) : sx_1 (up2 C (9, j, 0) 6 v) (up2 M (14, 20, 0) j v) cn ag tc t R bd := by
  obtain ⟨c0, m0, hT, hC, hR, hN, hA, hS, hZ, hM, hB, hK⟩ := h
  exact ⟨(xCI_c c0 (fun b => by simp [up2]) (fun b q hq => by rcases hq with rfl | rfl <;> simp [up2]) (fun b q hq => by rcases hq with rfl | rfl | rfl | rfl | rfl <;> simp [up2])), (MI_c m0 (fun q => by simp [up2]) (fun q => by simp [up2]) (fun q => by simp [up2]) (fun q => by simp [up2]) (fun q => by simp [up2]) (fun q => by simp [up2]) (by simp [up2]) (by simp [up2]) (by simp [up2]) (by simp [up2]) (fun q => by simp [up2])), (sx_T_c hT (by simp [up2]) (by simp [up2])), (sx_C_c hC (by simp [up2]) (by simp [up2]) (by simp [up2]) rfl rfl), (sx_R_c hR (fun q => by simp [up2]) (fun q => by simp [up2])), (sx_N_c hN (fun b c q => by simp [up2]) (fun q => by simp [up2]) (fun q => by simp [up2]) (fun q => by simp [up2]) (fun q => by simp [up2])), (sx_A_c hA rfl (fun b c q => by simp [up2]) (fun q => by simp [up2]) (fun q => by simp [up2]) (fun q => by simp [up2]) (fun q => by simp [up2]) (fun q => by simp [up2]) (fun q => by simp [up2]) (fun q => by simp [up2])), (fun s hs => by
    obtain ⟨a1, a2, a3, a4, a5, a6, a7, a8, a9, a10⟩ := hS s hs
    refine ⟨?_, ?_, ?_, ?_, ?_, ?_, ?_, ?_, ?_, ?_⟩
    · simp only [up2]; simp [a1]
    · simp only [up2]; simp [a2]
    · simp only [up2]; simp [a3]
    · simp only [up2]; simp [a4]
    · simp only [up2]; simp [a5]
    · simp only [up2]; simp [a6]
    · simp only [up2]; simp [a7]
    · simp only [up2]; simp [a8]
    · simp only [up2]; simp [a9]
    · simp only [up2]; simp; exact a10), (fun s h1 h2 => by
    have e : s ≠ j := by omega
    obtain ⟨a1, a2, a3, a4, a5⟩ := hZ s h1 h2
    simp only [up2]
    simp [e, a1, a2, a3, a4, a5]), (sx_M_c hM rfl (fun _ => Nat.le_refl _) (fun b c => by simp [up2]) (fun q => by simp [up2]) (fun q => by simp [up2])), (sx_B_c hB (fun b c q => by simp [up2]) (fun q => by simp [up2])), (sx_K_c hK (Nat.le_refl _) (fun _ => rfl) (fun b c q => by simp [up2]) (fun b c q => by simp [up2]) (fun q => by simp [up2]) (fun q => by simp [up2]) (fun q => by simp [up2]) (fun q => by simp [up2]) (fun q => by simp [up2]) (fun q => by simp [up2]) (fun q => by simp [up2]) (fun q => by simp [up2]) (fun q => by simp [up2]))⟩
theorem u_con {C M : rb_I} {cn : Nat → Nat} {ag : Nat → Nat → Int32} {tc t R : Nat} {bd : Nat → Nat} (h : sx_1 C M cn ag tc t R bd) {j : Nat} {v : Int32} (hj : j < cn 1) : sx_1 (up2 C (9, j, 0) 8 v) (up2 M (15, 23, 0) j v) cn ag tc t R bd := by
  obtain ⟨c0, m0, hT, hC, hR, hN, hA, hS, hZ, hM, hB, hK⟩ := h
  exact ⟨(xCI_c c0 (fun b => by simp [up2]) (fun b q hq => by rcases hq with rfl | rfl <;> simp [up2]) (fun b q hq => by rcases hq with rfl | rfl | rfl | rfl | rfl <;> simp [up2])), (MI_c m0 (fun q => by simp [up2]) (fun q => by simp [up2]) (fun q => by simp [up2]) (fun q => by simp [up2]) (fun q => by simp [up2]) (fun q => by simp [up2]) (by simp [up2]) (by simp [up2]) (by simp [up2]) (by simp [up2]) (fun q => by simp [up2])), (sx_T_c hT (by simp [up2]) (by simp [up2])), (sx_C_c hC (by simp [up2]) (by simp [up2]) (by simp [up2]) rfl rfl), (sx_R_c hR (fun q => by simp [up2]) (fun q => by simp [up2])), (sx_N_c hN (fun b c q => by simp [up2]) (fun q => by simp [up2]) (fun q => by simp [up2]) (fun q => by simp [up2]) (fun q => by simp [up2])), (sx_A_c hA rfl (fun b c q => by simp [up2]) (fun q => by simp [up2]) (fun q => by simp [up2]) (fun q => by simp [up2]) (fun q => by simp [up2]) (fun q => by simp [up2]) (fun q => by simp [up2]) (fun q => by simp [up2])), (fun s hs => by
    obtain ⟨a1, a2, a3, a4, a5, a6, a7, a8, a9, a10⟩ := hS s hs
    refine ⟨?_, ?_, ?_, ?_, ?_, ?_, ?_, ?_, ?_, ?_⟩
    · simp only [up2]; simp [a1]
    · simp only [up2]; simp [a2]
    · simp only [up2]; simp [a3]
    · simp only [up2]; simp [a4]
    · simp only [up2]; simp [a5]
    · simp only [up2]; simp [a6]
    · simp only [up2]; simp [a7]
    · simp only [up2]; simp [a8]
    · simp only [up2]; simp [a9]
    · simp only [up2]; simp; exact a10), (fun s h1 h2 => by
    have e : s ≠ j := by omega
    obtain ⟨a1, a2, a3, a4, a5⟩ := hZ s h1 h2
    simp only [up2]
    simp [e, a1, a2, a3, a4, a5]), (sx_M_c hM rfl (fun _ => Nat.le_refl _) (fun b c => by simp [up2]) (fun q => by simp [up2]) (fun q => by simp [up2])), (sx_B_c hB (fun b c q => by simp [up2]) (fun q => by simp [up2])), (sx_K_c hK (Nat.le_refl _) (fun _ => rfl) (fun b c q => by simp [up2]) (fun b c q => by simp [up2]) (fun q => by simp [up2]) (fun q => by simp [up2]) (fun q => by simp [up2]) (fun q => by simp [up2]) (fun q => by simp [up2]) (fun q => by simp [up2]) (fun q => by simp [up2]) (fun q => by simp [up2]) (fun q => by simp [up2]))⟩
theorem u_cap {C M : rb_I} {cn : Nat → Nat} {ag : Nat → Nat → Int32} {tc t R : Nat} {bd : Nat → Nat} (h : sx_1 C M cn ag tc t R bd) {j : Nat} {v : Int32} (hv : vp_in v 100000) : sx_1 (up2 C (9, j, 0) 7 v) (up2 M (14, 22, 0) j v) cn ag tc t R bd := by
  obtain ⟨c0, m0, hT, hC, hR, hN, hA, hS, hZ, hM, hB, hK⟩ := h
  exact ⟨(xCI_c c0 (fun b => by simp [up2]) (fun b q hq => by rcases hq with rfl | rfl <;> simp [up2]) (fun b q hq => by rcases hq with rfl | rfl | rfl | rfl | rfl <;> simp [up2])), (MI_c m0 (fun q => by simp [up2]) (fun q => by simp [up2]) (fun q => by simp [up2]) (fun q => by simp [up2]) (fun q => by simp [up2]) (fun q => by simp [up2]) (by simp [up2]) (by simp [up2]) (by simp [up2]) (by simp [up2]) (fun q => by simp [up2])), (sx_T_c hT (by simp [up2]) (by simp [up2])), (sx_C_c hC (by simp [up2]) (by simp [up2]) (by simp [up2]) rfl rfl), (sx_R_c hR (fun q => by simp [up2]) (fun q => by simp [up2])), (sx_N_c hN (fun b c q => by simp [up2]) (fun q => by simp [up2]) (fun q => by simp [up2]) (fun q => by simp [up2]) (fun q => by simp [up2])), (sx_A_c hA rfl (fun b c q => by simp [up2]) (fun q => by simp [up2]) (fun q => by simp [up2]) (fun q => by simp [up2]) (fun q => by simp [up2]) (fun q => by simp [up2]) (fun q => by simp [up2]) (fun q => by simp [up2])), (fun s hs => by
    obtain ⟨a1, a2, a3, a4, a5, a6, a7, a8, a9, a10⟩ := hS s hs
    refine ⟨?_, ?_, ?_, ?_, ?_, ?_, ?_, ?_, ?_, ?_⟩
    · simp only [up2]; simp [a1]
    · simp only [up2]; simp [a2]
    · simp only [up2]; simp [a3]
    · simp only [up2]; simp [a4]
    · simp only [up2]; simp [a5]
    · simp only [up2]; simp [a6]
    · simp only [up2]; simp [a7]
    · simp only [up2]; simp [a8]
    · simp only [up2]; simp [a9]
    · simp only [up2]; simp; split; exact hv; exact a10), (sx_Z_c hZ rfl (fun q => by simp [up2]) (fun q => by simp [up2]) (fun q => by simp [up2]) (fun q => by simp [up2]) (fun q => by simp [up2])), (sx_M_c hM rfl (fun _ => Nat.le_refl _) (fun b c => by simp [up2]) (fun q => by simp [up2]) (fun q => by simp [up2])), (sx_B_c hB (fun b c q => by simp [up2]) (fun q => by simp [up2])), (sx_K_c hK (Nat.le_refl _) (fun _ => rfl) (fun b c q => by simp [up2]) (fun b c q => by simp [up2]) (fun q => by simp [up2]) (fun q => by simp [up2]) (fun q => by simp [up2]) (fun q => by simp [up2]) (fun q => by simp [up2]) (fun q => by simp [up2]) (fun q => by simp [up2]) (fun q => by simp [up2]) (fun q => by simp [up2]))⟩
theorem u_rec {C M : rb_I} {cn : Nat → Nat} {ag : Nat → Nat → Int32} {tc t R : Nat} {bd : Nat → Nat} (h : sx_1 C M cn ag tc t R bd) {j : Nat} {v : Int32} : sx_1 (up2 C (1, 0, 0) j v) (up2 M (14, 2, 0) j v) cn ag tc t R bd := by
  obtain ⟨c0, m0, hT, hC, hR, hN, hA, hS, hZ, hM, hB, hK⟩ := h
  exact ⟨(xCI_c c0 (fun b => by simp [up2]) (fun b q hq => by rcases hq with rfl | rfl <;> simp [up2]) (fun b q hq => by rcases hq with rfl | rfl | rfl | rfl | rfl <;> simp [up2])), (MI_c m0 (fun q => by simp [up2]) (fun q => by simp [up2]) (fun q => by simp [up2]) (fun q => by simp [up2]) (fun q => by simp [up2]) (fun q => by simp [up2]) (by simp [up2]) (by simp [up2]) (by simp [up2]) (by simp [up2]) (fun q => by simp [up2])), (sx_T_c hT (by simp [up2]) (by simp [up2])), (sx_C_c hC (by simp [up2]) (by simp [up2]) (by simp [up2]) rfl rfl), (fun p hp => by simp only [up2]; simp [hR p hp]), (sx_N_c hN (fun b c q => by simp [up2]) (fun q => by simp [up2]) (fun q => by simp [up2]) (fun q => by simp [up2]) (fun q => by simp [up2])), (sx_A_c hA rfl (fun b c q => by simp [up2]) (fun q => by simp [up2]) (fun q => by simp [up2]) (fun q => by simp [up2]) (fun q => by simp [up2]) (fun q => by simp [up2]) (fun q => by simp [up2]) (fun q => by simp [up2])), (sx_S_c hS rfl (fun b c q hq => by simp [up2, hq]) (fun q => by simp [up2]) (fun q => by simp [up2]) (fun q => by simp [up2]) (fun q => by simp [up2]) (fun q => by simp [up2]) (fun q => by simp [up2]) (fun q => by simp [up2]) (fun q => by simp [up2]) (fun q => by simp [up2])), (sx_Z_c hZ rfl (fun q => by simp [up2]) (fun q => by simp [up2]) (fun q => by simp [up2]) (fun q => by simp [up2]) (fun q => by simp [up2])), (sx_M_c hM rfl (fun _ => Nat.le_refl _) (fun b c => by simp [up2]) (fun q => by simp [up2]) (fun q => by simp [up2])), (sx_B_c hB (fun b c q => by simp [up2]) (fun q => by simp [up2])), (sx_K_c hK (Nat.le_refl _) (fun _ => rfl) (fun b c q => by simp [up2]) (fun b c q => by simp [up2]) (fun q => by simp [up2]) (fun q => by simp [up2]) (fun q => by simp [up2]) (fun q => by simp [up2]) (fun q => by simp [up2]) (fun q => by simp [up2]) (fun q => by simp [up2]) (fun q => by simp [up2]) (fun q => by simp [up2]))⟩
theorem u_dea {C M : rb_I} {cn : Nat → Nat} {ag : Nat → Nat → Int32} {tc t R : Nat} {bd : Nat → Nat} (h : sx_1 C M cn ag tc t R bd) {j : Nat} {v : Int32} (hv : v = 0 ∨ v = 1) : sx_1 (up2 C (5, j, 0) 1 v) (up2 M (15, 3, 0) j v) cn ag tc t R bd := by
  obtain ⟨c0, m0, hT, hC, hR, hN, hA, hS, hZ, hM, hB, hK⟩ := h
  exact ⟨⟨(fun id hid => by simp only [up2]; simp; exact c0.1 id hid), (fun s => by simp only [up2]; simp; exact c0.2.1 s), (fun s => by simp only [up2]; simp; exact c0.2.2.1 s), (fun s => by simp only [up2]; simp; exact c0.2.2.2.1 s), (fun s => by simp only [up2]; simp; exact c0.2.2.2.2.1 s), (fun n => by simp only [up2]; simp; exact c0.2.2.2.2.2.1 n), (fun s hs => by simp only [up2]; simp; exact c0.2.2.2.2.2.2.1 s hs), (fun s => by simp only [up2]; simp; split; exact hv; exact c0.2.2.2.2.2.2.2.1 s), c0.2.2.2.2.2.2.2.2⟩, ⟨(fun s => by simp only [up2]; simp; exact m0.1 s), (fun s => by simp only [up2]; simp; exact m0.2.1 s), (fun s => by simp only [up2]; simp; exact m0.2.2.1 s), (fun s => by simp only [up2]; simp; exact m0.2.2.2.1 s), (fun s => by simp only [up2]; simp; exact m0.2.2.2.2.1 s), (fun s => by simp only [up2]; simp; exact m0.2.2.2.2.2.1 s), (by simp only [up2]; simp; exact m0.2.2.2.2.2.2.1), (by simp only [up2]; simp; exact m0.2.2.2.2.2.2.2.1), (by simp only [up2]; simp; exact m0.2.2.2.2.2.2.2.2.1), (by simp only [up2]; simp; exact m0.2.2.2.2.2.2.2.2.2.1), (fun s => by simp only [up2]; simp; split; exact hv; exact m0.2.2.2.2.2.2.2.2.2.2 s)⟩, (sx_T_c hT (by simp [up2]) (by simp [up2])), (sx_C_c hC (by simp [up2]) (by simp [up2]) (by simp [up2]) rfl rfl), (sx_R_c hR (fun q => by simp [up2]) (fun q => by simp [up2])), (fun n hn => by
    obtain ⟨a1, a2, a3, a4, a5, a6, a7, a8, a9, a10⟩ := hN n hn
    refine ⟨?_, ?_, ?_, ?_, ?_, ?_, ?_, ?_, ?_, ?_⟩
    · simp only [up2]; simp [a1]
    · simp only [up2]; simp [a2]
    · simp only [up2]; simp [a3]
    · simp only [up2]; simp [a4]
    · simp only [up2]; simp [a5]
    · simp only [up2]; simp [a6]
    · simp only [up2]; simp; exact a7
    · simp only [up2]; simp; exact a8
    · simp only [up2]; simp; exact a9
    · simp only [up2]; simp; exact a10), (sx_A_c hA rfl (fun b c q => by simp [up2]) (fun q => by simp [up2]) (fun q => by simp [up2]) (fun q => by simp [up2]) (fun q => by simp [up2]) (fun q => by simp [up2]) (fun q => by simp [up2]) (fun q => by simp [up2])), (sx_S_c hS rfl (fun b c q hq => by simp [up2, hq]) (fun q => by simp [up2]) (fun q => by simp [up2]) (fun q => by simp [up2]) (fun q => by simp [up2]) (fun q => by simp [up2]) (fun q => by simp [up2]) (fun q => by simp [up2]) (fun q => by simp [up2]) (fun q => by simp [up2])), (sx_Z_c hZ rfl (fun q => by simp [up2]) (fun q => by simp [up2]) (fun q => by simp [up2]) (fun q => by simp [up2]) (fun q => by simp [up2])), (sx_M_c hM rfl (fun _ => Nat.le_refl _) (fun b c => by simp [up2]) (fun q => by simp [up2]) (fun q => by simp [up2])), (sx_B_c hB (fun b c q => by simp [up2]) (fun q => by simp [up2])), (sx_K_c hK (Nat.le_refl _) (fun _ => rfl) (fun b c q => by simp [up2]) (fun b c q => by simp [up2]) (fun q => by simp [up2]) (fun q => by simp [up2]) (fun q => by simp [up2]) (fun q => by simp [up2]) (fun q => by simp [up2]) (fun q => by simp [up2]) (fun q => by simp [up2]) (fun q => by simp [up2]) (fun q => by simp [up2]))⟩
theorem u_fav {C M : rb_I} {cn : Nat → Nat} {ag : Nat → Nat → Int32} {tc t R : Nat} {bd : Nat → Nat} (h : sx_1 C M cn ag tc t R bd) {j : Nat} {v : Int32} (hv : at6 v) : sx_1 (up2 C (5, j, 0) 2 v) (up2 M (14, 4, 0) j v) cn ag tc t R bd := by
  obtain ⟨c0, m0, hT, hC, hR, hN, hA, hS, hZ, hM, hB, hK⟩ := h
  exact ⟨⟨(fun id hid => by simp only [up2]; simp; exact c0.1 id hid), (fun s => by simp only [up2]; simp; exact c0.2.1 s), (fun s => by simp only [up2]; simp; exact c0.2.2.1 s), (fun s => by simp only [up2]; simp; exact c0.2.2.2.1 s), (fun s => by simp only [up2]; simp; exact c0.2.2.2.2.1 s), (fun s => by simp only [up2]; simp; split; exact hv; exact c0.2.2.2.2.2.1 s), (fun s hs => by simp only [up2]; simp; exact c0.2.2.2.2.2.2.1 s hs), (fun n => by simp only [up2]; simp; exact c0.2.2.2.2.2.2.2.1 n), c0.2.2.2.2.2.2.2.2⟩, ⟨(fun s => by simp only [up2]; simp; exact m0.1 s), (fun s => by simp only [up2]; simp; exact m0.2.1 s), (fun s => by simp only [up2]; simp; exact m0.2.2.1 s), (fun s => by simp only [up2]; simp; exact m0.2.2.2.1 s), (fun s => by simp only [up2]; simp; split; exact hv; exact m0.2.2.2.2.1 s), (fun s => by simp only [up2]; simp; exact m0.2.2.2.2.2.1 s), (by simp only [up2]; simp; exact m0.2.2.2.2.2.2.1), (by simp only [up2]; simp; exact m0.2.2.2.2.2.2.2.1), (by simp only [up2]; simp; exact m0.2.2.2.2.2.2.2.2.1), (by simp only [up2]; simp; exact m0.2.2.2.2.2.2.2.2.2.1), (fun s => by simp only [up2]; simp; exact m0.2.2.2.2.2.2.2.2.2.2 s)⟩, (sx_T_c hT (by simp [up2]) (by simp [up2])), (sx_C_c hC (by simp [up2]) (by simp [up2]) (by simp [up2]) rfl rfl), (sx_R_c hR (fun q => by simp [up2]) (fun q => by simp [up2])), (fun n hn => by
    obtain ⟨a1, a2, a3, a4, a5, a6, a7, a8, a9, a10⟩ := hN n hn
    refine ⟨?_, ?_, ?_, ?_, ?_, ?_, ?_, ?_, ?_, ?_⟩
    · simp only [up2]; simp [a1]
    · simp only [up2]; simp [a2]
    · simp only [up2]; simp [a3]
    · simp only [up2]; simp [a4]
    · simp only [up2]; simp [a5]
    · simp only [up2]; simp [a6]
    · simp only [up2]; simp; exact a7
    · simp only [up2]; simp; exact a8
    · simp only [up2]; simp; exact a9
    · simp only [up2]; simp; exact a10), (sx_A_c hA rfl (fun b c q => by simp [up2]) (fun q => by simp [up2]) (fun q => by simp [up2]) (fun q => by simp [up2]) (fun q => by simp [up2]) (fun q => by simp [up2]) (fun q => by simp [up2]) (fun q => by simp [up2])), (sx_S_c hS rfl (fun b c q hq => by simp [up2, hq]) (fun q => by simp [up2]) (fun q => by simp [up2]) (fun q => by simp [up2]) (fun q => by simp [up2]) (fun q => by simp [up2]) (fun q => by simp [up2]) (fun q => by simp [up2]) (fun q => by simp [up2]) (fun q => by simp [up2])), (sx_Z_c hZ rfl (fun q => by simp [up2]) (fun q => by simp [up2]) (fun q => by simp [up2]) (fun q => by simp [up2]) (fun q => by simp [up2])), (sx_M_c hM rfl (fun _ => Nat.le_refl _) (fun b c => by simp [up2]) (fun q => by simp [up2]) (fun q => by simp [up2])), (sx_B_c hB (fun b c q => by simp [up2]) (fun q => by simp [up2])), (sx_K_c hK (Nat.le_refl _) (fun _ => rfl) (fun b c q => by simp [up2]) (fun b c q => by simp [up2]) (fun q => by simp [up2]) (fun q => by simp [up2]) (fun q => by simp [up2]) (fun q => by simp [up2]) (fun q => by simp [up2]) (fun q => by simp [up2]) (fun q => by simp [up2]) (fun q => by simp [up2]) (fun q => by simp [up2]))⟩
theorem u_los {C M : rb_I} {cn : Nat → Nat} {ag : Nat → Nat → Int32} {tc t R : Nat} {bd : Nat → Nat} (h : sx_1 C M cn ag tc t R bd) {j : Nat} {v : Int32} (hv : vp_in v 10) : sx_1 (up2 C (5, j, 0) 6 v) (up2 M (14, 6, 0) j v) cn ag tc t R bd := by
  obtain ⟨c0, m0, hT, hC, hR, hN, hA, hS, hZ, hM, hB, hK⟩ := h
  exact ⟨(xCI_c c0 (fun b => by simp [up2]) (fun b q hq => by rcases hq with rfl | rfl <;> simp [up2]) (fun b q hq => by rcases hq with rfl | rfl | rfl | rfl | rfl <;> simp [up2])), (MI_c m0 (fun q => by simp [up2]) (fun q => by simp [up2]) (fun q => by simp [up2]) (fun q => by simp [up2]) (fun q => by simp [up2]) (fun q => by simp [up2]) (by simp [up2]) (by simp [up2]) (by simp [up2]) (by simp [up2]) (fun q => by simp [up2])), (sx_T_c hT (by simp [up2]) (by simp [up2])), (sx_C_c hC (by simp [up2]) (by simp [up2]) (by simp [up2]) rfl rfl), (sx_R_c hR (fun q => by simp [up2]) (fun q => by simp [up2])), (fun n hn => by
    obtain ⟨a1, a2, a3, a4, a5, a6, a7, a8, a9, a10⟩ := hN n hn
    refine ⟨?_, ?_, ?_, ?_, ?_, ?_, ?_, ?_, ?_, ?_⟩
    · simp only [up2]; simp [a1]
    · simp only [up2]; simp [a2]
    · simp only [up2]; simp [a3]
    · simp only [up2]; simp [a4]
    · simp only [up2]; simp [a5]
    · simp only [up2]; simp [a6]
    · simp only [up2]; simp; exact a7
    · simp only [up2]; simp; exact a8
    · simp only [up2]; simp; exact a9
    · simp only [up2]; simp; split; exact hv; exact a10), (sx_A_c hA rfl (fun b c q => by simp [up2]) (fun q => by simp [up2]) (fun q => by simp [up2]) (fun q => by simp [up2]) (fun q => by simp [up2]) (fun q => by simp [up2]) (fun q => by simp [up2]) (fun q => by simp [up2])), (sx_S_c hS rfl (fun b c q hq => by simp [up2, hq]) (fun q => by simp [up2]) (fun q => by simp [up2]) (fun q => by simp [up2]) (fun q => by simp [up2]) (fun q => by simp [up2]) (fun q => by simp [up2]) (fun q => by simp [up2]) (fun q => by simp [up2]) (fun q => by simp [up2])), (sx_Z_c hZ rfl (fun q => by simp [up2]) (fun q => by simp [up2]) (fun q => by simp [up2]) (fun q => by simp [up2]) (fun q => by simp [up2])), (sx_M_c hM rfl (fun _ => Nat.le_refl _) (fun b c => by simp [up2]) (fun q => by simp [up2]) (fun q => by simp [up2])), (sx_B_c hB (fun b c q => by simp [up2]) (fun q => by simp [up2])), (sx_K_c hK (Nat.le_refl _) (fun _ => rfl) (fun b c q => by simp [up2]) (fun b c q => by simp [up2]) (fun q => by simp [up2]) (fun q => by simp [up2]) (fun q => by simp [up2]) (fun q => by simp [up2]) (fun q => by simp [up2]) (fun q => by simp [up2]) (fun q => by simp [up2]) (fun q => by simp [up2]) (fun q => by simp [up2]))⟩
theorem u_pri {C M : rb_I} {cn : Nat → Nat} {ag : Nat → Nat → Int32} {tc t R : Nat} {bd : Nat → Nat} (h : sx_1 C M cn ag tc t R bd) {j : Nat} {u v w : Int32} (hu : vp_in u 100) (hv : vp_in v 100) (hw : vp_in w 100) : sx_1 (up2 (up2 (up2 C (5, j, 0) 3 u) (5, j, 0) 4 v) (5, j, 0) 5 w) (up2 (up2 (up2 M (14, 5, 0) (3 * j + 0) u) (14, 5, 0) (3 * j + 1) v) (14, 5, 0) (3 * j + 2) w) cn ag tc t R bd := by
  obtain ⟨c0, m0, hT, hC, hR, hN, hA, hS, hZ, hM, hB, hK⟩ := h
  have hN9 : sx_N (up2 (up2 (up2 C (5, j, 0) 3 u) (5, j, 0) 4 v) (5, j, 0) 5 w) (up2 (up2 (up2 M (14, 5, 0) (3 * j + 0) u) (14, 5, 0) (3 * j + 1) v) (14, 5, 0) (3 * j + 2) w) := by
    intro n hn
    obtain ⟨a1, a2, a3, a4, a5, a6, a7, a8, a9, a10⟩ := hN n hn
    by_cases e : n = j
    · subst e
      refine ⟨?_, ?_, ?_, ?_, ?_, ?_, ?_, ?_, ?_, by simp only [up2]; simp; exact a10⟩ <;> simp [up2, a1, a2, a6, hu, hv, hw]
    · have e0 : ∀ a b, a < 3 → b < 3 → 3 * n + a ≠ 3 * j + b := fun a b _ _ q => e (by omega)
      refine ⟨?_, ?_, ?_, ?_, ?_, ?_, ?_, ?_, ?_, ?_⟩
      · simp [up2, a1]
      · simp [up2, a2]
      · rw [up2_n _ _ _ _ (fun q => e0 0 2 (by decide) (by decide) q.2), up2_n _ _ _ _ (fun q => e0 0 1 (by decide) (by decide) q.2), up2_n _ _ _ _ (fun q => e0 0 0 (by decide) (by decide) q.2)]; simp [up2, e, a3]
      · rw [up2_n (up2 (up2 M _ _ _) _ _ _) _ _ _ (fun q => e0 1 2 (by decide) (by decide) q.2), up2_n (up2 M _ _ _) _ _ _ (fun q => e0 1 1 (by decide) (by decide) q.2), up2_n M _ _ _ (fun q => e0 1 0 (by decide) (by decide) q.2)]; simp [up2, e, a4]
      · rw [up2_n (up2 (up2 M _ _ _) _ _ _) _ _ _ (fun q => e0 2 2 (by decide) (by decide) q.2), up2_n (up2 M _ _ _) _ _ _ (fun q => e0 2 1 (by decide) (by decide) q.2), up2_n M _ _ _ (fun q => e0 2 0 (by decide) (by decide) q.2)]; simp [up2, e, a5]
      · simp [up2, a6]
      · simp [up2, e, a7]
      · simp [up2, e, a8]
      · simp [up2, e, a9]
      · simp [up2, a10]
  exact ⟨(xCI_c c0 (fun b => by simp [up2]) (fun b q hq => by rcases hq with rfl | rfl <;> simp [up2]) (fun b q hq => by rcases hq with rfl | rfl | rfl | rfl | rfl <;> simp [up2])), (MI_c m0 (fun q => by simp [up2]) (fun q => by simp [up2]) (fun q => by simp [up2]) (fun q => by simp [up2]) (fun q => by simp [up2]) (fun q => by simp [up2]) (by simp [up2]) (by simp [up2]) (by simp [up2]) (by simp [up2]) (fun q => by simp [up2])), (sx_T_c hT (by simp [up2]) (by simp [up2])), (sx_C_c hC (by simp [up2]) (by simp [up2]) (by simp [up2]) rfl rfl), (sx_R_c hR (fun q => by simp [up2]) (fun q => by simp [up2])), hN9, (sx_A_c hA rfl (fun b c q => by simp [up2]) (fun q => by simp [up2]) (fun q => by simp [up2]) (fun q => by simp [up2]) (fun q => by simp [up2]) (fun q => by simp [up2]) (fun q => by simp [up2]) (fun q => by simp [up2])), (sx_S_c hS rfl (fun b c q hq => by simp [up2, hq]) (fun q => by simp [up2]) (fun q => by simp [up2]) (fun q => by simp [up2]) (fun q => by simp [up2]) (fun q => by simp [up2]) (fun q => by simp [up2]) (fun q => by simp [up2]) (fun q => by simp [up2]) (fun q => by simp [up2])), (sx_Z_c hZ rfl (fun q => by simp [up2]) (fun q => by simp [up2]) (fun q => by simp [up2]) (fun q => by simp [up2]) (fun q => by simp [up2])), (sx_M_c hM rfl (fun _ => Nat.le_refl _) (fun b c => by simp [up2]) (fun q => by simp [up2]) (fun q => by simp [up2])), (sx_B_c hB (fun b c q => by simp [up2]) (fun q => by simp [up2])), (sx_K_c hK (Nat.le_refl _) (fun _ => rfl) (fun b c q => by simp [up2]) (fun b c q => by simp [up2]) (fun q => by simp [up2]) (fun q => by simp [up2]) (fun q => by simp [up2]) (fun q => by simp [up2]) (fun q => by simp [up2]) (fun q => by simp [up2]) (fun q => by simp [up2]) (fun q => by simp [up2]) (fun q => by simp [up2]))⟩
