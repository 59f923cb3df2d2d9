theorem u_bk {C M : rb_I} {cn : Nat → Nat} {ag : Nat → Nat → Int32} {tc t R : Nat} {bd : Nat → Nat} (h : sx_1 C M cn ag tc t R bd) {n s : Nat} {v : Int32} (hn : n < 6) (hs9 : s < 10) (hv : v = -1 ∨ ∃ e : Nat, e ≤ t ∧ v = nI e) : sx_1 (up2 C (7, n, 0) s v) (up2 M (14, 27, 0) (10 * n + s) v) cn ag tc t R bd := by
  obtain ⟨c0, m0, hT, hC, hR, hN, hA, hS, hZ, hM, hB, hK⟩ := h
  have hB9 : sx_B (up2 C (7, n, 0) s v) (up2 M (14, 27, 0) (10 * n + s) v) t := by
    intro n' s' hn' hs'
    obtain ⟨b1, b2⟩ := hB n' s' hn' hs'
    by_cases e : n' = n ∧ s' = s
    · obtain ⟨e1, e2⟩ := e
      subst e1
      subst e2
      rw [up2_s, up2_s]
      exact ⟨rfl, hv⟩
    · rw [up2_n C _ _ _ (fun q => e ⟨congrArg (fun r : rb_R => r.2.1) q.1, q.2⟩), up2_n M _ _ _ (fun q => e (by have := q.2; omega))]
      exact ⟨b1, b2⟩
  exact ⟨(xCI_c c0 (fun b => by simp [up2]) (fun b q hq => by rcases hq with rfl | rfl <;> simp [up2]) (fun b q hq => by rcases hq with rfl | rfl | rfl | rfl | rfl <;> simp [up2])), (MI_c m0 (fun q => by simp [up2]) (fun q => by simp [up2]) (fun q => by simp [up2]) (fun q => by simp [up2]) (fun q => by simp [up2]) (fun q => by simp [up2]) (by simp [up2]) (by simp [up2]) (by simp [up2]) (by simp [up2]) (fun q => by simp [up2])), (sx_T_c hT (by simp [up2]) (by simp [up2])), (sx_C_c hC (by simp [up2]) (by simp [up2]) (by simp [up2]) rfl rfl), (sx_R_c hR (fun q => by simp [up2]) (fun q => by simp [up2])), (sx_N_c hN (fun b c q => by simp [up2]) (fun q => by simp [up2]) (fun q => by simp [up2]) (fun q => by simp [up2]) (fun q => by simp [up2])), (sx_A_c hA rfl (fun b c q => by simp [up2]) (fun q => by simp [up2]) (fun q => by simp [up2]) (fun q => by simp [up2]) (fun q => by simp [up2]) (fun q => by simp [up2]) (fun q => by simp [up2]) (fun q => by simp [up2])), (sx_S_c hS rfl (fun b c q hq => by simp [up2, hq]) (fun q => by simp [up2]) (fun q => by simp [up2]) (fun q => by simp [up2]) (fun q => by simp [up2]) (fun q => by simp [up2]) (fun q => by simp [up2]) (fun q => by simp [up2]) (fun q => by simp [up2]) (fun q => by simp [up2])), (sx_Z_c hZ rfl (fun q => by simp [up2]) (fun q => by simp [up2]) (fun q => by simp [up2]) (fun q => by simp [up2]) (fun q => by simp [up2])), (sx_M_c hM rfl (fun _ => Nat.le_refl _) (fun b c => by simp [up2]) (fun q => by simp [up2]) (fun q => by simp [up2])), hB9, (sx_K_c hK (Nat.le_refl _) (fun _ => rfl) (fun b c q => by simp [up2]) (fun b c q => by simp [up2]) (fun q => by simp [up2]) (fun q => by simp [up2]) (fun q => by simp [up2]) (fun q => by simp [up2]) (fun q => by simp [up2]) (fun q => by simp [up2]) (fun q => by simp [up2]) (fun q => by simp [up2]) (fun q => by simp [up2]))⟩
theorem los_dec {x : Int32} (h : vp_in x 10) (h0 : ¬ x ≤ 0) : vp_in (x - 1) 10 := by
  have h1 := vp_in_lt h
  have e := vp_in_e h
  cases hx : x.toNatClampNeg with
  | zero => rw [hx] at e; exact absurd (by rw [e]; decide) h0
  | succ n => rw [hx] at e h1; rw [e, nI_pred]; exact vp_in_nI (by omega) (by decide)
theorem put_eq {C M : rb_I} {cn : Nat → Nat} {ag : Nat → Nat → Int32} {tc t R : Nat} {bd : Nat → Nat} (h : sx_1 C M cn ag tc t R bd) {s : Int32} (hs : vp_in s (cn 1)) (n : Nat) (x : Int32) : x2_put C n (C (9, s.toNatClampNeg, 0) 0) x = up2 C (7, n, 0) s.toNatClampNeg x := by
  obtain ⟨c0, m0, hT, hC, hR, hN, hA, hS, hZ, hM, hB, hK⟩ := h
  have e9 : C (9, s.toNatClampNeg, 0) 0 = nI s.toNatClampNeg := c0.2.2.2.2.2.2.1 _ (vp_in_lt hs)
  have h10 : s.toNatClampNeg < 10 := Nat.lt_of_lt_of_le (vp_in_lt hs) c0.2.2.2.2.2.2.2.2.2.1
  unfold x2_put
  rw [e9, if_neg (isLine_ne (vp_in_nI h10 (by decide))), nI_clamp (by omega)]
theorem u_mc {C M : rb_I} {cn : Nat → Nat} {ag : Nat → Nat → Int32} {tc t R : Nat} {bd : Nat → Nat} (h : sx_1 C M cn ag tc t R bd) {s : Int32} (hs : vp_in s (cn 1)) (hat : ¬ M (14, 19, 0) s.toNatClampNeg = -1) : sx_1 (x7_makeContact C s.toNatClampNeg (nI t)) (m_makesContact M s) cn ag tc t R bd := by
  have h9 := h
  obtain ⟨c0, m0, hT, hC, hR, hN, hA, hS, hZ, hM, hB, hK⟩ := h
  obtain ⟨a1, a2, a3, a4, a5, a6, a7, a8, a9, a10⟩ := hS _ (vp_in_lt hs)
  have h10 : s.toNatClampNeg < 10 := Nat.lt_of_lt_of_le (vp_in_lt hs) c0.2.2.2.2.2.2.2.2.2.1
  have hA6 : vp_in (M (14, 19, 0) s.toNatClampNeg) 6 := (m0.2.2.1 s.toNatClampNeg).resolve_left hat
  have hl := (hN _ (vp_in_lt hA6))
  have u1 := u_bk h9 (vp_in_lt hA6) h10 (v := nI t) (Or.inr ⟨t, Nat.le_refl _, rfl⟩)
  unfold x7_makeContact m_makesContact
  rw [put_eq h9 hs, a4, a5, hl.2.2.2.2.2.1, hT.2.2.2]
  by_cases e1 : M (14, 6, 0) (M (14, 19, 0) s.toNatClampNeg).toNatClampNeg ≤ 0
  · simp only [if_pos e1]
    by_cases e2 : M (14, 21, 0) s.toNatClampNeg = -1
    · simp only [if_pos e2]
      exact u_not u1 (Or.inr hA6)
    · simp only [if_neg e2]
      by_cases e3 : M (14, 21, 0) s.toNatClampNeg = M (14, 19, 0) s.toNatClampNeg
      · simp only [if_pos e3]
        exact u_not u1 (Or.inr hA6)
      · simp only [if_neg e3]
        have hN6 : vp_in (M (14, 21, 0) s.toNatClampNeg) 6 := (m0.2.2.2.1 s.toNatClampNeg).resolve_left e2
        have e9 : up2 C (7, (M (14, 19, 0) s.toNatClampNeg).toNatClampNeg, 0) s.toNatClampNeg (nI t) (9, s.toNatClampNeg, 0) 0 = C (9, s.toNatClampNeg, 0) 0 := by simp [up2]
        have p := put_eq u1 hs (M (14, 21, 0) s.toNatClampNeg).toNatClampNeg (-1)
        rw [e9] at p
        unfold x2_takeOut
        rw [p]
        exact u_not (u_bk u1 (vp_in_lt hN6) h10 (Or.inl rfl)) (Or.inr hA6)
  · simp only [if_neg e1]
    refine u_los u1 (los_dec ?_ e1)
    rw [← hl.2.2.2.2.2.1]
    exact hl.2.2.2.2.2.2.2.2.2
theorem fq_mc {C M : rb_I} {j : Nat} {wh : Int32} {s : Int32} {C0 M0 : rb_I} (h : fq C M C0 M0) : fq C M (x7_makeContact C0 j wh) (m_makesContact M0 s) :=
  ⟨fun b c q => by rw [x7_mc_o (by simp) (by simp) (by simp)]; exact h.1 b c q, fun q => by rw [m_makesContact_o (by simp) (by simp) (by simp)]; exact h.2.1 q, by rw [m_makesContact_o (by simp) (by simp) (by simp)]; exact h.2.2.1, by rw [m_makesContact_o (by simp) (by simp) (by simp)]; exact h.2.2.2⟩
theorem s_attach {C M : rb_I} {cn : Nat → Nat} {ag : Nat → Nat → Int32} {t R : Nat} (h : sx C M cn ag t R) (s n : Int32) : okc sq_2 (x7_attach C cn s n) (m_attach M s n).1 (m_attach M s n).2 cn ag := by
  have h9 := h
  obtain ⟨⟨c0, m0, hT, hC, hR, hN, hA, hS, hZ, hM, hB, hK⟩, k28, hR2, hP⟩ := h
  unfold x7_attach m_attach m_isSubscriber
  rw [hC.2.1]
  by_cases e1 : m_in s 0 (nI (cn 1) - 1) = 0
  · simp only [if_pos e1]
    exact ok_thr h9 _ _ _ _ _ sq_21 (by decide)
  simp only [if_neg e1]
  have hs := sub_of c0 e1
  obtain ⟨a1, a2, a3, a4, a5, a6, a7, a8, a9, a10⟩ := hS _ (vp_in_lt hs)
  by_cases e2 : m_isNetwork n = 0
  · simp only [if_pos e2]
    exact ok_thr h9 _ _ _ _ _ sq_21 (by decide)
  simp only [if_neg e2]
  have hn := isNetwork_in e2
  rw [a4]
  by_cases e3 : M (14, 19, 0) s.toNatClampNeg = n
  · simp only [if_pos e3]
    exact ok_thr h9 _ _ _ _ _ sq_23 (by decide)
  simp only [if_neg e3]
  have h1 := sx_1_thr h9.1 0
  rw [why_eq h1 hs hn, stw_eq h1 hs hn]
  by_cases e4 : m_reason (up2 M (16, 0, 0) 0 0) s n = 0
  · simp only [if_pos e4]
    by_cases e5 : m_isSteered (up2 M (16, 0, 0) 0 0) s n = 0
    · simp only [if_pos e5]
      have u1 := u_ste (u_att h1 (j := s.toNatClampNeg) (v := n) (Or.inr hn)) (j := s.toNatClampNeg) (v := 0) (vp_in_lt hs)
      have u2 := u_mc u1 hs (by rw [up2_n _ _ _ _ (by simp), up2_s]; exact in_ne hn)
      rw [hT.2.2.1]
      exact okk h9 u2 (fq_mc ⟨fun b c q => by simp [up2], fun q => by simp [up2], by simp [up2], by simp [up2]⟩) _ _ _ sq_20 e4.symm
    · simp only [if_neg e5]
      have u1 := u_ste h1 (j := s.toNatClampNeg) (v := M (14, 20, 0) s.toNatClampNeg + 1) (vp_in_lt hs)
      rw [a6]
      exact okk h9 u1 ⟨fun b c q => by simp [up2], fun q => by simp [up2], by simp [up2], by simp [up2]⟩ _ _ _ sq_20 rfl
  · simp only [if_neg e4]
    exact ok_0 h9 _ _ _ sq_20 rfl
theorem u_det {C M : rb_I} {cn : Nat → Nat} {ag : Nat → Nat → Int32} {tc t R : Nat} {bd : Nat → Nat} (h : sx_1 C M cn ag tc t R bd) {ns : Int32} {i : Nat} (hi : i < cn 1) (hr : C (1, 0, 0) (C (9, i, 0) 3).toNatClampNeg = ns) : sx_1 (x7_detachIfNotReceived C i) (if M (14, 19, 0) i = -1 then M else if m_isIn ns (M (14, 19, 0) i) = 0 then up2 M (14, 19, 0) i (-1) else M) cn ag tc t R bd := by
  have h9 := h
  obtain ⟨c0, m0, hT, hC, hR, hN, hA, hS, hZ, hM, hB, hK⟩ := h
  obtain ⟨a1, a2, a3, a4, a5, a6, a7, a8, a9, a10⟩ := hS _ hi
  unfold x7_detachIfNotReceived
  rw [hr, a4, isIn_eq]
  by_cases e1 : M (14, 19, 0) i = -1
  · rw [if_pos e1, if_pos e1]; exact h9
  rw [if_neg e1, if_neg e1]
  by_cases e2 : m_isIn ns (M (14, 19, 0) i) = 0
  · rw [if_pos e2, if_pos e2]; exact u_att h9 at6_m1
  rw [if_neg e2, if_neg e2]; exact h9
theorem cnt_cl {C : rb_I} {cn : Nat → Nat} (c0 : xCI C cn) : (nI (cn 1)).toNatClampNeg = cn 1 := nI_clamp (by have := c0.2.2.2.2.2.2.2.2.2.1; omega)
theorem s_reach {C M : rb_I} {cn : Nat → Nat} {ag : Nat → Nat → Int32} {t R : Nat} (h : sx C M cn ag t R) (p ns : Int32) : okc sq_3 (x7_reach C cn p ns) (m_reach M p ns).1 (m_reach M p ns).2 cn ag := by
  have h9 := h
  obtain ⟨⟨c0, m0, hT, hC, hR, hN, hA, hS, hZ, hM, hB, hK⟩, k28, hR2, hP⟩ := h
  unfold x7_reach m_reach
  by_cases e1 : m_isPlace p = 0
  · simp only [if_pos e1]
    exact ok_thr h9 _ _ _ _ _ sq_31 (by decide)
  simp only [if_neg e1]
  by_cases e2 : m_in ns (0 : Int32) (63 : Int32) = 0
  · simp only [if_pos e2]
    exact ok_thr h9 _ _ _ _ _ sq_32 (by decide)
  simp only [if_neg e2]
  have hp := isPlace_in e1
  rw [hC.2.1, cnt_cl c0]
  have key : ∀ i, i ≤ cn 1 → sx_1 (fo (x7_reach_b p) i (up2 C (1, 0, 0) p.toNatClampNeg ns)) (fo (m_reach_b p ns) i (up2 (up2 M (16, 0, 0) 0 0) (14, 2, 0) p.toNatClampNeg ns)) cn ag t t R (fun _ => 59400 * cn 2) ∧ fo (x7_reach_b p) i (up2 C (1, 0, 0) p.toNatClampNeg ns) (1, 0, 0) p.toNatClampNeg = ns ∧ fq C M (fo (x7_reach_b p) i (up2 C (1, 0, 0) p.toNatClampNeg ns)) (fo (m_reach_b p ns) i (up2 (up2 M (16, 0, 0) 0 0) (14, 2, 0) p.toNatClampNeg ns)) := by
    intro i
    induction i with
    | zero =>
      intro _
      rw [fo_0, fo_0]
      exact ⟨u_rec (sx_1_thr h9.1 0), up2_s _ _ _ _, ⟨fun b c q => by simp [up2], fun q => by simp [up2], by simp [up2], by simp [up2]⟩⟩
    | succ i ih =>
      intro hi
      obtain ⟨i1, i2, i3⟩ := ih (by omega)
      rw [fo_s, fo_s]
      generalize fo (x7_reach_b p) i (up2 C (1, 0, 0) p.toNatClampNeg ns) = C1 at *
      generalize fo (m_reach_b p ns) i (up2 (up2 M (16, 0, 0) 0 0) (14, 2, 0) p.toNatClampNeg ns) = M1 at *
      have a3 := (i1.2.2.2.2.2.2.2.1 i (by omega)).2.2.1
      unfold x7_reach_b m_reach_b
      rw [← a3]
      by_cases e3 : C1 (9, i, 0) 3 = p
      · rw [if_pos e3, if_pos e3]
        refine ⟨u_det i1 (by omega) (by rw [e3]; exact i2), by rw [x7_detachIfNotReceived_o (by simp)]; exact i2, fun b c q => by rw [x7_detachIfNotReceived_o (by simp)]; exact i3.1 b c q, fun q => ?_, ?_, ?_⟩
        · (repeat' split) <;> simp [up2, i3.2.1]
        · (repeat' split) <;> simp [up2, i3.2.2.1]
        · (repeat' split) <;> simp [up2, i3.2.2.2]
      · rw [if_neg e3, if_neg e3]
        exact ⟨i1, i2, i3⟩
  obtain ⟨k1, -, k3⟩ := key (cn 1) (Nat.le_refl _)
  exact okk h9 k1 k3 _ _ _ sq_30 (hR _ (vp_in_lt hp))
theorem u_clr {C M : rb_I} {cn : Nat → Nat} {ag : Nat → Nat → Int32} {tc t R : Nat} {bd : Nat → Nat} (h : sx_1 C M cn ag tc t R bd) {n : Int32} (hn : vp_in n 6) {Ca Ma : rb_I} (hf : fq Ca Ma C M) : sx_1 (x2_clear C n.toNatClampNeg) (m_empties M n) cn ag tc t R bd ∧ fq Ca Ma (x2_clear C n.toNatClampNeg) (m_empties M n) := by
  unfold x2_clear x_fill m_empties
  have key : ∀ i, i ≤ 10 → sx_1 (fo (x_fill_b n.toNatClampNeg (-1)) i C) (fo (m_empties_b n) i M) cn ag tc t R bd ∧ fq Ca Ma (fo (x_fill_b n.toNatClampNeg (-1)) i C) (fo (m_empties_b n) i M) := by
    intro i
    induction i with
    | zero => intro _; rw [fo_0, fo_0]; exact ⟨h, hf⟩
    | succ i ih =>
      intro hi
      obtain ⟨i1, i2⟩ := ih (by omega)
      rw [fo_s, fo_s]
      unfold x_fill_b m_empties_b
      exact ⟨u_bk i1 (vp_in_lt hn) (by omega) (Or.inl rfl), fun b c q => by simp [up2, i2.1]; exact i2.1 b c q, fun q => by simp [up2]; exact i2.2.1 q, by simp [up2]; exact i2.2.2.1, by simp [up2]; exact i2.2.2.2⟩
  exact key 10 (Nat.le_refl _)
theorem up2_id {f : rb_I} {r : rb_R} {k : Nat} : up2 f r k (f r k) = f := by
  funext r' k'
  unfold up2
  split
  · rename_i h; rw [h.1, h.2]
  · rfl
theorem u_daf {C M : rb_I} {cn : Nat → Nat} {ag : Nat → Nat → Int32} {tc t R : Nat} {bd : Nat → Nat} (h : sx_1 C M cn ag tc t R bd) {n : Int32} {Ca Ma : rb_I} (hf : fq Ca Ma C M) : sx_1 (x7_detachAllFrom C cn n) (fo (m_dead_b n) (cn 1) M) cn ag tc t R bd ∧ fq Ca Ma (x7_detachAllFrom C cn n) (fo (m_dead_b n) (cn 1) M) := by
  unfold x7_detachAllFrom
  have key : ∀ i, i ≤ cn 1 → sx_1 (fo (x7_daf_b n) i C) (fo (m_dead_b n) i M) cn ag tc t R bd ∧ fq Ca Ma (fo (x7_daf_b n) i C) (fo (m_dead_b n) i M) := by
    intro i
    induction i with
    | zero => intro _; rw [fo_0, fo_0]; exact ⟨h, hf⟩
    | succ i ih =>
      intro hi
      obtain ⟨i1, i2⟩ := ih (by omega)
      rw [fo_s, fo_s]
      generalize fo (x7_daf_b n) i C = C1 at *
      generalize fo (m_dead_b n) i M = M1 at *
      have a4 := (i1.2.2.2.2.2.2.2.1 i (by omega)).2.2.2.1
      unfold x7_daf_b m_dead_b
      rw [a4]
      by_cases e3 : M1 (14, 19, 0) i = n
      · rw [if_pos e3, if_pos e3]
        exact ⟨u_att i1 at6_m1, fun b c q => by simp [up2]; exact i2.1 b c q, fun q => by simp [up2]; exact i2.2.1 q, by simp [up2]; exact i2.2.2.1, by simp [up2]; exact i2.2.2.2⟩
      · rw [if_neg e3, if_neg e3, up2_id]
        exact ⟨i1, i2⟩
  exact key _ (Nat.le_refl _)
theorem s_dead {C M : rb_I} {cn : Nat → Nat} {ag : Nat → Nat → Int32} {t R : Nat} (h : sx C M cn ag t R) (n is : Int32) (his : is = 0 ∨ is = 1) : okc sq_3 (x7_dead C cn n is) (m_dead M n is).1 (m_dead M n is).2 cn ag := by
  have h9 := h
  obtain ⟨⟨c0, m0, hT, hC, hR, hN, hA, hS, hZ, hM, hB, hK⟩, k28, hR2, hP⟩ := h
  unfold x7_dead m_dead
  by_cases e1 : m_isNetwork n = 0
  · simp only [if_pos e1]
    exact ok_thr h9 _ _ _ _ _ sq_31 (by decide)
  simp only [if_neg e1]
  have hn := isNetwork_in e1
  obtain ⟨a1, a2, a3, a4, a5, a6, a7, a8, a9, a10⟩ := hN _ (vp_in_lt hn)
  by_cases e2 : is = 0
  · simp only [if_pos e2]
    exact okk h9 (u_dea (sx_1_thr h9.1 0) his) ⟨fun b c q => by simp [up2], fun q => by simp [up2], by simp [up2], by simp [up2]⟩ _ _ _ sq_30 a1
  simp only [if_neg e2]
  have u1 := u_dea (sx_1_thr h9.1 0) his (j := n.toNatClampNeg)
  obtain ⟨u2, u3⟩ := u_clr u1 hn (Ca := C) (Ma := M) ⟨fun b c q => by simp [up2], fun q => by simp [up2], by simp [up2], by simp [up2]⟩
  obtain ⟨u4, u5⟩ := u_daf u2 (n := n) u3
  rw [hC.2.1, cnt_cl c0]
  exact okk h9 u4 u5 _ _ _ sq_30 a1
theorem s_crash {C M : rb_I} {cn : Nat → Nat} {ag : Nat → Nat → Int32} {t R : Nat} (h : sx C M cn ag t R) (n : Int32) : okc sq_3 (x7_crash C cn n) (m_crash M n).1 (m_crash M n).2 cn ag := by
  have h9 := h
  obtain ⟨⟨c0, m0, hT, hC, hR, hN, hA, hS, hZ, hM, hB, hK⟩, k28, hR2, hP⟩ := h
  unfold x7_crash m_crash
  by_cases e1 : m_isNetwork n = 0
  · simp only [if_pos e1]
    exact ok_thr h9 _ _ _ _ _ sq_31 (by decide)
  simp only [if_neg e1]
  have hn := isNetwork_in e1
  obtain ⟨a1, a2, a3, a4, a5, a6, a7, a8, a9, a10⟩ := hN _ (vp_in_lt hn)
  obtain ⟨u2, u3⟩ := u_clr (sx_1_thr h9.1 0) hn (Ca := C) (Ma := M) ⟨fun b c q => by simp [up2], fun q => by simp [up2], by simp [up2], by simp [up2]⟩
  refine okk h9 u2 u3 _ _ _ sq_30 ?_
  unfold x2_count
  have key : ∀ i, i ≤ 10 → fo (x2_count_b C n.toNatClampNeg) i (0 : Int32) = fo (m_crash_b M n) i (0 : Int32) := by
    intro i
    induction i with
    | zero => intro _; rw [fo_0, fo_0]
    | succ i ih =>
      intro hi
      rw [fo_s, fo_s, ih (by omega)]
      unfold x2_count_b m_crash_b
      rw [(hB _ i (vp_in_lt hn) (by omega)).1]
      split
      · exact (Int32.add_zero _).symm
      · rfl
  exact key 10 (Nat.le_refl _)
