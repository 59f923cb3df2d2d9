/-! agree, subscriber, attach -/
section
variable {W M : rb_I} {S A R P t d : Nat}
theorem in_lo {a b c : Nat} (h1 : a ≤ b) (h2 : b ≤ c) (hc : c < 2 ^ 31) : ¬ m_in (nI b) (nI a) (nI c) = 0 := in_yes (nI_nlt h1 (by omega)) (nI_nlt h2 hc)
theorem e_agree (hl : lx W M S A R P t d) {ho vi fr to1 pr th lw1 : Nat} (hA : A < 10) (h1 : ho < 6) (h2 : vi < 6) (h3 : ho ≠ vi) (h4 : fr ≤ 999999) (h5 : fr + 1 ≤ to1) (h6 : to1 ≤ 1000000) (h7 : pr ≤ 99) (h8 : th ≤ 9999) (h9 : lw1 ≤ pr) : m_agree M (nI ho) (nI vi) (nI fr) (nI to1) (nI pr) (nI th) (nI lw1) = (nI (A + 1), (up2 (up2 (up2 (up2 (up2 (up2 (up2 (up2 (up2 M (16, 0, 0) 0 0) (14, 8, 0) A (nI ho)) (14, 9, 0) A (nI vi)) (14, 10, 0) A (nI fr)) (14, 11, 0) A (nI to1)) (14, 12, 0) A (nI pr)) (14, 13, 0) A (nI th)) (14, 14, 0) A (nI lw1)) (16, 0, 0) 7 (nI (A + 1)))) := by
  unfold m_agree
  rw [if_neg (is_net h1), if_neg (is_net h2), if_neg (fun q => h3 ((nI_eq (by omega) (by omega)).mp q)), if_neg (in_ok (c := 999999) (n := 999999) rfl (by omega) (by decide)), nI_1, if_neg (show ¬ m_in (nI to1) (nI (fr + 1)) 1000000 = 0 from in_lo (c := 1000000) (by omega) (by omega) (by decide)), if_neg (in_ok (c := 99) (n := 99) rfl (by omega) (by decide)), if_neg (in_ok (c := 9999) (n := 9999) rfl (by omega) (by decide)), if_neg (show ¬ m_in (nI lw1) 0 (nI pr) = 0 from in_ok rfl h9 (by omega)), lm_A hl, if_neg (show ¬ nI A = 30 from fun q => by have := (nI_eq (b := 30) (by omega) (by decide)).mp q; omega), cl_ (by omega), nI_1]
theorem e_agreeX {ho : Nat} {a b c e f : Int32} (h1 : ho < 6) : m_agree M (nI ho) (nI ho) a b c e f = (0, up2 M (16, 0, 0) 0 2) := by
  unfold m_agree
  rw [if_neg (is_net h1), if_neg (is_net h1), if_pos rfl]
theorem c_agree (l : Launch) (X : rb_X) (G : rb_G) (W M : rb_I) (h : LI G W M) {W9 : rb_I} {S A R P t d : Nat} (hl : lx W9 M S A R P t d) {ho vi fr to1 pr th lw1 : Nat} (hA : A < 10) (h1 : ho < 6) (h2 : vi < 6) (h3 : ho ≠ vi) (h4 : fr ≤ 999999) (h5 : fr + 1 ≤ to1) (h6 : to1 ≤ 1000000) (h7 : pr ≤ 99) (h8 : th ≤ 9999) (h9 : lw1 ≤ pr) : rb_N l X yL_agree (.codeWith yL_agree cL_agree 10 (some .int) [(0, 17, 20, 14), (0, 17, 26, 16), (0, 17, 32, 26)]) 8 182 12 800 [rbR (0, 0, 0), rbI (nI ho), rbI (nI vi), rbI (nI fr), rbI (nI to1), rbI (nI pr), rbI (nI th), rbI (nI lw1)] (wI G W) (fun v9 G9 => PK (nI (A + 1)) ((up2 (up2 (up2 (up2 (up2 (up2 (up2 (up2 (up2 M (16, 0, 0) 0 0) (14, 8, 0) A (nI ho)) (14, 9, 0) A (nI vi)) (14, 10, 0) A (nI fr)) (14, 11, 0) A (nI to1)) (14, 12, 0) A (nI pr)) (14, 13, 0) A (nI th)) (14, 14, 0) A (nI lw1)) (16, 0, 0) 7 (nI (A + 1)))) W v9 G9) := by
  refine (rk_agree l X G W M h (nI ho) (nI vi) (nI fr) (nI to1) (nI pr) (nI th) (nI lw1)).imp (fun v9 G9 hpp => ?_)
  rw [e_agree hl hA h1 h2 h3 h4 h5 h6 h7 h8 h9] at hpp
  rw [show mr3 (_, (up2 (up2 (up2 (up2 (up2 (up2 (up2 (up2 (up2 M (16, 0, 0) 0 0) (14, 8, 0) A (nI ho)) (14, 9, 0) A (nI vi)) (14, 10, 0) A (nI fr)) (14, 11, 0) A (nI to1)) (14, 12, 0) A (nI pr)) (14, 13, 0) A (nI th)) (14, 14, 0) A (nI lw1)) (16, 0, 0) 7 (nI (A + 1)))) = nI (A + 1) from mr3_v (by simp [up2])] at hpp
  exact hpp
theorem c_agreeX (l : Launch) (X : rb_X) (G : rb_G) (W M : rb_I) (h : LI G W M) {W9 : rb_I} {S A R P t d : Nat} (hl : lx W9 M S A R P t d) {ho : Nat} {a b c e f : Int32} (h1 : ho < 6) : rb_N l X yL_agree (.codeWith yL_agree cL_agree 10 (some .int) [(0, 17, 20, 14), (0, 17, 26, 16), (0, 17, 32, 26)]) 8 182 12 800 [rbR (0, 0, 0), rbI (nI ho), rbI (nI ho), rbI a, rbI b, rbI c, rbI e, rbI f] (wI G W) (fun v9 G9 => PK (-7200) (up2 M (16, 0, 0) 0 2) W v9 G9) := by
  refine (rk_agree l X G W M h (nI ho) (nI ho) a b c e f).imp (fun v9 G9 hpp => ?_)
  rw [e_agreeX h1] at hpp
  rw [show mr3 (_, up2 M (16, 0, 0) 0 2) = -7200 from mr3_2 (up2_s _ _ _ _)] at hpp
  exact hpp
theorem e_subscriber (hl : lx W M S A R P t d) {ho pl fb : Nat} (h1 : ho < 6) (h2 : pl < 8) (h3 : fb < 64) : m_subscriber M (nI ho) (nI pl) (nI fb) = (nI S, (up2 (up2 (up2 (up2 (up2 (up2 (up2 (up2 M (16, 0, 0) 0 0) (14, 16, 0) S (nI ho)) (14, 17, 0) S (nI pl)) (14, 18, 0) S (nI fb)) (14, 19, 0) S (-1)) (14, 21, 0) S (-1)) (14, 22, 0) S 5000) (16, 0, 0) 15 (nI (S + 1)))) := by
  have hb := lr_b hl
  unfold m_subscriber
  rw [if_neg (is_net h1), if_neg (is_plc h2), if_neg (in_ok (c := 63) (n := 63) rfl (by omega) (by decide)), lm_S hl, if_neg (show ¬ nI S = 10 from fun q => by have := (nI_eq (b := 10) (by omega) (by decide)).mp q; omega), cl_ (by omega), nI_1, nI_pred]
theorem c_subscriber (l : Launch) (X : rb_X) (G : rb_G) (W M : rb_I) (h : LI G W M) {W9 : rb_I} {S A R P t d : Nat} (hl : lx W9 M S A R P t d) {ho pl fb : Nat} (h1 : ho < 6) (h2 : pl < 8) (h3 : fb < 64) : rb_N l X yL_subscriber (.codeWith yL_subscriber cL_subscriber 6 (some .int) [(0, 9, 12, 14), (0, 9, 18, 16), (0, 9, 24, 26)]) 8 179 12 800 [rbR (0, 0, 0), rbI (nI ho), rbI (nI pl), rbI (nI fb)] (wI G W) (fun v9 G9 => PK (nI S) ((up2 (up2 (up2 (up2 (up2 (up2 (up2 (up2 M (16, 0, 0) 0 0) (14, 16, 0) S (nI ho)) (14, 17, 0) S (nI pl)) (14, 18, 0) S (nI fb)) (14, 19, 0) S (-1)) (14, 21, 0) S (-1)) (14, 22, 0) S 5000) (16, 0, 0) 15 (nI (S + 1)))) W v9 G9) := by
  refine (rk_subscriber l X G W M h (nI ho) (nI pl) (nI fb)).imp (fun v9 G9 hpp => ?_)
  rw [e_subscriber hl h1 h2 h3] at hpp
  rw [show mr3 (_, (up2 (up2 (up2 (up2 (up2 (up2 (up2 (up2 M (16, 0, 0) 0 0) (14, 16, 0) S (nI ho)) (14, 17, 0) S (nI pl)) (14, 18, 0) S (nI fb)) (14, 19, 0) S (-1)) (14, 21, 0) S (-1)) (14, 22, 0) S 5000) (16, 0, 0) 15 (nI (S + 1)))) = nI S from mr3_v (by simp [up2])] at hpp
  exact hpp
theorem ag_thr (M : rb_I) (a b v : Int32) : m_agreement (up2 M (16, 0, 0) 0 v) a b = m_agreement M a b := by
  unfold m_agreement m_agreement_b
  simp [up2]
theorem rs_thr (M : rb_I) (a b v : Int32) : m_reason (up2 M (16, 0, 0) 0 v) a b = m_reason M a b := by
  unfold m_reason
  simp only [ag_thr]
  simp [up2]
theorem st_thr (M : rb_I) (a b v : Int32) : m_isSteered (up2 M (16, 0, 0) 0 v) a b = m_isSteered M a b := by
  unfold m_isSteered
  simp only [rs_thr]
  simp [up2]
theorem e_attachX (hl : lx W M S A R P t d) {s n : Nat} (hs : s < S) (hn : n < 6) (e : M (14, 19, 0) s = nI n) : m_attach M (nI s) (nI n) = (0, up2 M (16, 0, 0) 0 2) := by
  have hb := lr_b hl
  unfold m_attach
  rw [if_neg (is_sub hl hs), if_neg (is_net hn), cl_ (show s < 1000000 by omega), if_pos e]
theorem e_attachA (hl : lx W M S A R P t d) {s n : Nat} (hs : s < S) (hn : n < 6) (e : ¬ M (14, 19, 0) s = nI n) (hw : ¬ m_reason M (nI s) (nI n) = 0) : m_attach M (nI s) (nI n) = (m_reason M (nI s) (nI n), (up2 M (16, 0, 0) 0 0)) := by
  have hb := lr_b hl
  unfold m_attach
  rw [if_neg (is_sub hl hs), if_neg (is_net hn), cl_ (show s < 1000000 by omega), if_neg e, rs_thr, if_neg hw]
theorem e_attachB (hl : lx W M S A R P t d) {s n : Nat} (hs : s < S) (hn : n < 6) (e : ¬ M (14, 19, 0) s = nI n) (hw : m_reason M (nI s) (nI n) = 0) (hq : m_isSteered M (nI s) (nI n) = 0) : m_attach M (nI s) (nI n) = (m_reason M (nI s) (nI n), (m_makesContact (up2 (up2 (up2 M (16, 0, 0) 0 0) (14, 19, 0) s (nI n)) (14, 20, 0) s 0) (nI s))) := by
  have hb := lr_b hl
  unfold m_attach
  rw [if_neg (is_sub hl hs), if_neg (is_net hn), cl_ (show s < 1000000 by omega), if_neg e, rs_thr, st_thr, if_pos hw, if_pos hq]
theorem e_attachC (hl : lx W M S A R P t d) {s n : Nat} (hs : s < S) (hn : n < 6) (e : ¬ M (14, 19, 0) s = nI n) (hw : m_reason M (nI s) (nI n) = 0) (hq : ¬ m_isSteered M (nI s) (nI n) = 0) : m_attach M (nI s) (nI n) = (5, up2 (up2 M (16, 0, 0) 0 0) (14, 20, 0) s (M (14, 20, 0) s + 1)) := by
  have hb := lr_b hl
  unfold m_attach
  rw [if_neg (is_sub hl hs), if_neg (is_net hn), cl_ (show s < 1000000 by omega), if_neg e, rs_thr, st_thr, if_pos hw, if_neg hq]
theorem st_eq {s n ho : Nat} (hs : s < 10) (hh : ho < 6) (e16 : M (14, 16, 0) s = nI ho) : m_isSteered M (nI s) (nI n) = if M (14, 4, 0) ho = -1 then 0 else if M (14, 4, 0) ho = nI n then 0 else if m_reason M (nI s) (M (14, 4, 0) ho) = 0 then (if (2 : Int32) ≤ M (14, 20, 0) s then 0 else 1) else 0 := by
  unfold m_isSteered
  rw [cl_ (show s < 1000000 by omega), e16, cl_ (show ho < 1000000 by omega)]
theorem rs_v (M : rb_I) (a b : Int32) : m_reason M a b = 0 ∨ m_reason M a b = 1 ∨ m_reason M a b = 2 ∨ m_reason M a b = 3 ∨ m_reason M a b = 4 := by
  unfold m_reason
  (repeat' split) <;> simp
theorem rs_5 (M : rb_I) (a b : Int32) : ¬ m_reason M a b = 5 := by
  rcases rs_v M a b with e | e | e | e | e <;> rw [e] <;> decide
theorem rs_p (M : rb_I) (a b : Int32) (h : ¬ m_reason M a b = 0) : ¬ m_reason M a b ≤ 0 := by
  rcases rs_v M a b with e | e | e | e | e
  · exact absurd e h
  all_goals rw [e]; decide
theorem mk_0 (M : rb_I) (s : Int32) : m_makesContact M s (16, 0, 0) 0 = M (16, 0, 0) 0 := m_makesContact_o (by simp) (by simp) (by simp)
theorem c_attachX (l : Launch) (X : rb_X) (G : rb_G) (W M : rb_I) (h : LI G W M) {W9 : rb_I} {S A R P t d : Nat} (hl : lx W9 M S A R P t d) {s n : Nat} (hs : s < S) (hn : n < 6) (e : M (14, 19, 0) s = nI n) : rb_N l X yL_attach (.codeWith yL_attach cL_attach 5 (some .int) [(0, 7, 10, 14), (0, 7, 16, 26)]) 8 169 12 72 [rbR (0, 0, 0), rbI (nI s), rbI (nI n)] (wI G W) (fun v9 G9 => PK (-7300) (up2 M (16, 0, 0) 0 2) W v9 G9) := by
  refine (rk_attach l X G W M h (nI s) (nI n)).imp (fun v9 G9 hpp => ?_)
  rw [e_attachX hl hs hn e] at hpp
  rw [show mr2 (_, up2 M (16, 0, 0) 0 2) = -7300 from mr2_2 (up2_s _ _ _ _)] at hpp
  exact hpp
theorem c_attachA (l : Launch) (X : rb_X) (G : rb_G) (W M : rb_I) (h : LI G W M) {W9 : rb_I} {S A R P t d : Nat} (hl : lx W9 M S A R P t d) {s n : Nat} (hs : s < S) (hn : n < 6) (e : ¬ M (14, 19, 0) s = nI n) (hw : ¬ m_reason M (nI s) (nI n) = 0) : rb_N l X yL_attach (.codeWith yL_attach cL_attach 5 (some .int) [(0, 7, 10, 14), (0, 7, 16, 26)]) 8 169 12 72 [rbR (0, 0, 0), rbI (nI s), rbI (nI n)] (wI G W) (fun v9 G9 => PK (m_reason M (nI s) (nI n)) ((up2 M (16, 0, 0) 0 0)) W v9 G9) := by
  refine (rk_attach l X G W M h (nI s) (nI n)).imp (fun v9 G9 hpp => ?_)
  rw [e_attachA hl hs hn e hw] at hpp
  rw [show mr2 (_, (up2 M (16, 0, 0) 0 0)) = m_reason M (nI s) (nI n) from mr2_v (up2_s _ _ _ _)] at hpp
  exact hpp
theorem c_attachB (l : Launch) (X : rb_X) (G : rb_G) (W M : rb_I) (h : LI G W M) {W9 : rb_I} {S A R P t d : Nat} (hl : lx W9 M S A R P t d) {s n : Nat} (hs : s < S) (hn : n < 6) (e : ¬ M (14, 19, 0) s = nI n) (hw : m_reason M (nI s) (nI n) = 0) (hq : m_isSteered M (nI s) (nI n) = 0) : rb_N l X yL_attach (.codeWith yL_attach cL_attach 5 (some .int) [(0, 7, 10, 14), (0, 7, 16, 26)]) 8 169 12 72 [rbR (0, 0, 0), rbI (nI s), rbI (nI n)] (wI G W) (fun v9 G9 => PK (m_reason M (nI s) (nI n)) ((m_makesContact (up2 (up2 (up2 M (16, 0, 0) 0 0) (14, 19, 0) s (nI n)) (14, 20, 0) s 0) (nI s))) W v9 G9) := by
  refine (rk_attach l X G W M h (nI s) (nI n)).imp (fun v9 G9 hpp => ?_)
  rw [e_attachB hl hs hn e hw hq] at hpp
  rw [show mr2 (_, (m_makesContact (up2 (up2 (up2 M (16, 0, 0) 0 0) (14, 19, 0) s (nI n)) (14, 20, 0) s 0) (nI s))) = m_reason M (nI s) (nI n) from mr2_v ((mk_0 _ _).trans (by simp [up2]))] at hpp
  exact hpp
theorem c_attachC (l : Launch) (X : rb_X) (G : rb_G) (W M : rb_I) (h : LI G W M) {W9 : rb_I} {S A R P t d : Nat} (hl : lx W9 M S A R P t d) {s n : Nat} (hs : s < S) (hn : n < 6) (e : ¬ M (14, 19, 0) s = nI n) (hw : m_reason M (nI s) (nI n) = 0) (hq : ¬ m_isSteered M (nI s) (nI n) = 0) : rb_N l X yL_attach (.codeWith yL_attach cL_attach 5 (some .int) [(0, 7, 10, 14), (0, 7, 16, 26)]) 8 169 12 72 [rbR (0, 0, 0), rbI (nI s), rbI (nI n)] (wI G W) (fun v9 G9 => PK (5) (up2 (up2 M (16, 0, 0) 0 0) (14, 20, 0) s (M (14, 20, 0) s + 1)) W v9 G9) := by
  refine (rk_attach l X G W M h (nI s) (nI n)).imp (fun v9 G9 hpp => ?_)
  rw [e_attachC hl hs hn e hw hq] at hpp
  rw [show mr2 (_, up2 (up2 M (16, 0, 0) 0 0) (14, 20, 0) s (M (14, 20, 0) s + 1)) = 5 from mr2_v (by simp [up2])] at hpp
  exact hpp
end
theorem lu_agr {W M : rb_I} {S A R P t d : Nat} (h : lx W M S A R P t d) {ho vi fr to1 pr th lw1 : Nat} (hA9 : A < 10) (hv : ho < 3 ∧ vi < 6 ∧ fr ≤ 999999 ∧ to1 ≤ 1000000 ∧ pr < 100 ∧ th < 10000 ∧ lw1 < 100) (f0 : W (14, 3, 0) (6 * A) = nI (8 * ho + vi)) (f1 : W (14, 3, 0) (6 * A + 1) = nI fr) (f2 : W (14, 3, 0) (6 * A + 2) = nI to1) (f3 : W (14, 3, 0) (6 * A + 3) = nI pr) (f4 : W (14, 3, 0) (6 * A + 4) = nI th) (f5 : W (14, 3, 0) (6 * A + 5) = nI lw1) : lx (up2 W (14, 0, 0) 2 (nI (A + 1))) (up2 (up2 (up2 (up2 (up2 (up2 (up2 (up2 (up2 M (16, 0, 0) 0 0) (14, 8, 0) A (nI ho)) (14, 9, 0) A (nI vi)) (14, 10, 0) A (nI fr)) (14, 11, 0) A (nI to1)) (14, 12, 0) A (nI pr)) (14, 13, 0) A (nI th)) (14, 14, 0) A (nI lw1)) (16, 0, 0) 7 (nI (A + 1))) S (A + 1) R P t d := by
  obtain ⟨h0, hN, hQ, hR, hS, hB, hA, hK, hP, hF⟩ := h
  refine ⟨?_, ?_, ?_, ?_, ?_, ?_, ?_, ?_, ?_, ?_⟩
  · unfold lx_0 at *
    simp [up2] at h0 ⊢
    simp_all
    omega
  · unfold lx_N at *
    intro n hn
    rw [up2_n W _ _ _ (fun q => by have := q.2; omega), up2_n W _ _ _ (fun q => by have := q.2; omega)]
    simpa [up2] using hN n hn
  · unfold lx_Q at *
    intro i hi
    rw [up2_n W _ _ _ (fun q => by have := q.2; omega)]
    simpa [up2] using hQ i hi
  · unfold lx_R at *
    intro i hi
    rw [up2_n W _ _ _ (fun q => by have := q.2; omega)]
    simpa [up2] using hR i hi
  · unfold lx_S at *
    simpa [up2] using hS
  · unfold lx_B at *
    simpa [up2] using hB
  · unfold lx_A at *
    intro j hj
    by_cases e : j = A
    · subst e
      exact ⟨ho, vi, fr, to1, pr, th, lw1, hv, by simp [up2]; exact ⟨f0, f1, f2, f3, f4, f5⟩, by simp [up2]⟩
    · obtain ⟨a, b, c, e1, e2, e3, e4, h1, h2, h3⟩ := hA j (by omega)
      exact ⟨a, b, c, e1, e2, e3, e4, h1, by simpa [up2] using h2, by simpa [up2, e] using h3⟩
  · unfold lx_K at *
    intro k hk
    obtain ⟨a, b, c, e1, e2, e3, e4, ⟨b1, b2, b3, b4, b5, b6, b7, b8⟩, h2, h3⟩ := hK k hk
    exact ⟨a, b, c, e1, e2, e3, e4, ⟨b1, b2, b3, b4, by omega, b6, b7, b8⟩, by simpa [up2] using h2, by simpa [up2] using h3⟩
  · unfold lx_P py_a py_m at *
    simpa [up2] using hP
  · unfold lx_F at *
    simpa [up2] using hF
theorem py_no {W : rb_I} {S P : Nat} (h : ∀ k, k < P → ∃ s far pay e : Nat, s < S ∧ far < 2 ∧ pay ≤ 15000 ∧ e ≤ 1000000 ∧ W (14, 7, 0) k = nI (s + 8 * far + 16 * pay) ∧ W (14, 8, 0) k = nI e) (hS : S < 6) : ∀ m, m ≤ P → fo (py_a W (nI S)) m 0 = 0 ∧ ∀ q, fo (py_m W (nI S) q) m 0 = 0 := by
  intro m
  induction m with
  | zero => intro _; exact ⟨fo_0 _ _, fun q => fo_0 _ _⟩
  | succ m ih =>
    intro hm
    obtain ⟨i1, i2⟩ := ih (by omega)
    obtain ⟨s, far, pay, e, h1, h2, h3, h4, h5, h6⟩ := h m (by omega)
    have key : ¬ W (14, 7, 0) m &&& 7 = nI S := by
      rw [h5, bs_and (by omega) 3 rfl, nI_eq (by omega) (by omega)]
      omega
    refine ⟨?_, fun q => ?_⟩
    · rw [fo_s, i1]
      unfold py_a
      rw [if_neg key]
      rfl
    · rw [fo_s, i2]
      unfold py_m
      rw [if_neg (fun z => key z.1)]
      rfl
theorem lu_sub {W M : rb_I} {S A R P t d : Nat} (h : lx W M S A R P t d) {ho pl fb : Nat} (hS9 : S < 6) (hv : ho < 3 ∧ pl < 4 ∧ fb < 64) (f0 : W (14, 1, 0) (8 * S) = nI ho) (f1 : W (14, 1, 0) (8 * S + 1) = nI pl) (f2 : W (14, 1, 0) (8 * S + 2) = nI fb) (f3 : W (14, 1, 0) (8 * S + 3) = -1) (f5 : W (14, 1, 0) (8 * S + 5) = -1) (f6 : W (14, 1, 0) (8 * S + 6) = 5000) : lx (up2 W (14, 0, 0) 1 (nI (S + 1))) (up2 (up2 (up2 (up2 (up2 (up2 (up2 (up2 M (16, 0, 0) 0 0) (14, 16, 0) S (nI ho)) (14, 17, 0) S (nI pl)) (14, 18, 0) S (nI fb)) (14, 19, 0) S (-1)) (14, 21, 0) S (-1)) (14, 22, 0) S 5000) (16, 0, 0) 15 (nI (S + 1))) (S + 1) A R P t d := by
  obtain ⟨h0, hN, hQ, hR, hS, hB, hA, hK, hP, hF⟩ := h
  refine ⟨?_, ?_, ?_, ?_, ?_, ?_, ?_, ?_, ?_, ?_⟩
  · unfold lx_0 at *
    simp [up2] at h0 ⊢
    simp_all
    omega
  · unfold lx_N at *
    intro n hn
    rw [up2_n W _ _ _ (fun q => by have := q.2; omega), up2_n W _ _ _ (fun q => by have := q.2; omega)]
    simpa [up2] using hN n hn
  · unfold lx_Q at *
    intro i hi
    rw [up2_n W _ _ _ (fun q => by have := q.2; omega)]
    simpa [up2] using hQ i hi
  · unfold lx_R at *
    intro i hi
    rw [up2_n W _ _ _ (fun q => by have := q.2; omega)]
    simpa [up2] using hR i hi
  · unfold lx_S at *
    have hx : ∀ q, up2 W (14, 0, 0) 1 (nI (S + 1)) (14, 1, 0) q = W (14, 1, 0) q := fun q => up2_n _ _ _ _ (by simp)
    simp only [hx]
    refine ⟨fun s hs => ?_, fun s h1 h2 => ?_⟩
    · by_cases e : s = S
      · subst e
        obtain ⟨z1, z2, z3, z4, -⟩ := hS.2 s (Nat.le_refl _) hS9
        rw [f0, f1, f2, f3, f5, f6, z1, z2]
        simp [up2]
        exact ⟨vp_in_nI hv.1 (by decide), vp_in_nI hv.2.1 (by decide), vp_in_nI hv.2.2 (by decide), Or.inl rfl, z3.symm, Or.inl rfl, vp_in_nI (show 5000 < 6000 by decide) (by decide), z4.symm, Or.inl z4⟩
      · have z := hS.1 s (by omega)
        simp [up2, e] at z ⊢
        simpa using z
    · have z := hS.2 s (by omega) h2
      have e : ¬ s = S := by omega
      simp [up2, e] at z ⊢
      simpa using z
  · unfold lx_B at *
    refine ⟨fun n s h1 h2 => by simpa [up2] using hB.1 n s h1 h2, fun n s h1 h2 h3 => by simpa [up2] using hB.2 n s h1 (by omega) h3⟩
  · unfold lx_A at *
    simpa [up2] using hA
  · unfold lx_K at *
    simpa [up2] using hK
  · unfold lx_P at *
    have hx7 : ∀ q, up2 W (14, 0, 0) 1 (nI (S + 1)) (14, 7, 0) q = W (14, 7, 0) q := fun q => up2_n _ _ _ _ (by simp)
    have hx8 : ∀ q, up2 W (14, 0, 0) 1 (nI (S + 1)) (14, 8, 0) q = W (14, 8, 0) q := fun q => up2_n _ _ _ _ (by simp)
    have ea : ∀ s, py_a (up2 W (14, 0, 0) 1 (nI (S + 1))) s = py_a W s := fun s => by funext k a; unfold py_a; rw [hx7]
    have em : ∀ s q, py_m (up2 W (14, 0, 0) 1 (nI (S + 1))) s q = py_m W s q := fun s q => by funext k a; unfold py_m; rw [hx7, hx8]
    obtain ⟨p1, p2, p3, p4⟩ := hP
    have ht := h0.2.2.2.2.2.2.2.2
    have no := py_no (S := S) (P := P) (fun k hk => by obtain ⟨a, b, c, e, q1, q2, q3, q4, q5, q6⟩ := p1 k hk; exact ⟨a, b, c, e, q1, q2, q3, by omega, q5, q6⟩) hS9 P (Nat.le_refl _)
    obtain ⟨-, -, -, -, z5, z6⟩ := hS.2 S (Nat.le_refl _) hS9
    refine ⟨fun k hk => ?_, fun s hs => ?_, fun s hs q h1 h2 => ?_, fun s hs => ?_⟩
    · obtain ⟨a, b, c, e, q1, q2, q3, q4, q5, q6⟩ := p1 k hk
      exact ⟨a, b, c, e, by omega, q2, q3, q4, by rw [hx7]; exact q5, by rw [hx8]; exact q6⟩
    · rw [ea]
      by_cases e : s = S
      · subst e
        rw [no.1]
        simp [up2, z5]
      · simpa [up2] using p2 s (by omega)
    · rw [em]
      by_cases e : s = S
      · subst e
        rw [no.2]
        simp [up2, z6]
      · simpa [up2] using p3 s (by omega) q h1 h2
    · by_cases e : s = S
      · subst e
        exact ⟨0, Nat.zero_le _, by simp [up2, z6]; rfl⟩
      · simpa [up2] using p4 s (by omega)
  · unfold lx_F at *
    simpa [up2] using hF
