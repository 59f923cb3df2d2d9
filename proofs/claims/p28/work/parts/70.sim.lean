/-! THE TWO SIDES: C the class's ints, M the model's -/
def sx_T (C M : rb_I) (tc t : Nat) : Prop := tc ≤ t ∧ t < 1000000 ∧ C (0, 0, 0) 6 = nI tc ∧ M (16, 0, 0) 1 = nI t
def sx_C (M : rb_I) (cn : Nat → Nat) (R : Nat) : Prop := M (16, 0, 0) 7 = nI (cn 0) ∧ M (16, 0, 0) 15 = nI (cn 1) ∧ M (16, 0, 0) 29 = nI R
def sx_R (C M : rb_I) : Prop := ∀ p, p < 8 → C (1, 0, 0) p = M (14, 2, 0) p
def sx_N (C M : rb_I) : Prop := ∀ n, n < 6 → C (5, n, 0) 1 = M (15, 3, 0) n ∧ C (5, n, 0) 2 = M (14, 4, 0) n ∧ C (5, n, 0) 3 = M (14, 5, 0) (3 * n + 0) ∧ C (5, n, 0) 4 = M (14, 5, 0) (3 * n + 1) ∧ C (5, n, 0) 5 = M (14, 5, 0) (3 * n + 2) ∧ C (5, n, 0) 6 = M (14, 6, 0) n ∧
  vp_in (C (5, n, 0) 3) 100 ∧ vp_in (C (5, n, 0) 4) 100 ∧ vp_in (C (5, n, 0) 5) 100 ∧ vp_in (C (5, n, 0) 6) 10
def sx_A (C M : rb_I) (cn : Nat → Nat) : Prop := ∀ j, j < cn 0 → C (10, j, 0) 0 = M (14, 8, 0) j ∧ C (10, j, 0) 1 = M (14, 9, 0) j ∧ C (10, j, 0) 2 = M (14, 10, 0) j ∧ C (10, j, 0) 3 = M (14, 11, 0) j ∧ C (10, j, 0) 4 = M (14, 12, 0) j ∧ C (10, j, 0) 5 = M (14, 13, 0) j ∧ C (10, j, 0) 6 = M (14, 14, 0) j
def sx_S (C M : rb_I) (cn : Nat → Nat) : Prop := ∀ s, s < cn 1 → C (9, s, 0) 1 = M (14, 16, 0) s ∧ C (9, s, 0) 2 = M (14, 18, 0) s ∧ C (9, s, 0) 3 = M (14, 17, 0) s ∧ C (9, s, 0) 4 = M (14, 19, 0) s ∧ C (9, s, 0) 5 = M (14, 21, 0) s ∧ C (9, s, 0) 6 = M (14, 20, 0) s ∧ C (9, s, 0) 7 = M (14, 22, 0) s ∧ C (9, s, 0) 8 = M (15, 23, 0) s ∧ C (9, s, 0) 9 = M (14, 24, 0) s ∧ vp_in (C (9, s, 0) 7) 100000
def sx_Z (M : rb_I) (cn : Nat → Nat) : Prop := ∀ s, cn 1 ≤ s → s < 10 → M (14, 20, 0) s = 0 ∧ M (15, 23, 0) s = 0 ∧ M (14, 24, 0) s = 0 ∧ M (14, 25, 0) s = 0 ∧ M (14, 26, 0) s = 0
def sx_M (C M : rb_I) (cn : Nat → Nat) (tc : Nat) (bd : Nat → Nat) : Prop := ∀ s, s < cn 1 → ∃ a mo : Nat, C (9, s, 0) 10 = nI a ∧ a ≤ bd s ∧ M (14, 25, 0) s = nI mo ∧ mo ≤ tc / 43200 ∧ (mo = tc / 43200 → M (14, 26, 0) s = nI a) ∧ (mo ≠ tc / 43200 → a = 0)
def sx_B (C M : rb_I) (t : Nat) : Prop := ∀ n s, n < 6 → s < 10 → C (7, n, 0) s = M (14, 27, 0) (10 * n + s) ∧ (C (7, n, 0) s = -1 ∨ ∃ e : Nat, e ≤ t ∧ C (7, n, 0) s = nI e)
def sx_P (C M : rb_I) (cn : Nat → Nat) : Prop := ∀ s, s < 10 → M (14, 24, 0) s = fo (fun c a => a + x3_paidBy C c (nI s)) (cn 2) 0
/-- a record's account, how many of account k come before record r -/
def rc_k (M : rb_I) (r : Nat) : Nat := 6 * (M (14, 31, 0) r).toNatClampNeg + (M (14, 30, 0) r).toNatClampNeg
def rc_n (M : rb_I) (k : Nat) : Nat → Nat
  | 0 => 0
  | r + 1 => if rc_k M r = k then rc_n M k r + 1 else rc_n M k r
def rc_E (C M : rb_I) (ag : Nat → Nat → Int32) (r k j : Nat) : Prop := C (12, k, j) 0 = M (14, 32, 0) r ∧ C (12, k, j) 1 = M (14, 33, 0) r ∧ ag k j = M (14, 34, 0) r ∧ C (12, k, j) 3 = M (14, 35, 0) r ∧ C (12, k, j) 4 = (if M (14, 35, 0) r = 0 then -1 else M (14, 36, 0) r) ∧
  (∃ mi : Nat, M (14, 32, 0) r = nI mi ∧ 0 < mi ∧ mi ≤ 600) ∧ (M (14, 35, 0) r = 0 ∨ ∃ f : Nat, M (14, 36, 0) r = nI f ∧ ((M (14, 35, 0) r = 1 ∧ (M (14, 38, 0) k).toNatClampNeg ≤ f ∧ f < (M (14, 37, 0) k).toNatClampNeg) ∨ ((M (14, 35, 0) r = 2 ∨ M (14, 35, 0) r = 3) ∧ f < (M (14, 38, 0) k).toNatClampNeg)))
def sx_K (C M : rb_I) (cn : Nat → Nat) (ag : Nat → Nat → Int32) (R : Nat) : Prop := (∀ k, k < 36 → cn (10 + k) = rc_n M k R) ∧ (∀ k, k < 36 → ∃ f g : Nat, C (8, k, 0) 1 = nI f ∧ M (14, 37, 0) k = nI f ∧ C (8, k, 0) 2 = nI g ∧ M (14, 38, 0) k = nI g ∧ g ≤ f ∧ f ≤ 20) ∧ (∀ k, vp_in (C (8, k, 0) 2) 100) ∧ (∀ r, r < R → M (14, 34, 0) r = -1 ∨ vp_in (M (14, 34, 0) r) (cn 0)) ∧
  ∀ r, r < R → vp_in (M (14, 31, 0) r) 6 ∧ vp_in (M (14, 30, 0) r) 6 ∧ rc_E C M ag r (rc_k M r) (rc_n M (rc_k M r) r)
def sx_1 (C M : rb_I) (cn : Nat → Nat) (ag : Nat → Nat → Int32) (tc t R : Nat) (bd : Nat → Nat) : Prop := xCI C cn ∧ MI M ∧ sx_T C M tc t ∧ sx_C M cn R ∧ sx_R C M ∧ sx_N C M ∧ sx_A C M cn ∧ sx_S C M cn ∧ sx_Z M cn ∧ sx_M C M cn tc bd ∧ sx_B C M t ∧ sx_K C M cn ag R
def sx_Q (C M : rb_I) (cn : Nat → Nat) (R : Nat) : Prop := M (16, 0, 0) 28 = nI (cn 2) ∧ R ≤ 2 * cn 2 ∧ sx_P C M cn
def sx (C M : rb_I) (cn : Nat → Nat) (ag : Nat → Nat → Int32) (t R : Nat) : Prop := sx_1 C M cn ag t t R (fun _ => 59400 * cn 2) ∧ sx_Q C M cn R
/-! each by what it reads -/
theorem sx_T_c {C M C' M' : rb_I} {tc t : Nat} (h : sx_T C M tc t) (h0 : C' (0, 0, 0) 6 = C (0, 0, 0) 6) (h1 : M' (16, 0, 0) 1 = M (16, 0, 0) 1) : sx_T C' M' tc t := by
  unfold sx_T at *
  rw [h0, h1]
  exact h
theorem sx_C_c {M M' : rb_I} {cn cn' : Nat → Nat} {R : Nat} (h : sx_C M cn R) (h7 : M' (16, 0, 0) 7 = M (16, 0, 0) 7) (h15 : M' (16, 0, 0) 15 = M (16, 0, 0) 15) (h29 : M' (16, 0, 0) 29 = M (16, 0, 0) 29) (c0 : cn' 0 = cn 0) (c1 : cn' 1 = cn 1) : sx_C M' cn' R := by
  unfold sx_C at *
  rw [h7, h15, h29, c0, c1]
  exact h
theorem sx_R_c {C M C' M' : rb_I} (h : sx_R C M) (hc : ∀ q, C' (1, 0, 0) q = C (1, 0, 0) q) (hm : ∀ q, M' (14, 2, 0) q = M (14, 2, 0) q) : sx_R C' M' := by
  unfold sx_R at *
  simp only [hc, hm]
  exact h
theorem sx_N_c {C M C' M' : rb_I} (h : sx_N C M) (hc : ∀ b c q, C' (5, b, c) q = C (5, b, c) q) (h3 : ∀ q, M' (15, 3, 0) q = M (15, 3, 0) q) (h4 : ∀ q, M' (14, 4, 0) q = M (14, 4, 0) q) (h5 : ∀ q, M' (14, 5, 0) q = M (14, 5, 0) q) (h6 : ∀ q, M' (14, 6, 0) q = M (14, 6, 0) q) : sx_N C' M' := by
  unfold sx_N at *
  simp only [hc, h3, h4, h5, h6]
  exact h
theorem sx_A_c {C M C' M' : rb_I} {cn cn' : Nat → Nat} (h : sx_A C M cn) (c0 : cn' 0 = cn 0) (hc : ∀ b c q, C' (10, b, c) q = C (10, b, c) q) (h8 : ∀ q, M' (14, 8, 0) q = M (14, 8, 0) q) (h9 : ∀ q, M' (14, 9, 0) q = M (14, 9, 0) q) (h10 : ∀ q, M' (14, 10, 0) q = M (14, 10, 0) q) (h11 : ∀ q, M' (14, 11, 0) q = M (14, 11, 0) q) (h12 : ∀ q, M' (14, 12, 0) q = M (14, 12, 0) q) (h13 : ∀ q, M' (14, 13, 0) q = M (14, 13, 0) q) (h14 : ∀ q, M' (14, 14, 0) q = M (14, 14, 0) q) : sx_A C' M' cn' := by
  unfold sx_A at *
  simp only [hc, h8, h9, h10, h11, h12, h13, h14, c0]
  exact h
theorem sx_S_c {C M C' M' : rb_I} {cn cn' : Nat → Nat} (h : sx_S C M cn) (c1 : cn' 1 = cn 1) (hc : ∀ b c q, q ≠ 10 → C' (9, b, c) q = C (9, b, c) q) (h16 : ∀ q, M' (14, 16, 0) q = M (14, 16, 0) q) (h17 : ∀ q, M' (14, 17, 0) q = M (14, 17, 0) q) (h18 : ∀ q, M' (14, 18, 0) q = M (14, 18, 0) q) (h19 : ∀ q, M' (14, 19, 0) q = M (14, 19, 0) q) (h20 : ∀ q, M' (14, 20, 0) q = M (14, 20, 0) q) (h21 : ∀ q, M' (14, 21, 0) q = M (14, 21, 0) q) (h22 : ∀ q, M' (14, 22, 0) q = M (14, 22, 0) q) (h23 : ∀ q, M' (15, 23, 0) q = M (15, 23, 0) q) (h24 : ∀ q, M' (14, 24, 0) q = M (14, 24, 0) q) : sx_S C' M' cn' := by
  unfold sx_S at *
  intro s hs
  rw [hc _ _ 1 (by decide), hc _ _ 2 (by decide), hc _ _ 3 (by decide), hc _ _ 4 (by decide), hc _ _ 5 (by decide), hc _ _ 6 (by decide), hc _ _ 7 (by decide), hc _ _ 8 (by decide), hc _ _ 9 (by decide), h16, h17, h18, h19, h20, h21, h22, h23, h24]
  exact h s (by rw [← c1]; exact hs)
theorem sx_Z_c {M M' : rb_I} {cn cn' : Nat → Nat} (h : sx_Z M cn) (c1 : cn' 1 = cn 1) (h20 : ∀ q, M' (14, 20, 0) q = M (14, 20, 0) q) (h23 : ∀ q, M' (15, 23, 0) q = M (15, 23, 0) q) (h24 : ∀ q, M' (14, 24, 0) q = M (14, 24, 0) q) (h25 : ∀ q, M' (14, 25, 0) q = M (14, 25, 0) q) (h26 : ∀ q, M' (14, 26, 0) q = M (14, 26, 0) q) : sx_Z M' cn' := by
  unfold sx_Z at *
  simp only [h20, h23, h24, h25, h26, c1]
  exact h
theorem sx_M_c {C M C' M' : rb_I} {cn cn' : Nat → Nat} {tc : Nat} {bd bd' : Nat → Nat} (h : sx_M C M cn tc bd) (c1 : cn' 1 = cn 1) (hb : ∀ s, bd s ≤ bd' s) (hc : ∀ b c, C' (9, b, c) 10 = C (9, b, c) 10) (h25 : ∀ q, M' (14, 25, 0) q = M (14, 25, 0) q) (h26 : ∀ q, M' (14, 26, 0) q = M (14, 26, 0) q) : sx_M C' M' cn' tc bd' := by
  unfold sx_M at *
  intro s hs
  obtain ⟨a, mo, a1, a2, a3, a4, a5, a6⟩ := h s (by rw [← c1]; exact hs)
  exact ⟨a, mo, by rw [hc]; exact a1, Nat.le_trans a2 (hb s), by rw [h25]; exact a3, a4, fun q => by rw [h26]; exact a5 q, a6⟩
theorem sx_B_c {C M C' M' : rb_I} {t : Nat} (h : sx_B C M t) (hc : ∀ b c q, C' (7, b, c) q = C (7, b, c) q) (h27 : ∀ q, M' (14, 27, 0) q = M (14, 27, 0) q) : sx_B C' M' t := by
  unfold sx_B at *
  simp only [hc, h27]
  exact h
theorem sx_P_c {C M C' M' : rb_I} {cn cn' : Nat → Nat} (h : sx_P C M cn) (c2 : cn' 2 = cn 2) (hc : ∀ b c q, C' (11, b, c) q = C (11, b, c) q) (h24 : ∀ q, M' (14, 24, 0) q = M (14, 24, 0) q) : sx_P C' M' cn' := by
  unfold sx_P at *
  simp only [h24, c2, x3_paidBy, hc]
  exact h
theorem rc_k_c {M M' : rb_I} (h30 : ∀ q, M' (14, 30, 0) q = M (14, 30, 0) q) (h31 : ∀ q, M' (14, 31, 0) q = M (14, 31, 0) q) (r : Nat) : rc_k M' r = rc_k M r := by
  unfold rc_k
  rw [h30, h31]
theorem rc_n_c {M M' : rb_I} {R : Nat} (h30 : ∀ q, q < R → M' (14, 30, 0) q = M (14, 30, 0) q) (h31 : ∀ q, q < R → M' (14, 31, 0) q = M (14, 31, 0) q) (k : Nat) : ∀ r, r ≤ R → rc_n M' k r = rc_n M k r := by
  intro r
  induction r with
  | zero => intro _; rfl
  | succ r ih =>
    intro h
    unfold rc_n rc_k
    rw [ih (by omega), h30 r (by omega), h31 r (by omega)]
theorem sx_K_c {C M C' M' : rb_I} {cn cn' : Nat → Nat} {ag : Nat → Nat → Int32} {R : Nat} (h : sx_K C M cn ag R) (c0 : cn 0 ≤ cn' 0) (cK : ∀ k, cn' (10 + k) = cn (10 + k)) (h12 : ∀ b c q, C' (12, b, c) q = C (12, b, c) q) (h8 : ∀ b c q, C' (8, b, c) q = C (8, b, c) q) (h30 : ∀ q, M' (14, 30, 0) q = M (14, 30, 0) q) (h31 : ∀ q, M' (14, 31, 0) q = M (14, 31, 0) q) (h32 : ∀ q, M' (14, 32, 0) q = M (14, 32, 0) q) (h33 : ∀ q, M' (14, 33, 0) q = M (14, 33, 0) q) (h34 : ∀ q, M' (14, 34, 0) q = M (14, 34, 0) q) (h35 : ∀ q, M' (14, 35, 0) q = M (14, 35, 0) q) (h36 : ∀ q, M' (14, 36, 0) q = M (14, 36, 0) q) (h37 : ∀ q, M' (14, 37, 0) q = M (14, 37, 0) q) (h38 : ∀ q, M' (14, 38, 0) q = M (14, 38, 0) q) : sx_K C' M' cn' ag R := by
  have e : ∀ k r, rc_n M' k r = rc_n M k r := fun k r => rc_n_c (R := r) (fun q _ => h30 q) (fun q _ => h31 q) k r (Nat.le_refl _)
  unfold sx_K rc_E at *
  simp only [rc_k_c h30 h31, e, h12, h8, h30, h31, h32, h33, h34, h35, h36, h37, h38, cK]
  exact ⟨h.1, h.2.1, h.2.2.1, fun r hr => (h.2.2.2.1 r hr).imp id (fun q => vp_in_up q c0), h.2.2.2.2⟩
theorem MI_c {M M' : rb_I} (h : MI M) (h16 : ∀ q, M' (14, 16, 0) q = M (14, 16, 0) q) (h17 : ∀ q, M' (14, 17, 0) q = M (14, 17, 0) q) (h19 : ∀ q, M' (14, 19, 0) q = M (14, 19, 0) q) (h21 : ∀ q, M' (14, 21, 0) q = M (14, 21, 0) q) (h4 : ∀ q, M' (14, 4, 0) q = M (14, 4, 0) q) (h34 : ∀ q, M' (14, 34, 0) q = M (14, 34, 0) q) (h7 : M' (16, 0, 0) 7 = M (16, 0, 0) 7) (h15 : M' (16, 0, 0) 15 = M (16, 0, 0) 15) (h28 : M' (16, 0, 0) 28 = M (16, 0, 0) 28) (h29 : M' (16, 0, 0) 29 = M (16, 0, 0) 29) (h3 : ∀ q, M' (15, 3, 0) q = M (15, 3, 0) q) : MI M' := by
  unfold MI at *
  simp only [h16, h17, h19, h21, h4, h34, h7, h15, h28, h29, h3]
  exact h
theorem xCI_c {C C' : rb_I} {cn : Nat → Nat} (h : xCI C cn) (h4 : ∀ b, C' (4, b, 0) 2 = C (4, b, 0) 2) (h5 : ∀ b q, q = 1 ∨ q = 2 → C' (5, b, 0) q = C (5, b, 0) q) (h9 : ∀ b q, q = 0 ∨ q = 1 ∨ q = 3 ∨ q = 4 ∨ q = 5 → C' (9, b, 0) q = C (9, b, 0) q) : xCI C' cn := by
  unfold xCI at *
  simp only [h4, h5 _ 1 (by simp), h5 _ 2 (by simp), h9 _ 0 (by simp), h9 _ 1 (by simp), h9 _ 3 (by simp), h9 _ 4 (by simp), h9 _ 5 (by simp)]
  exact h
/-- the same but for what is not told -/
def ae (C C' : rb_I) : Prop := ∀ r q, r.1 < 13 → ¬ (r.1 = 4 ∧ q = 0) → C' r q = C r q
def am (M M' : rb_I) : Prop := ∀ r q, 14 ≤ r.1 → M' r q = M r q
theorem ae.f {C C' : rb_I} (h : ae C C') (a b c q : Nat) (ha : a < 13) (h4 : a ≠ 4) : C' (a, b, c) q = C (a, b, c) q := h (a, b, c) q ha (fun z => h4 z.1)
theorem ae.f4 {C C' : rb_I} (h : ae C C') (b : Nat) : C' (4, b, 0) 2 = C (4, b, 0) 2 := h (4, b, 0) 2 (show 4 < 13 by decide) (fun z => absurd z.2 (by decide))
theorem am.f {M M' : rb_I} (h : am M M') (a b c q : Nat) (ha : 14 ≤ a) : M' (a, b, c) q = M (a, b, c) q := h (a, b, c) q ha
theorem sx_1_c {C M C' M' : rb_I} {cn : Nat → Nat} {ag : Nat → Nat → Int32} {tc t R : Nat} {bd : Nat → Nat} (h : sx_1 C M cn ag tc t R bd) (hc : ae C C') (hm : am M M') : sx_1 C' M' cn ag tc t R bd := by
  obtain ⟨c0, m0, hT, hC, hR, hN, hA, hS, hZ, hM, hB, hK⟩ := h
  exact ⟨xCI_c c0 hc.f4 (fun b q _ => hc.f 5 b 0 q (by decide) (by decide)) (fun b q _ => hc.f 9 b 0 q (by decide) (by decide)),
    MI_c m0 (fun q => hm.f _ _ _ q (by decide)) (fun q => hm.f _ _ _ q (by decide)) (fun q => hm.f _ _ _ q (by decide)) (fun q => hm.f _ _ _ q (by decide)) (fun q => hm.f _ _ _ q (by decide)) (fun q => hm.f _ _ _ q (by decide)) (hm.f _ _ _ _ (by decide)) (hm.f _ _ _ _ (by decide)) (hm.f _ _ _ _ (by decide)) (hm.f _ _ _ _ (by decide)) (fun q => hm.f _ _ _ q (by decide)),
    sx_T_c hT (hc.f _ _ _ _ (by decide) (by decide)) (hm.f _ _ _ _ (by decide)), sx_C_c hC (hm.f _ _ _ _ (by decide)) (hm.f _ _ _ _ (by decide)) (hm.f _ _ _ _ (by decide)) rfl rfl,
    sx_R_c hR (fun q => hc.f _ _ _ q (by decide) (by decide)) (fun q => hm.f _ _ _ q (by decide)),
    sx_N_c hN (fun b c q => hc.f _ b c q (by decide) (by decide)) (fun q => hm.f _ _ _ q (by decide)) (fun q => hm.f _ _ _ q (by decide)) (fun q => hm.f _ _ _ q (by decide)) (fun q => hm.f _ _ _ q (by decide)),
    sx_A_c hA rfl (fun b c q => hc.f _ b c q (by decide) (by decide)) (fun q => hm.f _ _ _ q (by decide)) (fun q => hm.f _ _ _ q (by decide)) (fun q => hm.f _ _ _ q (by decide)) (fun q => hm.f _ _ _ q (by decide)) (fun q => hm.f _ _ _ q (by decide)) (fun q => hm.f _ _ _ q (by decide)) (fun q => hm.f _ _ _ q (by decide)),
    sx_S_c hS rfl (fun b c q _ => hc.f _ b c q (by decide) (by decide)) (fun q => hm.f _ _ _ q (by decide)) (fun q => hm.f _ _ _ q (by decide)) (fun q => hm.f _ _ _ q (by decide)) (fun q => hm.f _ _ _ q (by decide)) (fun q => hm.f _ _ _ q (by decide)) (fun q => hm.f _ _ _ q (by decide)) (fun q => hm.f _ _ _ q (by decide)) (fun q => hm.f _ _ _ q (by decide)) (fun q => hm.f _ _ _ q (by decide)),
    sx_Z_c hZ rfl (fun q => hm.f _ _ _ q (by decide)) (fun q => hm.f _ _ _ q (by decide)) (fun q => hm.f _ _ _ q (by decide)) (fun q => hm.f _ _ _ q (by decide)) (fun q => hm.f _ _ _ q (by decide)),
    sx_M_c hM rfl (fun _ => Nat.le_refl _) (fun b c => hc.f _ b c _ (by decide) (by decide)) (fun q => hm.f _ _ _ q (by decide)) (fun q => hm.f _ _ _ q (by decide)),
    sx_B_c hB (fun b c q => hc.f _ b c q (by decide) (by decide)) (fun q => hm.f _ _ _ q (by decide)),
    sx_K_c hK (Nat.le_refl _) (fun _ => rfl) (fun b c q => hc.f _ b c q (by decide) (by decide)) (fun b c q => hc.f _ b c q (by decide) (by decide)) (fun q => hm.f _ _ _ q (by decide)) (fun q => hm.f _ _ _ q (by decide)) (fun q => hm.f _ _ _ q (by decide)) (fun q => hm.f _ _ _ q (by decide)) (fun q => hm.f _ _ _ q (by decide)) (fun q => hm.f _ _ _ q (by decide)) (fun q => hm.f _ _ _ q (by decide)) (fun q => hm.f _ _ _ q (by decide)) (fun q => hm.f _ _ _ q (by decide))⟩
theorem sx_Q_c {C M C' M' : rb_I} {cn : Nat → Nat} {R : Nat} (h : sx_Q C M cn R) (hc : ae C C') (hm : am M M') : sx_Q C' M' cn R :=
  ⟨(hm.f _ _ _ _ (by decide)).trans h.1, h.2.1, sx_P_c h.2.2 rfl (fun b c q => hc.f _ b c q (by decide) (by decide)) (fun q => hm.f _ _ _ q (by decide))⟩
theorem sx_c {C M C' M' : rb_I} {cn : Nat → Nat} {ag : Nat → Nat → Int32} {t R : Nat} (h : sx C M cn ag t R) (hc : ae C C') (hm : am M M') : sx C' M' cn ag t R := ⟨sx_1_c h.1 hc hm, sx_Q_c h.2 hc hm⟩
/-- what a call of both sides must show: q maps the class's throws to the model's -/
def okc (q : Nat → Int32) (a : rb_U) (v : Int32) (M' : rb_I) (cn : Nat → Nat) (ag : Nat → Nat → Int32) : Prop := M' (16, 0, 0) 0 = q a.1 ∧ (a.1 = 0 → a.2.1 = v) ∧ ∃ t R, sx a.2.2 M' cn ag t R
/-- IOOBE 1, IAE 2, ISE 3; where the second is ISE; where the first is IAE -/
def sq_3 (n : Nat) : Int32 := nI n
def sq_2 (n : Nat) : Int32 := if n = 3 then 2 else nI n
def sq_1 (n : Nat) : Int32 := nI (n - 1)
