/-! THE LAW'S OWN ROWS (14,a,0): 0 g, 1 x, 2 b, 3 a, 4 r, 5 m, 6 t, 7 p, 8 w, 9 f; beside the model's numbers M. S subscribers, A agreements, R records, P payments, t the minute, d the dead networks' bits -/
def lx_0 (W M : rb_I) (S A R P t d : Nat) : Prop := (W (14, 0, 0) 0 = nI t ∧ W (14, 0, 0) 1 = nI S ∧ W (14, 0, 0) 2 = nI A ∧ W (14, 0, 0) 3 = nI R ∧ W (14, 0, 0) 4 = nI P ∧ W (14, 0, 0) 5 = nI d) ∧
  (M (16, 0, 0) 1 = nI t ∧ M (16, 0, 0) 7 = nI A ∧ M (16, 0, 0) 15 = nI S ∧ M (16, 0, 0) 28 = nI (P / 2) ∧ M (16, 0, 0) 29 = nI R) ∧ (S ≤ 6 ∧ A ≤ 10 ∧ R ≤ P ∧ P ≤ 58 ∧ P % 2 = 0 ∧ d < 64 ∧ t < 1000000)
def lx_N (W M : rb_I) (d : Nat) : Prop := ∀ n, n < 6 → M (15, 3, 0) n = nI (d / 2 ^ n % 2) ∧ W (14, 0, 0) (6 + n) = M (14, 4, 0) n ∧ at6 (M (14, 4, 0) n) ∧ W (14, 0, 0) (12 + n) = M (14, 6, 0) n ∧ vp_in (M (14, 6, 0) n) 10
def lx_Q (W M : rb_I) : Prop := ∀ j, j < 18 → W (14, 0, 0) (26 + j) = M (14, 5, 0) j ∧ vp_in (M (14, 5, 0) j) 100
def lx_R (W M : rb_I) : Prop := ∀ p, p < 4 → W (14, 0, 0) (18 + p) = M (14, 2, 0) p ∧ vp_in (M (14, 2, 0) p) 64
def lx_S (W M : rb_I) (S : Nat) : Prop := (∀ s, s < S → W (14, 1, 0) (8 * s) = M (14, 16, 0) s ∧ vp_in (M (14, 16, 0) s) 3 ∧ W (14, 1, 0) (8 * s + 1) = M (14, 17, 0) s ∧ vp_in (M (14, 17, 0) s) 4 ∧ W (14, 1, 0) (8 * s + 2) = M (14, 18, 0) s ∧ vp_in (M (14, 18, 0) s) 64 ∧ W (14, 1, 0) (8 * s + 3) = M (14, 19, 0) s ∧ at6 (M (14, 19, 0) s) ∧
    W (14, 1, 0) (8 * s + 4) = M (14, 20, 0) s ∧ W (14, 1, 0) (8 * s + 5) = M (14, 21, 0) s ∧ at6 (M (14, 21, 0) s) ∧ W (14, 1, 0) (8 * s + 6) = M (14, 22, 0) s ∧ vp_in (M (14, 22, 0) s) 6000 ∧ W (14, 1, 0) (8 * s + 7) = M (15, 23, 0) s ∧ (M (15, 23, 0) s = 0 ∨ M (15, 23, 0) s = 1)) ∧
  ∀ s, S ≤ s → s < 6 → W (14, 1, 0) (8 * s + 4) = 0 ∧ W (14, 1, 0) (8 * s + 7) = 0 ∧ M (14, 20, 0) s = 0 ∧ M (15, 23, 0) s = 0 ∧ M (14, 24, 0) s = 0 ∧ M (14, 26, 0) s = 0
def lx_B (W M : rb_I) (S t : Nat) : Prop := (∀ n s, n < 6 → s < 6 → W (14, 2, 0) (6 * n + s) = M (14, 27, 0) (10 * n + s) ∧ (M (14, 27, 0) (10 * n + s) = -1 ∨ ∃ e : Nat, e ≤ t ∧ M (14, 27, 0) (10 * n + s) = nI e)) ∧ ∀ n s, n < 6 → S ≤ s → s < 10 → M (14, 27, 0) (10 * n + s) = -1
def lx_A (W M : rb_I) (A : Nat) : Prop := ∀ j, j < A → ∃ ho vi fr to' pr th lw : Nat, (ho < 3 ∧ vi < 6 ∧ fr ≤ 999999 ∧ to' ≤ 1000000 ∧ pr < 100 ∧ th < 10000 ∧ lw < 100) ∧ (W (14, 3, 0) (6 * j) = nI (8 * ho + vi) ∧ W (14, 3, 0) (6 * j + 1) = nI fr ∧ W (14, 3, 0) (6 * j + 2) = nI to' ∧ W (14, 3, 0) (6 * j + 3) = nI pr ∧ W (14, 3, 0) (6 * j + 4) = nI th ∧ W (14, 3, 0) (6 * j + 5) = nI lw) ∧
  (M (14, 8, 0) j = nI ho ∧ M (14, 9, 0) j = nI vi ∧ M (14, 10, 0) j = nI fr ∧ M (14, 11, 0) j = nI to' ∧ M (14, 12, 0) j = nI pr ∧ M (14, 13, 0) j = nI th ∧ M (14, 14, 0) j = nI lw)
def lx_K (W M : rb_I) (A R t : Nat) : Prop := ∀ k, k < R → ∃ vi ho st fl by1 e mi : Nat, (vi < 6 ∧ ho < 6 ∧ st < 4 ∧ fl < 20 ∧ by1 ≤ A ∧ e ≤ t ∧ (0 < mi ∧ mi ≤ 600) ∧ (st = 0 → fl = 0)) ∧ (W (14, 4, 0) k = nI (vi + 8 * ho + 64 * st + 256 * fl + 8192 * by1) ∧ W (14, 5, 0) k = nI mi ∧ W (14, 6, 0) k = nI e) ∧
  (M (14, 31, 0) k = nI vi ∧ M (14, 30, 0) k = nI ho ∧ M (14, 35, 0) k = nI st ∧ (st ≠ 0 → M (14, 36, 0) k = nI fl) ∧ M (14, 34, 0) k = (if by1 = 0 then -1 else nI (by1 - 1)) ∧ M (14, 33, 0) k = nI e ∧ M (14, 32, 0) k = nI mi)
/-- what a subscriber paid: all; abroad in month q -/
def py_a (W : rb_I) (s : Int32) (k : Nat) (a : Int32) : Int32 := a + (if W (14, 7, 0) k &&& 7 = s then W (14, 7, 0) k >>> (4 &&& 31) else 0)
def py_m (W : rb_I) (s q : Int32) (k : Nat) (a : Int32) : Int32 := a + (if W (14, 7, 0) k &&& 7 = s ∧ 0 < W (14, 7, 0) k &&& 8 ∧ W (14, 8, 0) k / 43200 = q then W (14, 7, 0) k >>> (4 &&& 31) else 0)
def lx_P (W M : rb_I) (S P t : Nat) : Prop := (∀ k, k < P → ∃ s far pay e : Nat, s < S ∧ far < 2 ∧ pay ≤ 15000 ∧ e ≤ t ∧ W (14, 7, 0) k = nI (s + 8 * far + 16 * pay) ∧ W (14, 8, 0) k = nI e) ∧
  (∀ s, s < S → fo (py_a W (nI s)) P 0 = M (14, 24, 0) s) ∧ (∀ s, s < S → ∀ q, t / 43200 ≤ q → q < 30 → fo (py_m W (nI s) (nI q)) P 0 = if M (14, 25, 0) s = nI q then M (14, 26, 0) s else 0) ∧ ∀ s, s < S → ∃ z : Nat, z ≤ 15000 * P ∧ (if M (14, 25, 0) s = nI (t / 43200) then M (14, 26, 0) s else 0) = nI z
def lx_F (W M : rb_I) : Prop := ∀ vi ho, vi < 6 → ho < 6 → ∃ f g : Nat, g ≤ f ∧ f ≤ 20 ∧ W (14, 9, 0) (vi + 8 * ho) = nI (f + 32 * g) ∧ M (14, 37, 0) (6 * vi + ho) = nI f ∧ M (14, 38, 0) (6 * vi + ho) = nI g
def lx (W M : rb_I) (S A R P t d : Nat) : Prop := lx_0 W M S A R P t d ∧ lx_N W M d ∧ lx_Q W M ∧ lx_R W M ∧ lx_S W M S ∧ lx_B W M S t ∧ lx_A W M A ∧ lx_K W M A R t ∧ lx_P W M S P t ∧ lx_F W M
/-- the class and the model side by side, the class's shape -/
def LI (G : rb_G) (W M : rb_I) : Prop := MS G ∧ ∃ cn ag t R, xCS G cn ag ∧ sx W M cn ag t R
def lw (W W' : rb_I) : Prop := ∀ f q, W' (14, f, 0) q = W (14, f, 0) q
theorem LI_up {G : rb_G} {W M : rb_I} (h : LI G W M) (a k : Nat) (v : Int32) : LI G (up2 W (14, a, 0) k v) M := by
  obtain ⟨h1, cn, ag, t, R, h2, h3⟩ := h
  exact ⟨h1, cn, ag, t, R, h2, sx_c h3 (fun r q hr _ => up2_n _ _ _ _ (fun z => by rw [z.1] at hr; exact absurd hr (show ¬ (14 < 13) by decide))) (fun _ _ _ => rfl)⟩
theorem LI_thr {G : rb_G} {W M : rb_I} (h : LI G W M) (v : Int32) : LI G W (up2 M (16, 0, 0) 0 v) := by
  obtain ⟨h1, cn, ag, t, R, h2, h3⟩ := h
  exact ⟨h1, cn, ag, t, R, h2, sx_thr h3 v⟩
theorem lx_lw {W W' M : rb_I} {S A R P t d : Nat} (h : lx W M S A R P t d) (hw : lw W W') : lx W' M S A R P t d := by
  unfold lw at hw
  unfold lx lx_0 lx_N lx_Q lx_R lx_S lx_B lx_A lx_K lx_P lx_F py_a py_m at *
  simp only [hw]
  exact h
theorem lx_thr {W M : rb_I} {S A R P t d : Nat} (h : lx W M S A R P t d) (v : Int32) : lx W (up2 M (16, 0, 0) 0 v) S A R P t d := by
  unfold lx lx_0 lx_N lx_Q lx_R lx_S lx_B lx_A lx_K lx_P lx_F py_a py_m at *
  simpa [up2] using h
theorem lw_rf (W : rb_I) : lw W W := fun _ _ => rfl
/-! reads -/
section
variable {W M : rb_I} {S A R P t d : Nat}
theorem lr_b (h : lx W M S A R P t d) : S ≤ 6 ∧ A ≤ 10 ∧ R ≤ P ∧ P ≤ 58 ∧ P % 2 = 0 ∧ d < 64 ∧ t < 1000000 := h.1.2.2
theorem lr_g0 (h : lx W M S A R P t d) : W (14, 0, 0) 0 = nI t := h.1.1.1
theorem lr_g1 (h : lx W M S A R P t d) : W (14, 0, 0) 1 = nI S := h.1.1.2.1
theorem lr_g2 (h : lx W M S A R P t d) : W (14, 0, 0) 2 = nI A := h.1.1.2.2.1
theorem lr_g3 (h : lx W M S A R P t d) : W (14, 0, 0) 3 = nI R := h.1.1.2.2.2.1
theorem lr_g4 (h : lx W M S A R P t d) : W (14, 0, 0) 4 = nI P := h.1.1.2.2.2.2.1
theorem lr_g5 (h : lx W M S A R P t d) : W (14, 0, 0) 5 = nI d := h.1.1.2.2.2.2.2
theorem lm_t (h : lx W M S A R P t d) : M (16, 0, 0) 1 = nI t := h.1.2.1.1
theorem lm_A (h : lx W M S A R P t d) : M (16, 0, 0) 7 = nI A := h.1.2.1.2.1
theorem lm_S (h : lx W M S A R P t d) : M (16, 0, 0) 15 = nI S := h.1.2.1.2.2.1
theorem lm_P (h : lx W M S A R P t d) : M (16, 0, 0) 28 = nI (P / 2) := h.1.2.1.2.2.2.1
theorem lm_R (h : lx W M S A R P t d) : M (16, 0, 0) 29 = nI R := h.1.2.1.2.2.2.2
theorem lr_N (h : lx W M S A R P t d) {n : Nat} (hn : n < 6) : M (15, 3, 0) n = nI (d / 2 ^ n % 2) ∧ W (14, 0, 0) (6 + n) = M (14, 4, 0) n ∧ at6 (M (14, 4, 0) n) ∧ W (14, 0, 0) (12 + n) = M (14, 6, 0) n ∧ vp_in (M (14, 6, 0) n) 10 := h.2.1 n hn
theorem lr_Q (h : lx W M S A R P t d) {j : Nat} (hj : j < 18) : W (14, 0, 0) (26 + j) = M (14, 5, 0) j ∧ vp_in (M (14, 5, 0) j) 100 := h.2.2.1 j hj
theorem lr_R (h : lx W M S A R P t d) {p : Nat} (hp : p < 4) : W (14, 0, 0) (18 + p) = M (14, 2, 0) p ∧ vp_in (M (14, 2, 0) p) 64 := h.2.2.2.1 p hp
theorem lr_x0 (h : lx W M S A R P t d) {s : Nat} (hs : s < S) : W (14, 1, 0) (8 * s) = M (14, 16, 0) s := (h.2.2.2.2.1.1 s hs).1
theorem lr_x1 (h : lx W M S A R P t d) {s : Nat} (hs : s < S) : W (14, 1, 0) (8 * s + 1) = M (14, 17, 0) s := (h.2.2.2.2.1.1 s hs).2.2.1
theorem lr_x2 (h : lx W M S A R P t d) {s : Nat} (hs : s < S) : W (14, 1, 0) (8 * s + 2) = M (14, 18, 0) s := (h.2.2.2.2.1.1 s hs).2.2.2.2.1
theorem lr_x3 (h : lx W M S A R P t d) {s : Nat} (hs : s < S) : W (14, 1, 0) (8 * s + 3) = M (14, 19, 0) s := (h.2.2.2.2.1.1 s hs).2.2.2.2.2.2.1
theorem lr_x4 (h : lx W M S A R P t d) {s : Nat} (hs : s < S) : W (14, 1, 0) (8 * s + 4) = M (14, 20, 0) s := (h.2.2.2.2.1.1 s hs).2.2.2.2.2.2.2.2.1
theorem lr_x5 (h : lx W M S A R P t d) {s : Nat} (hs : s < S) : W (14, 1, 0) (8 * s + 5) = M (14, 21, 0) s := (h.2.2.2.2.1.1 s hs).2.2.2.2.2.2.2.2.2.1
theorem lr_x6 (h : lx W M S A R P t d) {s : Nat} (hs : s < S) : W (14, 1, 0) (8 * s + 6) = M (14, 22, 0) s := (h.2.2.2.2.1.1 s hs).2.2.2.2.2.2.2.2.2.2.2.1
theorem lr_x7 (h : lx W M S A R P t d) {s : Nat} (hs : s < S) : W (14, 1, 0) (8 * s + 7) = M (15, 23, 0) s := (h.2.2.2.2.1.1 s hs).2.2.2.2.2.2.2.2.2.2.2.2.2.1
theorem lr_ho (h : lx W M S A R P t d) {s : Nat} (hs : s < S) : vp_in (M (14, 16, 0) s) 3 := (h.2.2.2.2.1.1 s hs).2.1
theorem lr_pl (h : lx W M S A R P t d) {s : Nat} (hs : s < S) : vp_in (M (14, 17, 0) s) 4 := (h.2.2.2.2.1.1 s hs).2.2.2.1
theorem lr_at (h : lx W M S A R P t d) {s : Nat} (hs : s < S) : at6 (M (14, 19, 0) s) := (h.2.2.2.2.1.1 s hs).2.2.2.2.2.2.2.1
theorem lr_nt (h : lx W M S A R P t d) {s : Nat} (hs : s < S) : at6 (M (14, 21, 0) s) := (h.2.2.2.2.1.1 s hs).2.2.2.2.2.2.2.2.2.2.1
theorem lr_cp (h : lx W M S A R P t d) {s : Nat} (hs : s < S) : vp_in (M (14, 22, 0) s) 6000 := (h.2.2.2.2.1.1 s hs).2.2.2.2.2.2.2.2.2.2.2.2.1
theorem lr_cn (h : lx W M S A R P t d) {s : Nat} (hs : s < S) : M (15, 23, 0) s = 0 ∨ M (15, 23, 0) s = 1 := (h.2.2.2.2.1.1 s hs).2.2.2.2.2.2.2.2.2.2.2.2.2.2
theorem lr_bk (h : lx W M S A R P t d) {n s : Nat} (hn : n < 6) (hs : s < 6) : W (14, 2, 0) (6 * n + s) = M (14, 27, 0) (10 * n + s) := (h.2.2.2.2.2.1.1 n s hn hs).1
theorem vp_nat {x : Int32} {n : Nat} (h : vp_in x n) : ∃ k, k < n ∧ x = nI k := ⟨_, vp_in_lt h, vp_in_e h⟩
theorem at6_nat {x : Int32} (h : at6 x) (hx : ¬ x = -1) : ∃ k, k < 6 ∧ x = nI k := vp_nat (h.resolve_left hx)
theorem nI_ne1 {n : Nat} (h : n < 2 ^ 31) : ¬ nI n = -1 := fun q => nI_pos h (by rw [q]; decide)
theorem at6_nI {n : Nat} (h : n < 6) : at6 (nI n) := Or.inr (vp_in_nI h (by decide))
end
/-! writes -/
theorem lu_pl {W M : rb_I} {S A R P t d : Nat} (h : lx W M S A R P t d) {j : Nat} (hj : j < S) {v : Int32} (hv : vp_in v 4) : lx (up2 W (14, 1, 0) (8 * j + 1) v) (up2 M (14, 17, 0) j v) S A R P t d := by
  obtain ⟨h0, hN, hQ, hR, hS, hB, hA, hK, hP, hF⟩ := h
  refine ⟨?_, ?_, ?_, ?_, ?_, ?_, ?_, ?_, ?_, ?_⟩
  · unfold lx_0 at *
    simpa [up2] using h0
  · unfold lx_N at *
    simpa [up2] using hN
  · unfold lx_Q at *
    simpa [up2] using hQ
  · unfold lx_R at *
    simpa [up2] using hR
  · unfold lx_S at *
    refine ⟨fun s hs => ?_, fun s h1 h2 => ?_⟩
    · have z := hS.1 s hs
      have n0 : ¬ 8 * s = 8 * j + 1 := by omega
      have n2 : ¬ 8 * s + 2 = 8 * j + 1 := by omega
      have n3 : ¬ 8 * s + 3 = 8 * j + 1 := by omega
      have n4 : ¬ 8 * s + 4 = 8 * j + 1 := by omega
      have n5 : ¬ 8 * s + 5 = 8 * j + 1 := by omega
      have n6 : ¬ 8 * s + 6 = 8 * j + 1 := by omega
      have n7 : ¬ 8 * s + 7 = 8 * j + 1 := by omega
      by_cases e : s = j
      · subst e
        simp only [up2_s]
        simp only [up2, n0, n2, n3, n4, n5, n6, n7, and_false, if_false, reduceCtorEq]
        simp at z ⊢
        simp_all
      · have ec : ¬ 8 * s + 1 = 8 * j + 1 := by omega
        simp only [up2, n0, n2, n3, n4, n5, n6, n7, ec, e, and_false, if_false]
        simpa using z
    · have z := hS.2 s h1 h2
      have e : ¬ s = j := by omega
      have n0 : ¬ 8 * s = 8 * j + 1 := by omega
      have n2 : ¬ 8 * s + 2 = 8 * j + 1 := by omega
      have n3 : ¬ 8 * s + 3 = 8 * j + 1 := by omega
      have n4 : ¬ 8 * s + 4 = 8 * j + 1 := by omega
      have n5 : ¬ 8 * s + 5 = 8 * j + 1 := by omega
      have n6 : ¬ 8 * s + 6 = 8 * j + 1 := by omega
      have n7 : ¬ 8 * s + 7 = 8 * j + 1 := by omega
      have ec : ¬ 8 * s + 1 = 8 * j + 1 := by omega
      simp only [up2, n0, n2, n3, n4, n5, n6, n7, ec, e, and_false, if_false]
      simpa using z
  · unfold lx_B at *
    simpa [up2] using hB
  · unfold lx_A at *
    simpa [up2] using hA
  · unfold lx_K at *
    simpa [up2] using hK
  · unfold lx_P py_a py_m at *
    simpa [up2] using hP
  · unfold lx_F at *
    simpa [up2] using hF
theorem lu_at {W M : rb_I} {S A R P t d : Nat} (h : lx W M S A R P t d) {j : Nat} (hj : j < S) {v : Int32} (hv : at6 v) : lx (up2 W (14, 1, 0) (8 * j + 3) v) (up2 M (14, 19, 0) j v) S A R P t d := by
  obtain ⟨h0, hN, hQ, hR, hS, hB, hA, hK, hP, hF⟩ := h
  refine ⟨?_, ?_, ?_, ?_, ?_, ?_, ?_, ?_, ?_, ?_⟩
  · unfold lx_0 at *
    simpa [up2] using h0
  · unfold lx_N at *
    simpa [up2] using hN
  · unfold lx_Q at *
    simpa [up2] using hQ
  · unfold lx_R at *
    simpa [up2] using hR
  · unfold lx_S at *
    refine ⟨fun s hs => ?_, fun s h1 h2 => ?_⟩
    · have z := hS.1 s hs
      have n0 : ¬ 8 * s = 8 * j + 3 := by omega
      have n1 : ¬ 8 * s + 1 = 8 * j + 3 := by omega
      have n2 : ¬ 8 * s + 2 = 8 * j + 3 := by omega
      have n4 : ¬ 8 * s + 4 = 8 * j + 3 := by omega
      have n5 : ¬ 8 * s + 5 = 8 * j + 3 := by omega
      have n6 : ¬ 8 * s + 6 = 8 * j + 3 := by omega
      have n7 : ¬ 8 * s + 7 = 8 * j + 3 := by omega
      by_cases e : s = j
      · subst e
        simp only [up2_s]
        simp only [up2, n0, n1, n2, n4, n5, n6, n7, and_false, if_false, reduceCtorEq]
        simp at z ⊢
        simp_all
      · have ec : ¬ 8 * s + 3 = 8 * j + 3 := by omega
        simp only [up2, n0, n1, n2, n4, n5, n6, n7, ec, e, and_false, if_false]
        simpa using z
    · have z := hS.2 s h1 h2
      have e : ¬ s = j := by omega
      have n0 : ¬ 8 * s = 8 * j + 3 := by omega
      have n1 : ¬ 8 * s + 1 = 8 * j + 3 := by omega
      have n2 : ¬ 8 * s + 2 = 8 * j + 3 := by omega
      have n4 : ¬ 8 * s + 4 = 8 * j + 3 := by omega
      have n5 : ¬ 8 * s + 5 = 8 * j + 3 := by omega
      have n6 : ¬ 8 * s + 6 = 8 * j + 3 := by omega
      have n7 : ¬ 8 * s + 7 = 8 * j + 3 := by omega
      have ec : ¬ 8 * s + 3 = 8 * j + 3 := by omega
      simp only [up2, n0, n1, n2, n4, n5, n6, n7, ec, e, and_false, if_false]
      simpa using z
  · unfold lx_B at *
    simpa [up2] using hB
  · unfold lx_A at *
    simpa [up2] using hA
  · unfold lx_K at *
    simpa [up2] using hK
  · unfold lx_P py_a py_m at *
    simpa [up2] using hP
  · unfold lx_F at *
    simpa [up2] using hF
theorem lu_st {W M : rb_I} {S A R P t d : Nat} (h : lx W M S A R P t d) {j : Nat} (hj : j < S) {v : Int32} : lx (up2 W (14, 1, 0) (8 * j + 4) v) (up2 M (14, 20, 0) j v) S A R P t d := by
  obtain ⟨h0, hN, hQ, hR, hS, hB, hA, hK, hP, hF⟩ := h
  refine ⟨?_, ?_, ?_, ?_, ?_, ?_, ?_, ?_, ?_, ?_⟩
  · unfold lx_0 at *
    simpa [up2] using h0
  · unfold lx_N at *
    simpa [up2] using hN
  · unfold lx_Q at *
    simpa [up2] using hQ
  · unfold lx_R at *
    simpa [up2] using hR
  · unfold lx_S at *
    refine ⟨fun s hs => ?_, fun s h1 h2 => ?_⟩
    · have z := hS.1 s hs
      have n0 : ¬ 8 * s = 8 * j + 4 := by omega
      have n1 : ¬ 8 * s + 1 = 8 * j + 4 := by omega
      have n2 : ¬ 8 * s + 2 = 8 * j + 4 := by omega
      have n3 : ¬ 8 * s + 3 = 8 * j + 4 := by omega
      have n5 : ¬ 8 * s + 5 = 8 * j + 4 := by omega
      have n6 : ¬ 8 * s + 6 = 8 * j + 4 := by omega
      have n7 : ¬ 8 * s + 7 = 8 * j + 4 := by omega
      by_cases e : s = j
      · subst e
        simp only [up2_s]
        simp only [up2, n0, n1, n2, n3, n5, n6, n7, and_false, if_false, reduceCtorEq]
        simp at z ⊢
        simp_all
      · have ec : ¬ 8 * s + 4 = 8 * j + 4 := by omega
        simp only [up2, n0, n1, n2, n3, n5, n6, n7, ec, e, and_false, if_false]
        simpa using z
    · have z := hS.2 s h1 h2
      have e : ¬ s = j := by omega
      have n0 : ¬ 8 * s = 8 * j + 4 := by omega
      have n1 : ¬ 8 * s + 1 = 8 * j + 4 := by omega
      have n2 : ¬ 8 * s + 2 = 8 * j + 4 := by omega
      have n3 : ¬ 8 * s + 3 = 8 * j + 4 := by omega
      have n5 : ¬ 8 * s + 5 = 8 * j + 4 := by omega
      have n6 : ¬ 8 * s + 6 = 8 * j + 4 := by omega
      have n7 : ¬ 8 * s + 7 = 8 * j + 4 := by omega
      have ec : ¬ 8 * s + 4 = 8 * j + 4 := by omega
      simp only [up2, n0, n1, n2, n3, n5, n6, n7, ec, e, and_false, if_false]
      simpa using z
  · unfold lx_B at *
    simpa [up2] using hB
  · unfold lx_A at *
    simpa [up2] using hA
  · unfold lx_K at *
    simpa [up2] using hK
  · unfold lx_P py_a py_m at *
    simpa [up2] using hP
  · unfold lx_F at *
    simpa [up2] using hF
theorem lu_nt {W M : rb_I} {S A R P t d : Nat} (h : lx W M S A R P t d) {j : Nat} (hj : j < S) {v : Int32} (hv : at6 v) : lx (up2 W (14, 1, 0) (8 * j + 5) v) (up2 M (14, 21, 0) j v) S A R P t d := by
  obtain ⟨h0, hN, hQ, hR, hS, hB, hA, hK, hP, hF⟩ := h
  refine ⟨?_, ?_, ?_, ?_, ?_, ?_, ?_, ?_, ?_, ?_⟩
  · unfold lx_0 at *
    simpa [up2] using h0
  · unfold lx_N at *
    simpa [up2] using hN
  · unfold lx_Q at *
    simpa [up2] using hQ
  · unfold lx_R at *
    simpa [up2] using hR
  · unfold lx_S at *
    refine ⟨fun s hs => ?_, fun s h1 h2 => ?_⟩
    · have z := hS.1 s hs
      have n0 : ¬ 8 * s = 8 * j + 5 := by omega
      have n1 : ¬ 8 * s + 1 = 8 * j + 5 := by omega
      have n2 : ¬ 8 * s + 2 = 8 * j + 5 := by omega
      have n3 : ¬ 8 * s + 3 = 8 * j + 5 := by omega
      have n4 : ¬ 8 * s + 4 = 8 * j + 5 := by omega
      have n6 : ¬ 8 * s + 6 = 8 * j + 5 := by omega
      have n7 : ¬ 8 * s + 7 = 8 * j + 5 := by omega
      by_cases e : s = j
      · subst e
        simp only [up2_s]
        simp only [up2, n0, n1, n2, n3, n4, n6, n7, and_false, if_false, reduceCtorEq]
        simp at z ⊢
        simp_all
      · have ec : ¬ 8 * s + 5 = 8 * j + 5 := by omega
        simp only [up2, n0, n1, n2, n3, n4, n6, n7, ec, e, and_false, if_false]
        simpa using z
    · have z := hS.2 s h1 h2
      have e : ¬ s = j := by omega
      have n0 : ¬ 8 * s = 8 * j + 5 := by omega
      have n1 : ¬ 8 * s + 1 = 8 * j + 5 := by omega
      have n2 : ¬ 8 * s + 2 = 8 * j + 5 := by omega
      have n3 : ¬ 8 * s + 3 = 8 * j + 5 := by omega
      have n4 : ¬ 8 * s + 4 = 8 * j + 5 := by omega
      have n6 : ¬ 8 * s + 6 = 8 * j + 5 := by omega
      have n7 : ¬ 8 * s + 7 = 8 * j + 5 := by omega
      have ec : ¬ 8 * s + 5 = 8 * j + 5 := by omega
      simp only [up2, n0, n1, n2, n3, n4, n6, n7, ec, e, and_false, if_false]
      simpa using z
  · unfold lx_B at *
    simpa [up2] using hB
  · unfold lx_A at *
    simpa [up2] using hA
  · unfold lx_K at *
    simpa [up2] using hK
  · unfold lx_P py_a py_m at *
    simpa [up2] using hP
  · unfold lx_F at *
    simpa [up2] using hF
theorem lu_cp {W M : rb_I} {S A R P t d : Nat} (h : lx W M S A R P t d) {j : Nat} (hj : j < S) {v : Int32} (hv : vp_in v 6000) : lx (up2 W (14, 1, 0) (8 * j + 6) v) (up2 M (14, 22, 0) j v) S A R P t d := by
  obtain ⟨h0, hN, hQ, hR, hS, hB, hA, hK, hP, hF⟩ := h
  refine ⟨?_, ?_, ?_, ?_, ?_, ?_, ?_, ?_, ?_, ?_⟩
  · unfold lx_0 at *
    simpa [up2] using h0
  · unfold lx_N at *
    simpa [up2] using hN
  · unfold lx_Q at *
    simpa [up2] using hQ
  · unfold lx_R at *
    simpa [up2] using hR
  · unfold lx_S at *
    refine ⟨fun s hs => ?_, fun s h1 h2 => ?_⟩
    · have z := hS.1 s hs
      have n0 : ¬ 8 * s = 8 * j + 6 := by omega
      have n1 : ¬ 8 * s + 1 = 8 * j + 6 := by omega
      have n2 : ¬ 8 * s + 2 = 8 * j + 6 := by omega
      have n3 : ¬ 8 * s + 3 = 8 * j + 6 := by omega
      have n4 : ¬ 8 * s + 4 = 8 * j + 6 := by omega
      have n5 : ¬ 8 * s + 5 = 8 * j + 6 := by omega
      have n7 : ¬ 8 * s + 7 = 8 * j + 6 := by omega
      by_cases e : s = j
      · subst e
        simp only [up2_s]
        simp only [up2, n0, n1, n2, n3, n4, n5, n7, and_false, if_false, reduceCtorEq]
        simp at z ⊢
        simp_all
      · have ec : ¬ 8 * s + 6 = 8 * j + 6 := by omega
        simp only [up2, n0, n1, n2, n3, n4, n5, n7, ec, e, and_false, if_false]
        simpa using z
    · have z := hS.2 s h1 h2
      have e : ¬ s = j := by omega
      have n0 : ¬ 8 * s = 8 * j + 6 := by omega
      have n1 : ¬ 8 * s + 1 = 8 * j + 6 := by omega
      have n2 : ¬ 8 * s + 2 = 8 * j + 6 := by omega
      have n3 : ¬ 8 * s + 3 = 8 * j + 6 := by omega
      have n4 : ¬ 8 * s + 4 = 8 * j + 6 := by omega
      have n5 : ¬ 8 * s + 5 = 8 * j + 6 := by omega
      have n7 : ¬ 8 * s + 7 = 8 * j + 6 := by omega
      have ec : ¬ 8 * s + 6 = 8 * j + 6 := by omega
      simp only [up2, n0, n1, n2, n3, n4, n5, n7, ec, e, and_false, if_false]
      simpa using z
  · unfold lx_B at *
    simpa [up2] using hB
  · unfold lx_A at *
    simpa [up2] using hA
  · unfold lx_K at *
    simpa [up2] using hK
  · unfold lx_P py_a py_m at *
    simpa [up2] using hP
  · unfold lx_F at *
    simpa [up2] using hF
theorem lu_cn {W M : rb_I} {S A R P t d : Nat} (h : lx W M S A R P t d) {j : Nat} (hj : j < S) {v : Int32} (hv : v = 0 ∨ v = 1) : lx (up2 W (14, 1, 0) (8 * j + 7) v) (up2 M (15, 23, 0) j v) S A R P t d := by
  obtain ⟨h0, hN, hQ, hR, hS, hB, hA, hK, hP, hF⟩ := h
  refine ⟨?_, ?_, ?_, ?_, ?_, ?_, ?_, ?_, ?_, ?_⟩
  · unfold lx_0 at *
    simpa [up2] using h0
  · unfold lx_N at *
    simpa [up2] using hN
  · unfold lx_Q at *
    simpa [up2] using hQ
  · unfold lx_R at *
    simpa [up2] using hR
  · unfold lx_S at *
    refine ⟨fun s hs => ?_, fun s h1 h2 => ?_⟩
    · have z := hS.1 s hs
      have n0 : ¬ 8 * s = 8 * j + 7 := by omega
      have n1 : ¬ 8 * s + 1 = 8 * j + 7 := by omega
      have n2 : ¬ 8 * s + 2 = 8 * j + 7 := by omega
      have n3 : ¬ 8 * s + 3 = 8 * j + 7 := by omega
      have n4 : ¬ 8 * s + 4 = 8 * j + 7 := by omega
      have n5 : ¬ 8 * s + 5 = 8 * j + 7 := by omega
      have n6 : ¬ 8 * s + 6 = 8 * j + 7 := by omega
      by_cases e : s = j
      · subst e
        simp only [up2_s]
        simp only [up2, n0, n1, n2, n3, n4, n5, n6, and_false, if_false, reduceCtorEq]
        simp at z ⊢
        simp_all
      · have ec : ¬ 8 * s + 7 = 8 * j + 7 := by omega
        simp only [up2, n0, n1, n2, n3, n4, n5, n6, ec, e, and_false, if_false]
        simpa using z
    · have z := hS.2 s h1 h2
      have e : ¬ s = j := by omega
      have n0 : ¬ 8 * s = 8 * j + 7 := by omega
      have n1 : ¬ 8 * s + 1 = 8 * j + 7 := by omega
      have n2 : ¬ 8 * s + 2 = 8 * j + 7 := by omega
      have n3 : ¬ 8 * s + 3 = 8 * j + 7 := by omega
      have n4 : ¬ 8 * s + 4 = 8 * j + 7 := by omega
      have n5 : ¬ 8 * s + 5 = 8 * j + 7 := by omega
      have n6 : ¬ 8 * s + 6 = 8 * j + 7 := by omega
      have ec : ¬ 8 * s + 7 = 8 * j + 7 := by omega
      simp only [up2, n0, n1, n2, n3, n4, n5, n6, ec, e, and_false, if_false]
      simpa using z
  · unfold lx_B at *
    simpa [up2] using hB
  · unfold lx_A at *
    simpa [up2] using hA
  · unfold lx_K at *
    simpa [up2] using hK
  · unfold lx_P py_a py_m at *
    simpa [up2] using hP
  · unfold lx_F at *
    simpa [up2] using hF
theorem lu_bk {W M : rb_I} {S A R P t d : Nat} (h : lx W M S A R P t d) {n0 j : Nat} (hn : n0 < 6) (hj : j < 6) {v : Int32} (hv : v = -1 ∨ (j < S ∧ ∃ e : Nat, e ≤ t ∧ v = nI e)) : lx (up2 W (14, 2, 0) (6 * n0 + j) v) (up2 M (14, 27, 0) (10 * n0 + j) v) S A R P t d := by
  obtain ⟨h0, hN, hQ, hR, hS, hB, hA, hK, hP, hF⟩ := h
  refine ⟨?_, ?_, ?_, ?_, ?_, ?_, ?_, ?_, ?_, ?_⟩
  · unfold lx_0 at *
    simpa [up2] using h0
  · unfold lx_N at *
    simpa [up2] using hN
  · unfold lx_Q at *
    simpa [up2] using hQ
  · unfold lx_R at *
    simpa [up2] using hR
  · unfold lx_S at *
    simpa [up2] using hS
  · unfold lx_B at *
    refine ⟨fun n s h1 h2 => ?_, fun n s h1 h2 h3 => ?_⟩
    · by_cases e : n = n0 ∧ s = j
      · rw [e.1, e.2, up2_s, up2_s]
        exact ⟨rfl, hv.imp id (fun q => q.2)⟩
      · rw [up2_n _ _ _ _ (fun z => e (by have := z.2; omega)), up2_n _ _ _ _ (fun z => e (by have := z.2; omega))]
        exact hB.1 n s h1 h2
    · by_cases e : n = n0 ∧ s = j
      · rw [e.1, e.2, up2_s]
        rcases hv with hv | hv
        · exact hv
        · exact absurd hv.1 (by omega)
      · rw [up2_n _ _ _ _ (fun z => e (by have := z.2; omega))]
        exact hB.2 n s h1 h2 h3
  · unfold lx_A at *
    simpa [up2] using hA
  · unfold lx_K at *
    simpa [up2] using hK
  · unfold lx_P py_a py_m at *
    simpa [up2] using hP
  · unfold lx_F at *
    simpa [up2] using hF
theorem lu_fav {W M : rb_I} {S A R P t d : Nat} (h : lx W M S A R P t d) {j : Nat} (hj : j < 6) {v : Int32} (hv : at6 v) : lx (up2 W (14, 0, 0) (6 + j) v) (up2 M (14, 4, 0) j v) S A R P t d := by
  obtain ⟨h0, hN, hQ, hR, hS, hB, hA, hK, hP, hF⟩ := h
  refine ⟨?_, ?_, ?_, ?_, ?_, ?_, ?_, ?_, ?_, ?_⟩
  · unfold lx_0 at *
    simpa [up2, show ¬ 0 = 6 + j by omega, show ¬ 1 = 6 + j by omega, show ¬ 2 = 6 + j by omega, show ¬ 3 = 6 + j by omega, show ¬ 4 = 6 + j by omega, show ¬ 5 = 6 + j by omega] using h0
  · unfold lx_N at *
    intro n hn
    have z := hN n hn
    by_cases e : n = j
    · subst e
      rw [up2_n _ _ _ _ (by simp), up2_s, up2_s, up2_n _ _ _ _ (fun q => by have := q.2; omega), up2_n _ _ _ _ (by simp)]
      exact ⟨z.1, rfl, hv, z.2.2.2⟩
    · rw [up2_n _ _ _ _ (by simp), up2_n _ _ _ _ (fun q => by have := q.2; omega), up2_n _ _ _ _ (fun q => e q.2), up2_n _ _ _ _ (fun q => by have := q.2; omega), up2_n _ _ _ _ (by simp)]
      exact z
  · unfold lx_Q at *
    intro i hi
    rw [up2_n _ _ _ _ (fun q => by have := q.2; omega), up2_n _ _ _ _ (by simp)]
    exact hQ i hi
  · unfold lx_R at *
    intro i hi
    rw [up2_n _ _ _ _ (fun q => by have := q.2; omega), up2_n _ _ _ _ (by simp)]
    exact hR i hi
  · unfold lx_S at *
    simpa [up2] using hS
  · unfold lx_B at *
    simpa [up2] using hB
  · unfold lx_A at *
    simpa [up2] using hA
  · unfold lx_K at *
    simpa [up2] using hK
  · unfold lx_P py_a py_m at *
    simpa [up2] using hP
  · unfold lx_F at *
    simpa [up2] using hF
theorem lu_los {W M : rb_I} {S A R P t d : Nat} (h : lx W M S A R P t d) {j : Nat} (hj : j < 6) {v : Int32} (hv : vp_in v 10) : lx (up2 W (14, 0, 0) (12 + j) v) (up2 M (14, 6, 0) j v) S A R P t d := by
  obtain ⟨h0, hN, hQ, hR, hS, hB, hA, hK, hP, hF⟩ := h
  refine ⟨?_, ?_, ?_, ?_, ?_, ?_, ?_, ?_, ?_, ?_⟩
  · unfold lx_0 at *
    simpa [up2, show ¬ 0 = 12 + j by omega, show ¬ 1 = 12 + j by omega, show ¬ 2 = 12 + j by omega, show ¬ 3 = 12 + j by omega, show ¬ 4 = 12 + j by omega, show ¬ 5 = 12 + j by omega] using h0
  · unfold lx_N at *
    intro n hn
    have z := hN n hn
    rw [up2_n _ _ _ _ (by simp), up2_n _ _ _ _ (fun q => by have := q.2; omega), up2_n _ _ _ _ (by simp)]
    by_cases e : n = j
    · subst e
      rw [up2_s, up2_s]
      exact ⟨z.1, z.2.1, z.2.2.1, rfl, hv⟩
    · rw [up2_n _ _ _ _ (fun q => by have := q.2; omega), up2_n _ _ _ _ (fun q => e q.2)]
      exact z
  · unfold lx_Q at *
    intro i hi
    rw [up2_n _ _ _ _ (fun q => by have := q.2; omega), up2_n _ _ _ _ (by simp)]
    exact hQ i hi
  · unfold lx_R at *
    intro i hi
    rw [up2_n _ _ _ _ (fun q => by have := q.2; omega), up2_n _ _ _ _ (by simp)]
    exact hR i hi
  · unfold lx_S at *
    simpa [up2] using hS
  · unfold lx_B at *
    simpa [up2] using hB
  · unfold lx_A at *
    simpa [up2] using hA
  · unfold lx_K at *
    simpa [up2] using hK
  · unfold lx_P py_a py_m at *
    simpa [up2] using hP
  · unfold lx_F at *
    simpa [up2] using hF
theorem lu_rcv {W M : rb_I} {S A R P t d : Nat} (h : lx W M S A R P t d) {j : Nat} (hj : j < 4) {v : Int32} (hv : vp_in v 64) : lx (up2 W (14, 0, 0) (18 + j) v) (up2 M (14, 2, 0) j v) S A R P t d := by
  obtain ⟨h0, hN, hQ, hR, hS, hB, hA, hK, hP, hF⟩ := h
  refine ⟨?_, ?_, ?_, ?_, ?_, ?_, ?_, ?_, ?_, ?_⟩
  · unfold lx_0 at *
    simpa [up2, show ¬ 0 = 18 + j by omega, show ¬ 1 = 18 + j by omega, show ¬ 2 = 18 + j by omega, show ¬ 3 = 18 + j by omega, show ¬ 4 = 18 + j by omega, show ¬ 5 = 18 + j by omega] using h0
  · unfold lx_N at *
    intro n hn
    have z := hN n hn
    rw [up2_n _ _ _ _ (by simp), up2_n _ _ _ _ (fun q => by have := q.2; omega), up2_n _ _ _ _ (by simp), up2_n _ _ _ _ (fun q => by have := q.2; omega), up2_n _ _ _ _ (by simp)]
    exact z
  · unfold lx_Q at *
    intro i hi
    rw [up2_n _ _ _ _ (fun q => by have := q.2; omega), up2_n _ _ _ _ (by simp)]
    exact hQ i hi
  · unfold lx_R at *
    intro i hi
    by_cases e : i = j
    · subst e
      rw [up2_s, up2_s]
      exact ⟨rfl, hv⟩
    · rw [up2_n _ _ _ _ (fun q => by have := q.2; omega), up2_n _ _ _ _ (fun q => e q.2)]
      exact hR i hi
  · unfold lx_S at *
    simpa [up2] using hS
  · unfold lx_B at *
    simpa [up2] using hB
  · unfold lx_A at *
    simpa [up2] using hA
  · unfold lx_K at *
    simpa [up2] using hK
  · unfold lx_P py_a py_m at *
    simpa [up2] using hP
  · unfold lx_F at *
    simpa [up2] using hF
theorem lu_pri {W M : rb_I} {S A R P t d : Nat} (h : lx W M S A R P t d) {j : Nat} (hj : j < 18) {v : Int32} (hv : vp_in v 100) : lx (up2 W (14, 0, 0) (26 + j) v) (up2 M (14, 5, 0) j v) S A R P t d := by
  obtain ⟨h0, hN, hQ, hR, hS, hB, hA, hK, hP, hF⟩ := h
  refine ⟨?_, ?_, ?_, ?_, ?_, ?_, ?_, ?_, ?_, ?_⟩
  · unfold lx_0 at *
    simpa [up2, show ¬ 0 = 26 + j by omega, show ¬ 1 = 26 + j by omega, show ¬ 2 = 26 + j by omega, show ¬ 3 = 26 + j by omega, show ¬ 4 = 26 + j by omega, show ¬ 5 = 26 + j by omega] using h0
  · unfold lx_N at *
    intro n hn
    have z := hN n hn
    rw [up2_n _ _ _ _ (by simp), up2_n _ _ _ _ (fun q => by have := q.2; omega), up2_n _ _ _ _ (by simp), up2_n _ _ _ _ (fun q => by have := q.2; omega), up2_n _ _ _ _ (by simp)]
    exact z
  · unfold lx_Q at *
    intro i hi
    by_cases e : i = j
    · subst e
      rw [up2_s, up2_s]
      exact ⟨rfl, hv⟩
    · rw [up2_n _ _ _ _ (fun q => by have := q.2; omega), up2_n _ _ _ _ (fun q => e q.2)]
      exact hQ i hi
  · unfold lx_R at *
    intro i hi
    rw [up2_n _ _ _ _ (fun q => by have := q.2; omega), up2_n _ _ _ _ (by simp)]
    exact hR i hi
  · unfold lx_S at *
    simpa [up2] using hS
  · unfold lx_B at *
    simpa [up2] using hB
  · unfold lx_A at *
    simpa [up2] using hA
  · unfold lx_K at *
    simpa [up2] using hK
  · unfold lx_P py_a py_m at *
    simpa [up2] using hP
  · unfold lx_F at *
    simpa [up2] using hF
theorem lu_bkM {W M : rb_I} {S A R P t d : Nat} (h : lx W M S A R P t d) {n0 i : Nat} (hn : n0 < 6) (h6 : 6 ≤ i) (hi : i < 10) : lx W (up2 M (14, 27, 0) (10 * n0 + i) (-1)) S A R P t d := by
  obtain ⟨h0, hN, hQ, hR, hS, hB, hA, hK, hP, hF⟩ := h
  refine ⟨?_, ?_, ?_, ?_, ?_, ?_, ?_, ?_, ?_, ?_⟩
  · unfold lx_0 at *
    simpa [up2] using h0
  · unfold lx_N at *
    simpa [up2] using hN
  · unfold lx_Q at *
    simpa [up2] using hQ
  · unfold lx_R at *
    simpa [up2] using hR
  · unfold lx_S at *
    simpa [up2] using hS
  · unfold lx_B at *
    refine ⟨fun n s h1 h2 => ?_, fun n s h1 h2 h3 => ?_⟩
    · rw [up2_n _ _ _ _ (fun z => by have := z.2; omega)]
      exact hB.1 n s h1 h2
    · by_cases e : n = n0 ∧ s = i
      · rw [e.1, e.2, up2_s]
      · rw [up2_n _ _ _ _ (fun z => e (by have := z.2; omega))]
        exact hB.2 n s h1 h2 h3
  · unfold lx_A at *
    simpa [up2] using hA
  · unfold lx_K at *
    simpa [up2] using hK
  · unfold lx_P py_a py_m at *
    simpa [up2] using hP
  · unfold lx_F at *
    simpa [up2] using hF
theorem lu_dead {W M : rb_I} {S A R P t d : Nat} (h : lx W M S A R P t d) {j d' : Nat} (hd' : d' < 64) {b : Int32} (hb : ∀ n, n < 6 → nI (d' / 2 ^ n % 2) = if n = j then b else nI (d / 2 ^ n % 2)) : lx (up2 W (14, 0, 0) 5 (nI d')) (up2 M (15, 3, 0) j b) S A R P t d' := by
  obtain ⟨h0, hN, hQ, hR, hS, hB, hA, hK, hP, hF⟩ := h
  refine ⟨?_, ?_, ?_, ?_, ?_, ?_, ?_, ?_, ?_, ?_⟩
  · unfold lx_0 at *
    simp [up2] at h0 ⊢
    simp_all
  · unfold lx_N at *
    intro n hn
    have z := hN n hn
    rw [up2_n W (14, 0, 0) 5 _ (fun q => by have := q.2; omega), up2_n W (14, 0, 0) 5 _ (fun q => by have := q.2; omega), up2_n M (15, 3, 0) j b (show ¬ (((14, 4, 0) : rb_R) = (15, 3, 0) ∧ n = j) by simp), up2_n M (15, 3, 0) j b (show ¬ (((14, 6, 0) : rb_R) = (15, 3, 0) ∧ n = j) by simp)]
    refine ⟨?_, z.2⟩
    rw [hb n hn]
    by_cases e : n = j
    · subst e
      rw [up2_s, if_pos rfl]
    · rw [up2_n _ _ _ _ (fun q => e q.2), if_neg e]
      exact z.1
  · unfold lx_Q at *
    intro i hi
    rw [up2_n _ _ _ _ (fun q => by have := q.2; omega), up2_n _ _ _ _ (by simp)]
    exact hQ i hi
  · unfold lx_R at *
    intro i hi
    rw [up2_n _ _ _ _ (fun q => by have := q.2; omega), up2_n _ _ _ _ (by simp)]
    exact hR i hi
  · unfold lx_S at *
    simpa [up2] using hS
  · unfold lx_B at *
    simpa [up2] using hB
  · unfold lx_A at *
    simpa [up2] using hA
  · unfold lx_K at *
    simpa [up2] using hK
  · unfold lx_P py_a py_m at *
    simpa [up2] using hP
  · unfold lx_F at *
    simpa [up2] using hF
theorem lu_aN {W M : rb_I} {S A R P t d : Nat} (h : lx W M S A R P t d) {q : Nat} (hq : 6 * A ≤ q) {v : Int32} : lx (up2 W (14, 3, 0) q v) M S A R P t d := by
  obtain ⟨h0, hN, hQ, hR, hS, hB, hA, hK, hP, hF⟩ := h
  refine ⟨?_, ?_, ?_, ?_, ?_, ?_, ?_, ?_, ?_, ?_⟩
  · unfold lx_0 at *
    simpa [up2] using h0
  · unfold lx_N at *
    simpa [up2] using hN
  · unfold lx_Q at *
    simpa [up2] using hQ
  · unfold lx_R at *
    simpa [up2] using hR
  · unfold lx_S at *
    simpa [up2] using hS
  · unfold lx_B at *
    simpa [up2] using hB
  · unfold lx_A at *
    intro j hj
    obtain ⟨ho, vi, fr, to1, pr, th, lw1, h1, h2, h3⟩ := hA j hj
    refine ⟨ho, vi, fr, to1, pr, th, lw1, h1, ?_, h3⟩
    rw [up2_n _ _ _ _ (fun z => by have := z.2; omega), up2_n _ _ _ _ (fun z => by have := z.2; omega), up2_n _ _ _ _ (fun z => by have := z.2; omega), up2_n _ _ _ _ (fun z => by have := z.2; omega), up2_n _ _ _ _ (fun z => by have := z.2; omega), up2_n _ _ _ _ (fun z => by have := z.2; omega)]
    exact h2
  · unfold lx_K at *
    simpa [up2] using hK
  · unfold lx_P py_a py_m at *
    simpa [up2] using hP
  · unfold lx_F at *
    simpa [up2] using hF
theorem lu_xN {W M : rb_I} {S A R P t d : Nat} (h : lx W M S A R P t d) {c : Nat} (h4 : c ≠ 4) (h7 : c ≠ 7) (h8 : c < 8) {v : Int32} : lx (up2 W (14, 1, 0) (8 * S + c) v) M S A R P t d := by
  obtain ⟨h0, hN, hQ, hR, hS, hB, hA, hK, hP, hF⟩ := h
  refine ⟨?_, ?_, ?_, ?_, ?_, ?_, ?_, ?_, ?_, ?_⟩
  · unfold lx_0 at *
    simpa [up2] using h0
  · unfold lx_N at *
    simpa [up2] using hN
  · unfold lx_Q at *
    simpa [up2] using hQ
  · unfold lx_R at *
    simpa [up2] using hR
  · unfold lx_S at *
    refine ⟨fun s hs => ?_, fun s h1 h2 => ?_⟩
    · rw [up2_n W _ _ _ (show ¬ (((14, 1, 0) : rb_R) = (14, 1, 0) ∧ 8 * s = 8 * S + c) from fun z => by have := z.2; omega)]
      rw [up2_n W _ _ _ (show ¬ (((14, 1, 0) : rb_R) = (14, 1, 0) ∧ 8 * s + 1 = 8 * S + c) from fun z => by have := z.2; omega)]
      rw [up2_n W _ _ _ (show ¬ (((14, 1, 0) : rb_R) = (14, 1, 0) ∧ 8 * s + 2 = 8 * S + c) from fun z => by have := z.2; omega)]
      rw [up2_n W _ _ _ (show ¬ (((14, 1, 0) : rb_R) = (14, 1, 0) ∧ 8 * s + 3 = 8 * S + c) from fun z => by have := z.2; omega)]
      rw [up2_n W _ _ _ (show ¬ (((14, 1, 0) : rb_R) = (14, 1, 0) ∧ 8 * s + 4 = 8 * S + c) from fun z => by have := z.2; omega)]
      rw [up2_n W _ _ _ (show ¬ (((14, 1, 0) : rb_R) = (14, 1, 0) ∧ 8 * s + 5 = 8 * S + c) from fun z => by have := z.2; omega)]
      rw [up2_n W _ _ _ (show ¬ (((14, 1, 0) : rb_R) = (14, 1, 0) ∧ 8 * s + 6 = 8 * S + c) from fun z => by have := z.2; omega)]
      rw [up2_n W _ _ _ (show ¬ (((14, 1, 0) : rb_R) = (14, 1, 0) ∧ 8 * s + 7 = 8 * S + c) from fun z => by have := z.2; omega)]
      exact hS.1 s hs
    · rw [up2_n W _ _ _ (show ¬ (((14, 1, 0) : rb_R) = (14, 1, 0) ∧ 8 * s + 4 = 8 * S + c) from fun z => by have := z.2; omega), up2_n W _ _ _ (show ¬ (((14, 1, 0) : rb_R) = (14, 1, 0) ∧ 8 * s + 7 = 8 * S + c) from fun z => by have := z.2; omega)]
      exact hS.2 s h1 h2
  · unfold lx_B at *
    simpa [up2] using hB
  · unfold lx_A at *
    simpa [up2] using hA
  · unfold lx_K at *
    simpa [up2] using hK
  · unfold lx_P py_a py_m at *
    simpa [up2] using hP
  · unfold lx_F at *
    simpa [up2] using hF
