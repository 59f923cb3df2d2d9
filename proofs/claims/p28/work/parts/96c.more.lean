/-! time -/
theorem py_fu {W : rb_I} {P t : Nat} {s : Int32} {q : Nat} (h : ∀ k, k < P → ∃ e : Nat, e ≤ t ∧ W (14, 8, 0) k = nI e) (ht : t < 1000000) (hq : t / 43200 < q) (hq3 : q < 1000) : ∀ m, m ≤ P → fo (py_m W s (nI q)) m 0 = 0 := by
  intro m
  induction m with
  | zero => intro _; exact fo_0 _ _
  | succ m ih =>
    intro hm
    obtain ⟨e, h1, h2⟩ := h m (by omega)
    rw [fo_s, ih (by omega)]
    unfold py_m
    rw [if_neg (fun z => by
      have z3 := z.2.2
      rw [h2, show nI e / 43200 = nI (e / 43200) from pk_div (by omega) (by decide) (by decide), nI_eq (by omega) (by omega)] at z3
      omega)]
    rfl
theorem lu_time {W M : rb_I} {S A R P t d : Nat} (h : lx W M S A R P t d) {t1 : Nat} (h1 : t ≤ t1) (h2 : t1 < 1000000) : lx (up2 W (14, 0, 0) 0 (nI t1)) (up2 M (16, 0, 0) 1 (nI t1)) S A R P t1 d := by
  obtain ⟨h0, hN, hQ, hR, hS, hB, hA, hK, hP, hF⟩ := h
  refine ⟨?_, ?_, ?_, ?_, ?_, ?_, ?_, ?_, ?_, ?_⟩
  · unfold lx_0 at *
    simp [up2] at h0 ⊢
    simp_all
  · unfold lx_N at *
    intro n hn
    rw [up2_n W _ _ _ (fun q => by have := q.2; omega), up2_n W _ _ _ (fun q => by have := q.2; omega)]
    simpa [up2] using hN n hn
  · unfold lx_Q at *
    intro i hi
    rw [up2_n W _ _ _ (fun q => by have := q.2; omega)]
    simpa [up2] using hQ i hi
  · unfold lx_R at *
    intro i hi
    rw [up2_n W _ _ _ (fun q => by have := q.2; omega)]
    simpa [up2] using hR i hi
  · unfold lx_S at *
    simpa [up2] using hS
  · unfold lx_B at *
    refine ⟨fun n s a b => ?_, fun n s a b c => by simpa [up2] using hB.2 n s a b c⟩
    have z := hB.1 n s a b
    simp only [up2_n W _ _ _ (show ¬ (((14, 2, 0) : rb_R) = (14, 0, 0) ∧ 6 * n + s = 0) by simp), up2_n M _ _ _ (show ¬ (((14, 27, 0) : rb_R) = (16, 0, 0) ∧ 10 * n + s = 1) by simp)]
    exact ⟨z.1, z.2.imp id (fun ⟨e, q1, q2⟩ => ⟨e, by omega, q2⟩)⟩
  · unfold lx_A at *
    simpa [up2] using hA
  · unfold lx_K at *
    intro k hk
    obtain ⟨a, b, c, e1, e2, e3, e4, ⟨b1, b2, b3, b4, b5, b6, b7, b8⟩, q2, q3⟩ := hK k hk
    exact ⟨a, b, c, e1, e2, e3, e4, ⟨b1, b2, b3, b4, b5, by omega, b7, b8⟩, by simpa [up2] using q2, by simpa [up2] using q3⟩
  · unfold lx_P at *
    have hx7 : ∀ q, up2 W (14, 0, 0) 0 (nI t1) (14, 7, 0) q = W (14, 7, 0) q := fun q => up2_n _ _ _ _ (by simp)
    have hx8 : ∀ q, up2 W (14, 0, 0) 0 (nI t1) (14, 8, 0) q = W (14, 8, 0) q := fun q => up2_n _ _ _ _ (by simp)
    have ea : ∀ s, py_a (up2 W (14, 0, 0) 0 (nI t1)) s = py_a W s := fun s => by funext k a; unfold py_a; rw [hx7]
    have em : ∀ s q, py_m (up2 W (14, 0, 0) 0 (nI t1)) s q = py_m W s q := fun s q => by funext k a; unfold py_m; rw [hx7, hx8]
    have hm : ∀ r k, r ≠ (16, 0, 0) → up2 M (16, 0, 0) 1 (nI t1) r k = M r k := fun r k hr => up2_n _ _ _ _ (fun z => hr z.1)
    obtain ⟨p1, p2, p3, p4⟩ := hP
    have hdiv : t / 43200 ≤ t1 / 43200 := Nat.div_le_div_right h1
    simp only [ea, em, hx7, hx8, hm (14, 24, 0) _ (by simp), hm (14, 25, 0) _ (by simp), hm (14, 26, 0) _ (by simp)]
    refine ⟨fun k hk => ?_, p2, fun s hs q a b => p3 s hs q (by omega) b, fun s hs => ?_⟩
    · obtain ⟨a, b, c, e, q1, q2, q3, q4, q5, q6⟩ := p1 k hk
      exact ⟨a, b, c, e, q1, q2, q3, by omega, q5, q6⟩
    · rcases Nat.lt_or_ge (t / 43200) (t1 / 43200) with w | w
      · refine ⟨0, Nat.zero_le _, ?_⟩
        rw [← p3 s hs (t1 / 43200) hdiv (by omega), py_fu (t := t) (fun k hk => by obtain ⟨a, b, c, e, q1, q2, q3, q4, q5, q6⟩ := p1 k hk; exact ⟨e, q4, q6⟩) (by omega) w (by omega) P (Nat.le_refl _)]
        rfl
      · rw [show t1 / 43200 = t / 43200 by omega]
        exact p4 s hs
  · unfold lx_F at *
    simpa [up2] using hF
theorem up2_tw (f : rb_I) (r : rb_R) (k : Nat) (v v' : Int32) : up2 (up2 f r k v) r k v' = up2 f r k v' := by
  funext x q
  unfold up2
  by_cases h : x = r ∧ q = k
  · rw [if_pos h, if_pos h]
  · rw [if_neg h, if_neg h, if_neg h]
theorem pb_e (i : Nat) (s : rb_I) : m_pass_b i s = if ((s (16, 0, 0) 1 + 1) - (s (16, 0, 0) 1 + 1) / 60 * 60) = 0 then m_begins (up2 s (16, 0, 0) 1 (s (16, 0, 0) 1 + 1)) else up2 s (16, 0, 0) 1 (s (16, 0, 0) 1 + 1) := rfl
theorem bgb_e (i : Nat) (s : rb_I) : m_begins_b i s = if s (14, 19, 0) i = -1 then s else m_makesContact s (nI i) := rfl
theorem bgc_16 (i : Nat) (s : rb_I) (k : Nat) : m_begins_c i s (16, 0, 0) k = s (16, 0, 0) k := by
  unfold m_begins_c
  (repeat' split) <;> simp [up2]
theorem bgb_16 (i : Nat) (s : rb_I) (k : Nat) : m_begins_b i s (16, 0, 0) k = s (16, 0, 0) k := by
  rw [bgb_e]
  split
  · rfl
  · exact m_makesContact_o (by simp) (by simp) (by simp)
theorem bg_16 (X : rb_I) (k : Nat) : m_begins X (16, 0, 0) k = X (16, 0, 0) k := by
  unfold m_begins
  rw [fo_r (fun i s => bgc_16 i s k), fo_r (fun i s => bgb_16 i s k)]
theorem bg_eq {X : rb_I} {S : Nat} (h : X (16, 0, 0) 15 = nI S) (hS : S < 1000) : m_begins X = fo m_begins_c 60 (fo m_begins_b S X) := by
  unfold m_begins
  rw [h, cl_ (by omega)]
theorem pr_k {Z X : rb_I} {m T : Nat} (hX : fo m_pass_b m Z = X) (hT : X (16, 0, 0) 1 = nI T) : ∀ k, T % 60 + k < 60 → T + k < 1000000 → fo m_pass_b (m + k) Z = up2 X (16, 0, 0) 1 (nI (T + k)) := by
  intro k
  induction k with
  | zero => intro _ _; rw [Nat.add_zero, Nat.add_zero, hX, up2_same hT]
  | succ k ih =>
    intro h1 h2
    rw [show m + (k + 1) = (m + k) + 1 from rfl, fo_s, ih (by omega) (by omega), pb_e, up2_s, nI_1, if_neg (fun q => by have := (now60 (by omega)).mp q; omega), up2_tw]
    rfl
theorem ps_h {Z N : rb_I} {m hr : Nat} (h : fo m_pass_b m Z = up2 N (16, 0, 0) 1 (nI (hr - 1))) (h0 : 0 < hr) (h6 : hr % 60 = 0) (h1 : hr < 1000000) : fo m_pass_b (m + 1) Z = m_begins (up2 N (16, 0, 0) 1 (nI hr)) := by
  rw [fo_s, h, pb_e, up2_s, nI_1, show hr - 1 + 1 = hr by omega, if_pos ((now60 h1).mpr h6), up2_tw]
def psI (Z N : rb_I) (t tq hr : Nat) : Prop := ∀ m, tq ≤ t + m → t + m < hr → fo m_pass_b m Z = up2 N (16, 0, 0) 1 (nI (t + m))
theorem ps_0 {Z : rb_I} {t : Nat} (hZ : Z (16, 0, 0) 1 = nI t) (ht : t < 1000000) (hb : t / 60 * 60 + 60 ≤ 1000000) : psI Z Z t t (t / 60 * 60 + 60) := fun m h1 h2 => by
  have := pr_k (Z := Z) (m := 0) (fo_0 _ _) hZ m (by omega) (by omega)
  rwa [Nat.zero_add] at this
theorem ps_s {Z N : rb_I} {t tq hr th : Nat} (h : psI Z N t tq hr) (h1 : t ≤ tq) (h2 : tq < hr) (h6 : hr % 60 = 0) (h7 : hr ≤ th) (h8 : th < 1000000) : psI Z (m_begins (up2 N (16, 0, 0) 1 (nI hr))) t hr (min (hr + 60) (th + 1)) := fun m h3 h4 => by
  have hp := ps_h (h (hr - 1 - t) (by omega) (by omega) |>.trans (by rw [show t + (hr - 1 - t) = hr - 1 by omega])) (by omega) h6 (by omega)
  have := pr_k hp ((bg_16 _ 1).trans (up2_s _ _ _ _)) (t + m - hr) (by omega) (by omega)
  rwa [show hr - 1 - t + 1 + (t + m - hr) = m by omega, show hr + (t + m - hr) = t + m by omega] at this
/-- what is too old in the law's books, place by place -/
def exf (hr : Nat) (v : Int32) : Int32 := if v = -1 then -1 else if v + 180 ≤ nI hr then -1 else v
def exP (hr : Nat) (W W2 : rb_I) (q : Nat) : Prop := (∀ r k, r ≠ (14, 2, 0) → W2 r k = W r k) ∧ (∀ k, q ≤ k → W2 (14, 2, 0) k = W (14, 2, 0) k) ∧ ∀ k, k < q → W2 (14, 2, 0) k = exf hr (W (14, 2, 0) k)
theorem exP_0 (hr : Nat) (W : rb_I) : exP hr W W 0 := ⟨fun _ _ _ => rfl, fun _ _ => rfl, fun k hk => absurd hk (Nat.not_lt_zero _)⟩
theorem exP_k {hr q : Nat} {W W2 : rb_I} (h : exP hr W W2 q) (e : exf hr (W (14, 2, 0) q) = W (14, 2, 0) q) : exP hr W W2 (q + 1) := ⟨h.1, fun k hk => h.2.1 k (by omega), fun k hk => by
  rcases Nat.lt_or_ge k q with w | w
  · exact h.2.2 k w
  · rw [show k = q by omega, e]
    exact h.2.1 q (Nat.le_refl _)⟩
theorem exP_w {hr q : Nat} {W W2 : rb_I} (h : exP hr W W2 q) (e : exf hr (W (14, 2, 0) q) = -1) : exP hr W (up2 W2 (14, 2, 0) q (-1)) (q + 1) := ⟨fun r k hk => (up2_n _ _ _ _ (fun z => hk z.1)).trans (h.1 r k hk), fun k hk => (up2_n _ _ _ _ (fun z => by have := z.2; omega)).trans (h.2.1 k (by omega)), fun k hk => by
  by_cases w : k = q
  · rw [w, up2_s, e]
  · rw [up2_n _ _ _ _ (fun z => w z.2)]
    exact h.2.2 k (by omega)⟩
theorem exf_1 {hr : Nat} {v : Int32} (h : v = -1) : exf hr v = v := by unfold exf; rw [if_pos h, h]
theorem exf_2 {hr e : Nat} (h : hr < e + 180) (he : e < 1000000) (hh : hr < 1000000) : exf hr (nI e) = nI e := by
  unfold exf
  rw [if_neg (nI_ne1 (by omega)), show nI e + 180 = nI (e + 180) from nI_add e 180, if_neg (nI_ge h (by omega))]
theorem exf_3 {hr e : Nat} (h : e + 180 ≤ hr) (hh : hr < 1000000) : exf hr (nI e) = -1 := by
  unfold exf
  rw [if_neg (nI_ne1 (by omega)), show nI e + 180 = nI (e + 180) from nI_add e 180, if_pos (nI_le h (by omega))]
section
variable {W M : rb_I} {S A R P t d : Nat}
theorem lr_b36 (h : lx W M S A R P t d) {q : Nat} (hq : q < 36) : W (14, 2, 0) q = M (14, 27, 0) (10 * (q / 6) + q % 6) := by
  have z := lr_bk h (n := q / 6) (s := q % 6) (by omega) (by omega)
  rwa [show 6 * (q / 6) + q % 6 = q by omega] at z
theorem lr_b36e (h : lx W M S A R P t d) {q : Nat} (hq : q < 36) : M (14, 27, 0) (10 * (q / 6) + q % 6) = -1 ∨ ∃ e : Nat, e ≤ t ∧ M (14, 27, 0) (10 * (q / 6) + q % 6) = nI e := (h.2.2.2.2.2.1.1 (q / 6) (q % 6) (by omega) (by omega)).2
theorem lu_exp {W2 : rb_I} (h : lx W M S A R P t d) (hE : exP t W W2 36) : lx W2 (fo m_begins_c 60 M) S A R P t d := by
  have ht := lm_t h
  have hb := lr_b h
  obtain ⟨c1, -, c3⟩ := bc_at M 60
  obtain ⟨e1, -, e3⟩ := hE
  obtain ⟨h0, hN, hQ, hR, hS, hB, hA, hK, hP, hF⟩ := h
  have w0 := fun q => e1 (14, 0, 0) q (by simp)
  have w1 := fun q => e1 (14, 1, 0) q (by simp)
  have w3 := fun q => e1 (14, 3, 0) q (by simp)
  have w4 := fun q => e1 (14, 4, 0) q (by simp)
  have w5 := fun q => e1 (14, 5, 0) q (by simp)
  have w6 := fun q => e1 (14, 6, 0) q (by simp)
  have w7 := fun q => e1 (14, 7, 0) q (by simp)
  have w8 := fun q => e1 (14, 8, 0) q (by simp)
  have w9 := fun q => e1 (14, 9, 0) q (by simp)
  have m0 : ∀ f q, f ≠ 27 → fo m_begins_c 60 M (14, f, 0) q = M (14, f, 0) q := fun f q hf => c3 _ _ (fun z => hf (congrArg (fun r : rb_R => r.2.1) z))
  have m5 : ∀ f q, fo m_begins_c 60 M (15, f, 0) q = M (15, f, 0) q := fun f q => c3 _ _ (by simp)
  have m6 : ∀ q, fo m_begins_c 60 M (16, 0, 0) q = M (16, 0, 0) q := fun q => c3 _ _ (by simp)
  have n2 := fun q => m0 2 q (by decide)
  have n4 := fun q => m0 4 q (by decide)
  have n5 := fun q => m0 5 q (by decide)
  have n6 := fun q => m0 6 q (by decide)
  have n8 := fun q => m0 8 q (by decide)
  have n9 := fun q => m0 9 q (by decide)
  have n10 := fun q => m0 10 q (by decide)
  have n11 := fun q => m0 11 q (by decide)
  have n12 := fun q => m0 12 q (by decide)
  have n13 := fun q => m0 13 q (by decide)
  have n14 := fun q => m0 14 q (by decide)
  have n16 := fun q => m0 16 q (by decide)
  have n17 := fun q => m0 17 q (by decide)
  have n18 := fun q => m0 18 q (by decide)
  have n19 := fun q => m0 19 q (by decide)
  have n20 := fun q => m0 20 q (by decide)
  have n21 := fun q => m0 21 q (by decide)
  have n22 := fun q => m0 22 q (by decide)
  have n24 := fun q => m0 24 q (by decide)
  have n25 := fun q => m0 25 q (by decide)
  have n26 := fun q => m0 26 q (by decide)
  have n30 := fun q => m0 30 q (by decide)
  have n31 := fun q => m0 31 q (by decide)
  have n32 := fun q => m0 32 q (by decide)
  have n33 := fun q => m0 33 q (by decide)
  have n34 := fun q => m0 34 q (by decide)
  have n35 := fun q => m0 35 q (by decide)
  have n36 := fun q => m0 36 q (by decide)
  have n37 := fun q => m0 37 q (by decide)
  have n38 := fun q => m0 38 q (by decide)
  refine ⟨?_, ?_, ?_, ?_, ?_, ?_, ?_, ?_, ?_, ?_⟩
  · unfold lx_0 at *; simp only [w0, m6]; exact h0
  · unfold lx_N at *; simp only [w0, m5, n4, n6]; exact hN
  · unfold lx_Q at *; simp only [w0, n5]; exact hQ
  · unfold lx_R at *; simp only [w0, n2]; exact hR
  · unfold lx_S at *; simp only [w1, m5, n16, n17, n18, n19, n20, n21, n22, n24, n26]; exact hS
  · unfold lx_B at *
    refine ⟨fun n s a b => ?_, fun n s a b c => ?_⟩
    · obtain ⟨z1, z2⟩ := hB.1 n s a b
      rw [e3 _ (by omega), z1, c1 _ (by omega), ht]
      rcases z2 with z2 | ⟨e, q1, q2⟩
      · rw [z2, if_pos rfl]
        exact ⟨exf_1 rfl, Or.inl rfl⟩
      · rw [q2, if_neg (nI_ne1 (by omega)), pk_sub q1]
        rcases Nat.lt_or_ge t (e + 180) with w | w
        · rw [exf_2 w (by omega) (by omega), if_pos (show nI (t - e) < 180 from nI_lt (b := 180) (by omega) (by decide))]
          exact ⟨rfl, Or.inr ⟨e, q1, rfl⟩⟩
        · rw [exf_3 w (by omega), if_neg (show ¬ nI (t - e) < 180 from nI_nlt (b := 180) (by omega) (by omega))]
          exact ⟨rfl, Or.inl rfl⟩
    · rw [c1 _ (by omega), hB.2 n s a b c, if_pos rfl]
  · unfold lx_A at *; simp only [w3, n8, n9, n10, n11, n12, n13, n14]; exact hA
  · unfold lx_K at *; simp only [w4, w5, w6, n30, n31, n32, n33, n34, n35, n36]; exact hK
  · unfold lx_P py_a py_m at *; simp only [w7, w8, n24, n25, n26]; exact hP
  · unfold lx_F at *; simp only [w9, n37, n38]; exact hF
theorem ps_th (i : Nat) (s : rb_I) : m_pass_b i s (16, 0, 0) 0 = s (16, 0, 0) 0 := by
  rw [pb_e]
  split
  · rw [bg_16, up2_n _ _ _ _ (by simp)]
  · rw [up2_n _ _ _ _ (by simp)]
theorem e_pass (hl : lx W M S A R P t d) {g th : Nat} (h1 : 1 ≤ g) (h2 : g ≤ 50000) (h3 : t + g ≤ 999999) (hv : fo m_pass_b g (up2 M (16, 0, 0) 0 0) (16, 0, 0) 1 = nI th) : m_pass M (nI g) = (nI th, fo m_pass_b g (up2 M (16, 0, 0) 0 0)) := by
  have hb := lr_b hl
  unfold m_pass
  rw [if_neg (show ¬ m_in (nI g) 1 50000 = 0 from in_lo (a := 1) (c := 50000) h1 h2 (by decide)), lm_t hl, nI_add, if_pos (show nI (t + g) ≤ 999999 from nI_le (b := 999999) h3 (by decide)), cl_ (by omega), hv]
theorem c_pass (l : Launch) (X : rb_X) (G : rb_G) (W M : rb_I) (h : LI G W M) {W9 : rb_I} {S A R P t d : Nat} (hl : lx W9 M S A R P t d) {g th : Nat} (h1 : 1 ≤ g) (h2 : g ≤ 50000) (h3 : t + g ≤ 999999) (hv : fo m_pass_b g (up2 M (16, 0, 0) 0 0) (16, 0, 0) 1 = nI th) : rb_N l X yL_pass (.codeWith yL_pass cL_pass 4 (some .int) [(0, 6, 9, 16), (0, 6, 14, 26)]) 8 168 12 72 [rbR (0, 0, 0), rbI (nI g)] (wI G W) (fun v9 G9 => PK (nI th) (fo m_pass_b g (up2 M (16, 0, 0) 0 0)) W v9 G9) := by
  refine (rk_pass l X G W M h (nI g)).imp (fun v9 G9 hpp => ?_)
  rw [e_pass hl h1 h2 h3 hv] at hpp
  rw [show mr1 (_, fo m_pass_b g (up2 M (16, 0, 0) 0 0)) = nI th from mr1_v ((fo_r ps_th g).trans (by simp [up2]))] at hpp
  exact hpp
end
