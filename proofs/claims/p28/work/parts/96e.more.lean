theorem lu_rec {W M : rb_I} {S A R P t d : Nat} (h : lx W M S A R P t d) {k0 vi ho st1 fl1 by1 e1 mi : Nat} (hv : vi < 6 ∧ ho < 6 ∧ by1 ≤ A ∧ e1 ≤ t ∧ (0 < mi ∧ mi ≤ 600)) (hs : st1 < 4 ∧ fl1 < 20 ∧ st1 ≠ 0) (rm : W (14, 5, 0) k0 = nI mi) (rt : W (14, 6, 0) k0 = nI e1) (m31 : M (14, 31, 0) k0 = nI vi) (m30 : M (14, 30, 0) k0 = nI ho) (m34 : M (14, 34, 0) k0 = if by1 = 0 then -1 else nI (by1 - 1)) (m33 : M (14, 33, 0) k0 = nI e1) (m32 : M (14, 32, 0) k0 = nI mi) : lx (up2 W (14, 4, 0) k0 (nI (vi + 8 * ho + 64 * st1 + 256 * fl1 + 8192 * by1))) (up2 (up2 M (14, 35, 0) k0 (nI st1)) (14, 36, 0) k0 (nI fl1)) S A R P t d := by
  obtain ⟨h0, hN, hQ, hR, hS, hB, hA, hK, hP, hF⟩ := h
  refine ⟨?_, ?_, ?_, ?_, ?_, ?_, ?_, ?_, ?_, ?_⟩
  · unfold lx_0 at *
    simpa [up2] using h0
  · unfold lx_N at *
    simpa [up2] using hN
  · unfold lx_Q at *
    simpa [up2] using hQ
  · unfold lx_R at *
    simpa [up2] using hR
  · unfold lx_S at *
    simpa [up2] using hS
  · unfold lx_B at *
    simpa [up2] using hB
  · unfold lx_A at *
    simpa [up2] using hA
  · unfold lx_K at *
    intro k hk
    by_cases e : k = k0
    · subst e
      refine ⟨vi, ho, st1, fl1, by1, e1, mi, ⟨hv.1, hv.2.1, hs.1, hs.2.1, hv.2.2.1, hv.2.2.2.1, hv.2.2.2.2, fun q => absurd q hs.2.2⟩, ?_, ?_⟩
      · rw [up2_s, up2_n _ _ _ _ (by simp), up2_n _ _ _ _ (by simp)]
        exact ⟨rfl, rm, rt⟩
      · simp [up2]
        exact ⟨m31, m30, m34, m33, m32⟩
    · obtain ⟨a, b, c, d1, d2, d3, d4, q1, q2, q3⟩ := hK k hk
      exact ⟨a, b, c, d1, d2, d3, d4, q1, by simpa [up2, e] using q2, by simpa [up2, e] using q3⟩
  · unfold lx_P py_a py_m at *
    simpa [up2] using hP
  · unfold lx_F at *
    simpa [up2] using hF
theorem lu_rec2 {W M : rb_I} {S A R P t d : Nat} (h : lx W M S A R P t d) {k0 vi ho st1 fl1 by1 e1 mi : Nat} (hv : vi < 6 ∧ ho < 6 ∧ by1 ≤ A ∧ e1 ≤ t ∧ (0 < mi ∧ mi ≤ 600)) (hs : st1 < 4 ∧ fl1 < 20 ∧ st1 ≠ 0) (rm : W (14, 5, 0) k0 = nI mi) (rt : W (14, 6, 0) k0 = nI e1) (m31 : M (14, 31, 0) k0 = nI vi) (m30 : M (14, 30, 0) k0 = nI ho) (m34 : M (14, 34, 0) k0 = if by1 = 0 then -1 else nI (by1 - 1)) (m33 : M (14, 33, 0) k0 = nI e1) (m32 : M (14, 32, 0) k0 = nI mi) (m36 : M (14, 36, 0) k0 = nI fl1) : lx (up2 W (14, 4, 0) k0 (nI (vi + 8 * ho + 64 * st1 + 256 * fl1 + 8192 * by1))) (up2 M (14, 35, 0) k0 (nI st1)) S A R P t d := by
  obtain ⟨h0, hN, hQ, hR, hS, hB, hA, hK, hP, hF⟩ := h
  refine ⟨?_, ?_, ?_, ?_, ?_, ?_, ?_, ?_, ?_, ?_⟩
  · unfold lx_0 at *
    simpa [up2] using h0
  · unfold lx_N at *
    simpa [up2] using hN
  · unfold lx_Q at *
    simpa [up2] using hQ
  · unfold lx_R at *
    simpa [up2] using hR
  · unfold lx_S at *
    simpa [up2] using hS
  · unfold lx_B at *
    simpa [up2] using hB
  · unfold lx_A at *
    simpa [up2] using hA
  · unfold lx_K at *
    intro k hk
    by_cases e : k = k0
    · subst e
      refine ⟨vi, ho, st1, fl1, by1, e1, mi, ⟨hv.1, hv.2.1, hs.1, hs.2.1, hv.2.2.1, hv.2.2.2.1, hv.2.2.2.2, fun q => absurd q hs.2.2⟩, ?_, ?_⟩
      · rw [up2_s, up2_n _ _ _ _ (by simp), up2_n _ _ _ _ (by simp)]
        exact ⟨rfl, rm, rt⟩
      · simp [up2]
        exact ⟨m31, m30, fun _ => m36, m34, m33, m32⟩
    · obtain ⟨a, b, c, d1, d2, d3, d4, q1, q2, q3⟩ := hK k hk
      exact ⟨a, b, c, d1, d2, d3, d4, q1, by simpa [up2, e] using q2, by simpa [up2, e] using q3⟩
  · unfold lx_P py_a py_m at *
    simpa [up2] using hP
  · unfold lx_F at *
    simpa [up2] using hF
theorem lu_f37 {W M : rb_I} {S A R P t d : Nat} (h : lx W M S A R P t d) {vi ho f1 g1 : Nat} (hvi : vi < 6) (hho : ho < 6) (hg : g1 ≤ f1) (hf : f1 ≤ 20) (e38 : M (14, 38, 0) (6 * vi + ho) = nI g1) : lx (up2 W (14, 9, 0) (vi + 8 * ho) (nI (f1 + 32 * g1))) (up2 M (14, 37, 0) (6 * vi + ho) (nI f1)) S A R P t d := by
  obtain ⟨h0, hN, hQ, hR, hS, hB, hA, hK, hP, hF⟩ := h
  refine ⟨?_, ?_, ?_, ?_, ?_, ?_, ?_, ?_, ?_, ?_⟩
  · unfold lx_0 at *
    simpa [up2] using h0
  · unfold lx_N at *
    simpa [up2] using hN
  · unfold lx_Q at *
    simpa [up2] using hQ
  · unfold lx_R at *
    simpa [up2] using hR
  · unfold lx_S at *
    simpa [up2] using hS
  · unfold lx_B at *
    simpa [up2] using hB
  · unfold lx_A at *
    simpa [up2] using hA
  · unfold lx_K at *
    simpa [up2] using hK
  · unfold lx_P py_a py_m at *
    simpa [up2] using hP
  · unfold lx_F at *
    intro v h hv hh
    by_cases e : v = vi ∧ h = ho
    · obtain ⟨rfl, rfl⟩ := e
      refine ⟨f1, g1, hg, hf, ?_, ?_, ?_⟩
      · rw [up2_s]
      · rw [up2_s]
      · rw [up2_n _ _ _ _ (by simp)]; exact e38
    · obtain ⟨f, g, q1, q2, q3, q4, q5⟩ := hF v h hv hh
      have n1 : ¬ v + 8 * h = vi + 8 * ho := fun z => e (by omega)
      have n2 : ¬ 6 * v + h = 6 * vi + ho := fun z => e (by omega)
      exact ⟨f, g, q1, q2, by rw [up2_n _ _ _ _ (fun z => n1 z.2)]; exact q3, by simpa [up2, n2] using q4, by simpa [up2, n2] using q5⟩
theorem lu_f38 {W M : rb_I} {S A R P t d : Nat} (h : lx W M S A R P t d) {vi ho f1 g1 : Nat} (hvi : vi < 6) (hho : ho < 6) (hg : g1 ≤ f1) (hf : f1 ≤ 20) (e37 : M (14, 37, 0) (6 * vi + ho) = nI f1) : lx (up2 W (14, 9, 0) (vi + 8 * ho) (nI (f1 + 32 * g1))) (up2 M (14, 38, 0) (6 * vi + ho) (nI g1)) S A R P t d := by
  obtain ⟨h0, hN, hQ, hR, hS, hB, hA, hK, hP, hF⟩ := h
  refine ⟨?_, ?_, ?_, ?_, ?_, ?_, ?_, ?_, ?_, ?_⟩
  · unfold lx_0 at *
    simpa [up2] using h0
  · unfold lx_N at *
    simpa [up2] using hN
  · unfold lx_Q at *
    simpa [up2] using hQ
  · unfold lx_R at *
    simpa [up2] using hR
  · unfold lx_S at *
    simpa [up2] using hS
  · unfold lx_B at *
    simpa [up2] using hB
  · unfold lx_A at *
    simpa [up2] using hA
  · unfold lx_K at *
    simpa [up2] using hK
  · unfold lx_P py_a py_m at *
    simpa [up2] using hP
  · unfold lx_F at *
    intro v h hv hh
    by_cases e : v = vi ∧ h = ho
    · obtain ⟨rfl, rfl⟩ := e
      refine ⟨f1, g1, hg, hf, ?_, ?_, ?_⟩
      · rw [up2_s]
      · rw [up2_n _ _ _ _ (by simp)]; exact e37
      · rw [up2_s]
    · obtain ⟨f, g, q1, q2, q3, q4, q5⟩ := hF v h hv hh
      have n1 : ¬ v + 8 * h = vi + 8 * ho := fun z => e (by omega)
      have n2 : ¬ 6 * v + h = 6 * vi + ho := fun z => e (by omega)
      exact ⟨f, g, q1, q2, by rw [up2_n _ _ _ _ (fun z => n1 z.2)]; exact q3, by simpa [up2, n2] using q4, by simpa [up2, n2] using q5⟩
/-- a record that waits to be filed -/
def fsh (M : rb_I) (vi ho k : Nat) : Prop := M (14, 31, 0) k = nI vi ∧ M (14, 30, 0) k = nI ho ∧ M (14, 35, 0) k = 0
section
variable {W M : rb_I} {S A R P t d : Nat}
theorem mo_fs (hl : lx W M S A R P t d) {vi ho : Nat} (hv : vi < 6) (hh : ho < 6) : ∀ m, m ≤ R → ∃ z : Nat, z ≤ 600 * m ∧ fo (m_minutesOf_b M (nI vi) (nI ho) 0) m 0 = nI z ∧ (z = 0 ↔ ∀ k, k < m → ¬ fsh M vi ho k) := by
  have hb := lr_b hl
  intro m
  induction m with
  | zero => intro _; exact ⟨0, Nat.zero_le _, by rw [fo_0]; rfl, fun _ k hk => absurd hk (Nat.not_lt_zero _), fun _ => rfl⟩
  | succ m ih =>
    intro hm
    obtain ⟨z, h1, h2, h3⟩ := ih (by omega)
    obtain ⟨vi1, ho1, st1, fl, by1, e, mi, ⟨b1, b2, b3, b4, b5, b6, b7, b8⟩, -, ⟨m31, m30, m35, m36, m34, m33, m32⟩⟩ := hl.2.2.2.2.2.2.2.1 m (by omega)
    rw [fo_s, h2, show (0 : Int32) = nI 0 from rfl, moz_eq (st := 0) (show m < 1000 by omega) (by omega) (by omega) (by omega) (by omega) (by omega) (by omega) m31 m30 m35 m32]
    have hf : fsh M vi ho m ↔ vi1 = vi ∧ ho1 = ho ∧ st1 = 0 := by
      unfold fsh
      rw [m31, m30, m35, nI_eq (by omega) (by omega), nI_eq (by omega) (by omega), show (nI st1 = 0 ↔ st1 = 0) from nI_eq (b := 0) (by omega) (by decide)]
    by_cases c : vi1 = vi ∧ ho1 = ho ∧ st1 = 0
    · rw [if_pos c, nI_add]
      refine ⟨z + mi, by omega, rfl, fun q => by omega, fun q => absurd (hf.mpr c) (q m (Nat.lt_succ_self _))⟩
    · rw [if_neg c]
      refine ⟨z, by omega, by rw [show nI z + 0 = nI (z + 0) from nI_add z 0]; rfl, fun q k hk => ?_, fun q => h3.mpr (fun k hk => q k (by omega))⟩
      rcases Nat.lt_or_ge k m with w | w
      · exact h3.mp q k w
      · rw [show k = m by omega]
        exact fun q => c (hf.mp q)
theorem mo_z0 (hl : lx W M S A R P t d) {vi ho : Nat} (hv : vi < 6) (hh : ho < 6) : m_minutesOf M (nI vi) (nI ho) 0 = 0 ↔ ∀ k, k < R → ¬ fsh M vi ho k := by
  have hb := lr_b hl
  obtain ⟨z, h1, h2, h3⟩ := mo_fs hl hv hh R (Nat.le_refl _)
  have : 600 * R ≤ 600 * 58 := Nat.mul_le_mul_left _ (by omega)
  unfold m_minutesOf
  rw [lm_R hl, cl_ (by omega), h2, show (nI z = 0 ↔ z = 0) from nI_eq (b := 0) (by omega) (by decide)]
  exact h3
theorem fb_e {M s : rb_I} {k vi ho vi1 ho1 st1 : Nat} (hk : k < 1000) (b1 : vi < 6) (b2 : ho < 6) (b4 : vi1 < 1000) (b5 : ho1 < 1000) (b6 : st1 < 1000) (m31 : s (14, 31, 0) k = nI vi1) (m30 : s (14, 30, 0) k = nI ho1) (m35 : s (14, 35, 0) k = nI st1) : m_file_b M (nI vi) (nI ho) k s = if vi1 = vi ∧ ho1 = ho ∧ st1 = 0 then up2 (up2 s (14, 35, 0) k 1) (14, 36, 0) k (M (14, 37, 0) (6 * vi + ho)) else s := by
  unfold m_file_b m_isOf
  have e0 : (nI st1 = 0) ↔ st1 = 0 := nI_eq (b := 0) (show st1 < 2 ^ 31 by omega) (by decide)
  rw [nI_clamp (show k < 2 ^ 31 by omega), m31, m30, m35, cl_ (show vi < 1000000 by omega), cl_ (show ho < 1000000 by omega)]
  simp only [nI_eq (show vi1 < 2 ^ 31 by omega) (show vi < 2 ^ 31 by omega), nI_eq (show ho1 < 2 ^ 31 by omega) (show ho < 2 ^ 31 by omega), e0]
  by_cases e1 : vi1 = vi
  · by_cases e2 : ho1 = ho
    · by_cases e3 : st1 = 0
      · simp [e1, e2, e3]
      · simp [e1, e2, e3]
    · simp [e1, e2]
  · simp [e1]
theorem mo_th2 (M : rb_I) (a b c v : Int32) : m_minutesOf (up2 M (16, 0, 0) 0 v) a b c = m_minutesOf M a b c := by unfold m_minutesOf m_minutesOf_b m_isOf; simp [up2]
theorem e_fileN (hl : lx W M S A R P t d) {vi ho : Nat} (hv : vi < 6) (hh : ho < 6) (e : (∀ k, k < R → ¬ fsh M vi ho k) ∨ M (14, 37, 0) (6 * vi + ho) = 20) : m_file M (nI vi) (nI ho) = (0, (up2 (up2 M (16, 0, 0) 0 0) (16, 0, 0) 0 2)) := by
  have hb := lr_b hl
  unfold m_file
  rw [if_neg (is_net hv), if_neg (is_net hh), mo_th2, cl_ (show vi < 1000000 by omega), cl_ (show ho < 1000000 by omega)]
  by_cases c : m_minutesOf M (nI vi) (nI ho) 0 = 0
  · rw [if_pos c]
  · rw [if_neg c, if_pos (e.resolve_left (fun q => c ((mo_z0 hl hv hh).mpr q)))]
theorem e_fileY (hl : lx W M S A R P t d) {vi ho fz : Nat} (hv : vi < 6) (hh : ho < 6) (e : ∃ k, k < R ∧ fsh M vi ho k) (e37 : M (14, 37, 0) (6 * vi + ho) = nI fz) (hf : fz < 20) : m_file M (nI vi) (nI ho) = (nI fz, (up2 (fo (m_file_b M (nI vi) (nI ho)) R (up2 (up2 M (16, 0, 0) 0 0) (16, 0, 0) 0 0)) (14, 37, 0) (6 * vi + ho) (nI (fz + 1)))) := by
  have hb := lr_b hl
  obtain ⟨k, hk, hs⟩ := e
  unfold m_file
  rw [if_neg (is_net hv), if_neg (is_net hh), mo_th2, cl_ (show vi < 1000000 by omega), cl_ (show ho < 1000000 by omega), if_neg (fun q => (mo_z0 hl hv hh).mp q k hk hs), e37, if_neg (show ¬ nI fz = 20 from fun q => by have := (nI_eq (b := 20) (by omega) (by decide)).mp q; omega), lm_R hl, cl_ (by omega)]
  rw [show fo (m_file_b M (nI vi) (nI ho)) R (up2 (up2 M (16, 0, 0) 0 0) (16, 0, 0) 0 0) (14, 37, 0) (6 * vi + ho) = nI fz from (fo_r (fun i s => by unfold m_file_b; (repeat' split) <;> simp [up2]) R).trans ((up2_n _ _ _ _ (by simp)).trans ((up2_n _ _ _ _ (by simp)).trans e37)), nI_1]
theorem c_fileN (l : Launch) (X : rb_X) (G : rb_G) (W M : rb_I) (h : LI G W M) {W9 : rb_I} {S A R P t d : Nat} (hl : lx W9 M S A R P t d) {vi ho : Nat} (hv : vi < 6) (hh : ho < 6) (e : (∀ k, k < R → ¬ fsh M vi ho k) ∨ M (14, 37, 0) (6 * vi + ho) = 20) : rb_N l X yL_file (.codeWith yL_file cL_file 5 (some .int) [(0, 7, 10, 14), (0, 7, 16, 26)]) 9 156 12 72 [rbR (0, 0, 0), rbI (nI vi), rbI (nI ho)] (wI G W) (fun v9 G9 => PK (-7300) ((up2 (up2 M (16, 0, 0) 0 0) (16, 0, 0) 0 2)) W v9 G9) := by
  refine (rk_file l X G W M h (nI vi) (nI ho)).imp (fun v9 G9 hpp => ?_)
  rw [e_fileN hl hv hh e] at hpp
  rw [show mr2 (_, (up2 (up2 M (16, 0, 0) 0 0) (16, 0, 0) 0 2)) = -7300 from mr2_2 (up2_s _ _ _ _)] at hpp
  exact hpp
theorem c_fileY (l : Launch) (X : rb_X) (G : rb_G) (W M : rb_I) (h : LI G W M) {W9 : rb_I} {S A R P t d : Nat} (hl : lx W9 M S A R P t d) {vi ho fz : Nat} (hv : vi < 6) (hh : ho < 6) (e : ∃ k, k < R ∧ fsh M vi ho k) (e37 : M (14, 37, 0) (6 * vi + ho) = nI fz) (hf : fz < 20) : rb_N l X yL_file (.codeWith yL_file cL_file 5 (some .int) [(0, 7, 10, 14), (0, 7, 16, 26)]) 9 156 12 72 [rbR (0, 0, 0), rbI (nI vi), rbI (nI ho)] (wI G W) (fun v9 G9 => PK (nI fz) ((up2 (fo (m_file_b M (nI vi) (nI ho)) R (up2 (up2 M (16, 0, 0) 0 0) (16, 0, 0) 0 0)) (14, 37, 0) (6 * vi + ho) (nI (fz + 1)))) W v9 G9) := by
  refine (rk_file l X G W M h (nI vi) (nI ho)).imp (fun v9 G9 hpp => ?_)
  rw [e_fileY hl hv hh e e37 hf] at hpp
  rw [show mr2 (_, (up2 (fo (m_file_b M (nI vi) (nI ho)) R (up2 (up2 M (16, 0, 0) 0 0) (16, 0, 0) 0 0)) (14, 37, 0) (6 * vi + ho) (nI (fz + 1)))) = nI fz from mr2_v ((up2_n _ _ _ _ (by simp)).trans ((fo_r (fun i s => by unfold m_file_b; (repeat' split) <;> simp [up2]) R).trans (up2_s _ _ _ _)))] at hpp
  exact hpp
theorem dl_r {f : Nat → Int32 × rb_I → Int32 × rb_I} {a : Int32 × rb_I} {r : rb_R} {k : Nat} (h : ∀ i s, (f i s).2 r k = s.2 r k) (n : Nat) : (fo f n a).2 r k = a.2 r k := fo_inv (f := f) (a := a) (P := fun w => w.2 r k = a.2 r k) rfl (fun i s q => (h i s).trans q) n
theorem dl_0 (a b c : Int32) (i : Nat) (s : Int32 × rb_I) : (m_deliver_b a b c i s).2 (16, 0, 0) 0 = s.2 (16, 0, 0) 0 := by
  unfold m_deliver_b
  (repeat' split) <;> simp [up2]
theorem dl_cm (a b c : Int32) (k : Nat) (v x : Int32) (N : rb_I) : ∀ m, fo (m_deliver_b a b c) m (x, up2 N (14, 38, 0) k v) = ((fo (m_deliver_b a b c) m (x, N)).1, up2 (fo (m_deliver_b a b c) m (x, N)).2 (14, 38, 0) k v) := by
  intro m
  induction m with
  | zero => rw [fo_0, fo_0]
  | succ m ih =>
    rw [fo_s, fo_s, ih]
    generalize fo (m_deliver_b a b c) m (x, N) = z
    unfold m_deliver_b m_isOf
    simp only [up2_n _ (14, 38, 0) k v (show ¬ (((14, 31, 0) : rb_R) = (14, 38, 0) ∧ _ = k) by simp), up2_n _ (14, 38, 0) k v (show ¬ (((14, 30, 0) : rb_R) = (14, 38, 0) ∧ _ = k) by simp), up2_n _ (14, 38, 0) k v (show ¬ (((14, 35, 0) : rb_R) = (14, 38, 0) ∧ _ = k) by simp), up2_n _ (14, 38, 0) k v (show ¬ (((14, 36, 0) : rb_R) = (14, 38, 0) ∧ _ = k) by simp), up2_n _ (14, 38, 0) k v (show ¬ (((14, 33, 0) : rb_R) = (14, 38, 0) ∧ _ = k) by simp), up2_n _ (14, 38, 0) k v (show ¬ (((16, 0, 0) : rb_R) = (14, 38, 0) ∧ 1 = k) by simp)]
    (repeat' split) <;> first | rfl | (rw [up2_cm (by simp)])
theorem db_ee {s : rb_I} {x : Int32} {k vi ho fl vi1 ho1 st1 fl1 e t : Nat} (hk : k < 1000) (b1 : vi < 1000) (b2 : ho < 1000) (b3 : fl < 1000) (b4 : vi1 < 1000) (b5 : ho1 < 1000) (b6 : st1 < 1000) (b7 : fl1 < 1000) (he : e ≤ t) (ht : t < 1000000) (m31 : s (14, 31, 0) k = nI vi1) (m30 : s (14, 30, 0) k = nI ho1) (m35 : s (14, 35, 0) k = nI st1) (m36 : st1 ≠ 0 → s (14, 36, 0) k = nI fl1) (m33 : s (14, 33, 0) k = nI e) (m16 : s (16, 0, 0) 1 = nI t) : m_deliver_b (nI vi) (nI ho) (nI fl) k (x, s) = if vi1 = vi ∧ ho1 = ho ∧ st1 = 1 ∧ fl1 = fl then (if t < e + 43200 then (x + 0, up2 s (14, 35, 0) k 2) else (x + 1, up2 s (14, 35, 0) k 3)) else (x, s) := by
  unfold m_deliver_b m_isOf
  have e0 : (nI st1 = 1) ↔ st1 = 1 := nI_eq (b := 1) (show st1 < 2 ^ 31 by omega) (by decide)
  have e9 : (nI t - nI e < 43200) ↔ t < e + 43200 := by
    rw [pk_sub he]
    exact (nI_ltI (b := 43200) (show t - e < 2 ^ 31 by omega) (by decide)).trans (by omega)
  simp only [nI_clamp (show k < 2 ^ 31 by omega), m31, m30, m35, m33, m16]
  simp only [nI_eq (show vi1 < 2 ^ 31 by omega) (show vi < 2 ^ 31 by omega), nI_eq (show ho1 < 2 ^ 31 by omega) (show ho < 2 ^ 31 by omega), e0, e9]
  by_cases e1 : vi1 = vi
  · by_cases e2 : ho1 = ho
    · by_cases e3 : st1 = 1
      · simp only [m36 (show st1 ≠ 0 by omega), nI_eq (show fl1 < 2 ^ 31 by omega) (show fl < 2 ^ 31 by omega)]
        by_cases e4 : fl1 = fl
        · simp [e1, e2, e3, e4]
        · simp [e1, e2, e3, e4]
      · simp [e1, e2, e3]
    · simp [e1, e2]
  · simp [e1]
theorem e_dlX {vi ho fz : Nat} (hv : vi < 6) (hh : ho < 6) (e37 : M (14, 37, 0) (6 * vi + ho) = nI fz) (hf : fz ≤ 20) : m_deliver M (nI vi) (nI ho) (nI fz) = (0, up2 M (16, 0, 0) 0 1) := by
  unfold m_deliver
  rw [if_neg (is_net hv), if_neg (is_net hh), cl_ (show vi < 1000000 by omega), cl_ (show ho < 1000000 by omega), e37, if_pos (sub_nlt (by omega) (Or.inr (nI_nlt (Nat.le_refl _) (by omega))))]
theorem e_dlN {vi ho fz gz fl : Nat} (hv : vi < 6) (hh : ho < 6) (e37 : M (14, 37, 0) (6 * vi + ho) = nI fz) (e38 : M (14, 38, 0) (6 * vi + ho) = nI gz) (hf : fz ≤ 20) (hg : gz ≤ fz) (hl : fl < fz) (hn : fl ≠ gz) : m_deliver M (nI vi) (nI ho) (nI fl) = (if gz ≤ fl then -2 else -1, (up2 M (16, 0, 0) 0 0)) := by
  unfold m_deliver
  rw [if_neg (is_net hv), if_neg (is_net hh), cl_ (show vi < 1000000 by omega), cl_ (show ho < 1000000 by omega), e37, if_neg (sub_lt (n := fz) (by omega) (nI_pos (by omega)) (nI_lt hl (by omega))).1, e38, if_neg (fun q => hn ((nI_eq (by omega) (by omega)).mp q))]
  by_cases c : gz ≤ fl
  · rw [if_pos (nI_le c (by omega)), if_pos c]
  · rw [if_neg (nI_ge (by omega) (by omega)), if_neg c]
theorem e_dlY (hl : lx W M S A R P t d) {vi ho fz fl : Nat} (hv : vi < 6) (hh : ho < 6) (e37 : M (14, 37, 0) (6 * vi + ho) = nI fz) (e38 : M (14, 38, 0) (6 * vi + ho) = nI fl) (hf : fz ≤ 20) (hlt : fl < fz) : m_deliver M (nI vi) (nI ho) (nI fl) = ((fo (m_deliver_b (nI vi) (nI ho) (nI fl)) R (0, up2 (up2 M (16, 0, 0) 0 0) (14, 38, 0) (6 * vi + ho) (nI (fl + 1)))).1, (fo (m_deliver_b (nI vi) (nI ho) (nI fl)) R (0, up2 (up2 M (16, 0, 0) 0 0) (14, 38, 0) (6 * vi + ho) (nI (fl + 1)))).2) := by
  have hb := lr_b hl
  unfold m_deliver
  rw [if_neg (is_net hv), if_neg (is_net hh), cl_ (show vi < 1000000 by omega), cl_ (show ho < 1000000 by omega), e37, if_neg (sub_lt (n := fz) (by omega) (nI_pos (by omega)) (nI_lt hlt (by omega))).1, e38, if_pos rfl, nI_1, lm_R hl, cl_ (by omega)]
theorem c_dlX (l : Launch) (X : rb_X) (G : rb_G) (W M : rb_I) (h : LI G W M) {W9 : rb_I} {S A R P t d : Nat} (hl : lx W9 M S A R P t d) {vi ho fz : Nat} (hv : vi < 6) (hh : ho < 6) (e37 : M (14, 37, 0) (6 * vi + ho) = nI fz) (hf : fz ≤ 20) : rb_N l X yL_deliver (.codeWith yL_deliver cL_deliver 6 (some .int) [(0, 9, 12, 14)]) 9 157 12 72 [rbR (0, 0, 0), rbI (nI vi), rbI (nI ho), rbI (nI fz)] (wI G W) (fun v9 G9 => PK (-7100) (up2 M (16, 0, 0) 0 1) W v9 G9) := by
  refine (rk_deliver l X G W M h (nI vi) (nI ho) (nI fz)).imp (fun v9 G9 hpp => ?_)
  rw [e_dlX hv hh e37 hf] at hpp
  rw [show mr3 (_, up2 M (16, 0, 0) 0 1) = -7100 from mr3_1' (up2_s _ _ _ _)] at hpp
  exact hpp
theorem c_dlN (l : Launch) (X : rb_X) (G : rb_G) (W M : rb_I) (h : LI G W M) {W9 : rb_I} {S A R P t d : Nat} (hl : lx W9 M S A R P t d) {vi ho fz gz fl : Nat} (hv : vi < 6) (hh : ho < 6) (e37 : M (14, 37, 0) (6 * vi + ho) = nI fz) (e38 : M (14, 38, 0) (6 * vi + ho) = nI gz) (hf : fz ≤ 20) (hg : gz ≤ fz) (hlt : fl < fz) (hn : fl ≠ gz) : rb_N l X yL_deliver (.codeWith yL_deliver cL_deliver 6 (some .int) [(0, 9, 12, 14)]) 9 157 12 72 [rbR (0, 0, 0), rbI (nI vi), rbI (nI ho), rbI (nI fl)] (wI G W) (fun v9 G9 => PK (if gz ≤ fl then -2 else -1) ((up2 M (16, 0, 0) 0 0)) W v9 G9) := by
  refine (rk_deliver l X G W M h (nI vi) (nI ho) (nI fl)).imp (fun v9 G9 hpp => ?_)
  rw [e_dlN hv hh e37 e38 hf hg hlt hn] at hpp
  rw [show mr3 (_, (up2 M (16, 0, 0) 0 0)) = if gz ≤ fl then -2 else -1 from mr3_v (up2_s _ _ _ _)] at hpp
  exact hpp
theorem c_dlY (l : Launch) (X : rb_X) (G : rb_G) (W M : rb_I) (h : LI G W M) {W9 : rb_I} {S A R P t d : Nat} (hl : lx W9 M S A R P t d) {vi ho fz fl : Nat} (hv : vi < 6) (hh : ho < 6) (e37 : M (14, 37, 0) (6 * vi + ho) = nI fz) (e38 : M (14, 38, 0) (6 * vi + ho) = nI fl) (hf : fz ≤ 20) (hlt : fl < fz) : rb_N l X yL_deliver (.codeWith yL_deliver cL_deliver 6 (some .int) [(0, 9, 12, 14)]) 9 157 12 72 [rbR (0, 0, 0), rbI (nI vi), rbI (nI ho), rbI (nI fl)] (wI G W) (fun v9 G9 => PK ((fo (m_deliver_b (nI vi) (nI ho) (nI fl)) R (0, up2 (up2 M (16, 0, 0) 0 0) (14, 38, 0) (6 * vi + ho) (nI (fl + 1)))).1) ((fo (m_deliver_b (nI vi) (nI ho) (nI fl)) R (0, up2 (up2 M (16, 0, 0) 0 0) (14, 38, 0) (6 * vi + ho) (nI (fl + 1)))).2) W v9 G9) := by
  refine (rk_deliver l X G W M h (nI vi) (nI ho) (nI fl)).imp (fun v9 G9 hpp => ?_)
  rw [e_dlY hl hv hh e37 e38 hf hlt] at hpp
  rw [show mr3 (_, (fo (m_deliver_b (nI vi) (nI ho) (nI fl)) R (0, up2 (up2 M (16, 0, 0) 0 0) (14, 38, 0) (6 * vi + ho) (nI (fl + 1)))).2) = (fo (m_deliver_b (nI vi) (nI ho) (nI fl)) R (0, up2 (up2 M (16, 0, 0) 0 0) (14, 38, 0) (6 * vi + ho) (nI (fl + 1)))).1 from mr3_v ((dl_r (dl_0 _ _ _) R).trans (by simp [up2]))] at hpp
  exact hpp
end
