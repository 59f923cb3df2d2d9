/-! a call: the rows when one of the two has paid -/
def ly_0 (W M : rb_I) (S A R P t d Q : Nat) : Prop := (W (14, 0, 0) 0 = nI t ∧ W (14, 0, 0) 1 = nI S ∧ W (14, 0, 0) 2 = nI A ∧ W (14, 0, 0) 3 = nI R ∧ W (14, 0, 0) 4 = nI P ∧ W (14, 0, 0) 5 = nI d) ∧
  (M (16, 0, 0) 1 = nI t ∧ M (16, 0, 0) 7 = nI A ∧ M (16, 0, 0) 15 = nI S ∧ M (16, 0, 0) 28 = nI Q ∧ M (16, 0, 0) 29 = nI R) ∧ (S ≤ 6 ∧ A ≤ 10 ∧ R ≤ P ∧ P ≤ 58 ∧ d < 64 ∧ t < 1000000)
def ly (W M : rb_I) (S A R P t d Q : Nat) : Prop := ly_0 W M S A R P t d Q ∧ lx_N W M d ∧ lx_Q W M ∧ lx_R W M ∧ lx_S W M S ∧ lx_B W M S t ∧ lx_A W M A ∧ lx_K W M A R t ∧ lx_P W M S P t ∧ lx_F W M
theorem fo_cg {α : Type} {f g : Nat → α → α} {a : α} : ∀ n, (∀ i, i < n → ∀ s, f i s = g i s) → fo f n a = fo g n a := by
  intro n
  induction n with
  | zero => intro _; rw [fo_0, fo_0]
  | succ n ih => intro h; rw [fo_s, fo_s, ih (fun i hi => h i (by omega)), h n (by omega)]
theorem ly_lx {W M : rb_I} {S A R P t d : Nat} (h : lx W M S A R P t d) : ly W M S A R P t d (P / 2) := ⟨⟨h.1.1, h.1.2.1, h.1.2.2.1, h.1.2.2.2.1, h.1.2.2.2.2.1, h.1.2.2.2.2.2.1, h.1.2.2.2.2.2.2.2⟩, h.2⟩
theorem ly_b {W M : rb_I} {S A R P t d Q : Nat} (h : ly W M S A R P t d Q) : S ≤ 6 ∧ A ≤ 10 ∧ R ≤ P ∧ P ≤ 58 ∧ d < 64 ∧ t < 1000000 := h.1.2.2
theorem lx_ly {W M : rb_I} {S A R P t d Q : Nat} (h : ly W M S A R P t d Q) (h2 : P % 2 = 0) (hQ : P / 2 = Q + 1) : lx W (up2 M (16, 0, 0) 28 (nI (Q + 1))) S A R P t d := by
  obtain ⟨h0, hN, hQ', hR, hS, hB, hA, hK, hP, hF⟩ := h
  refine ⟨?_, ?_, ?_, ?_, ?_, ?_, ?_, ?_, ?_, ?_⟩
  · unfold ly_0 at h0
    unfold lx_0
    simp [up2] at h0 ⊢
    rw [hQ]
    simp_all
  · unfold lx_N at *
    simpa [up2] using hN
  · unfold lx_Q at *
    simpa [up2] using hQ'
  · unfold lx_R at *
    simpa [up2] using hR
  · unfold lx_S at *
    simpa [up2] using hS
  · unfold lx_B at *
    simpa [up2] using hB
  · unfold lx_A at *
    simpa [up2] using hA
  · unfold lx_K at *
    simpa [up2] using hK
  · unfold lx_P py_a py_m at *
    simpa [up2] using hP
  · unfold lx_F at *
    simpa [up2] using hF
theorem and8 (x : Nat) : x &&& 8 = (x % 16) &&& 8 := by
  rw [show (16 : Nat) = 2 ^ 4 from rfl, ← Nat.and_two_pow_sub_one_eq_mod x 4, Nat.and_assoc]
  rfl
theorem a8_ : ∀ s, s < 8 → ∀ far, far < 2 → (0 < nI ((s + 8 * far) &&& 8) ↔ far = 1) := by decide +kernel
theorem xx (a n : Nat) (h : 6 ≤ a) : ¬ a + n = 4 ∧ ¬ a + n = 3 := by omega
/-- one row of the payments -/
theorem py_8 {s far pay : Nat} (hs : s < 8) (hf : far < 2) (hp : pay ≤ 15000) : nI (s + 8 * far + 16 * pay) &&& 7 = nI s ∧ (0 < nI (s + 8 * far + 16 * pay) &&& 8 ↔ far = 1) ∧ nI (s + 8 * far + 16 * pay) >>> (4 &&& 31) = nI pay := by
  refine ⟨?_, ?_, ?_⟩
  · rw [bs_and (by omega) 3 rfl, show (s + 8 * far + 16 * pay) % 2 ^ 3 = s by omega]
  · rw [show (8 : Int32) = nI 8 from rfl, bs_andn, and8, show (s + 8 * far + 16 * pay) % 16 = s + 8 * far by omega]
    exact a8_ s hs far hf
  · rw [show (4 : Int32) = nI 4 from rfl, bs_shr (by omega) (by decide), show (s + 8 * far + 16 * pay) / 2 ^ 4 = pay by omega]
theorem abr_up {M : rb_I} {s : Int32} {k : Nat} {v : Int32} : m_isAbroad (up2 M (14, 24, 0) k v) s = m_isAbroad M s := by unfold m_isAbroad; simp [up2]
theorem abo_up {M : rb_I} {s : Int32} {k : Nat} {v : Int32} : m_abroadOf (up2 M (14, 24, 0) k v) s = m_abroadOf M s := by unfold m_abroadOf; simp [up2]
theorem pays_0 {M : rb_I} {s : Nat} (hs : s < 1000) {m : Int32} (h : m_isAbroad M (nI s) = 0) : m_pays M (nI s) m = up2 M (14, 24, 0) s (M (14, 24, 0) s + m) := by
  unfold m_pays
  rw [abr_up, if_pos h, cl_ (by omega)]
theorem pays_1 {M : rb_I} {s t : Nat} (hs : s < 1000) {m : Int32} (ht : M (16, 0, 0) 1 = nI t) (h9 : t < 1000000) (h : ¬ m_isAbroad M (nI s) = 0) : m_pays M (nI s) m = up2 (up2 (up2 M (14, 24, 0) s (M (14, 24, 0) s + m)) (14, 26, 0) s ((if M (14, 25, 0) s = nI (t / 43200) then M (14, 26, 0) s else 0) + m)) (14, 25, 0) s (nI (t / 43200)) := by
  unfold m_pays
  rw [abr_up, if_neg h, abo_up, ht, cl_ (by omega), show nI t / 43200 = nI (t / 43200) from pk_div (by omega) (by decide) (by decide)]
  unfold m_abroadOf
  rw [ht, cl_ (by omega), show nI t / 43200 = nI (t / 43200) from pk_div (by omega) (by decide) (by decide)]
theorem ly_pay0 {W M : rb_I} {S A R P t d Q : Nat} (h : ly W M S A R P t d Q) {s pay : Nat} (hs : s < S) (hP9 : P ≤ 57) (hp : pay ≤ 15000) (hab : m_isAbroad M (nI s) = 0) : ly (up2 (up2 (up2 W (14, 7, 0) P (nI (s + 8 * 0 + 16 * pay))) (14, 0, 0) 4 (nI (P + 1))) (14, 8, 0) P (nI t)) (m_pays M (nI s) (nI pay)) S A R (P + 1) t d Q := by
  have hb := ly_b h
  rw [pays_0 (by omega) hab]
  obtain ⟨h0, hN, hQ, hR, hS, hB, hA, hK, hP, hF⟩ := h
  refine ⟨?_, ?_, ?_, ?_, ?_, ?_, ?_, ?_, ?_, ?_⟩
  · unfold ly_0 at *
    simp [up2] at h0 ⊢
    refine ⟨by simp_all, by simp_all, ?_⟩
    omega
  · unfold lx_N at *
    simpa [up2, xx 6 _ (by decide), xx 12 _ (by decide), xx 18 _ (by decide), xx 26 _ (by decide)] using hN
  · unfold lx_Q at *
    simpa [up2, xx 6 _ (by decide), xx 12 _ (by decide), xx 18 _ (by decide), xx 26 _ (by decide)] using hQ
  · unfold lx_R at *
    simpa [up2, xx 6 _ (by decide), xx 12 _ (by decide), xx 18 _ (by decide), xx 26 _ (by decide)] using hR
  · unfold lx_S at *
    refine ⟨by simpa [up2] using hS.1, fun s1 h1 h2 => ?_⟩
    have z := hS.2 s1 h1 h2
    have e : ¬ s1 = s := by omega
    simpa [up2, e] using z
  · unfold lx_B at *
    simpa [up2, xx 6 _ (by decide), xx 12 _ (by decide), xx 18 _ (by decide), xx 26 _ (by decide)] using hB
  · unfold lx_A at *
    simpa [up2, xx 6 _ (by decide), xx 12 _ (by decide), xx 18 _ (by decide), xx 26 _ (by decide)] using hA
  · unfold lx_K at *
    simpa [up2, xx 6 _ (by decide), xx 12 _ (by decide), xx 18 _ (by decide), xx 26 _ (by decide)] using hK
  · unfold lx_P at *
    obtain ⟨p1, p2, p3, p4⟩ := hP
    have e8 := py_8 (s := s) (far := 0) (pay := pay) (by omega) (by decide) hp
    have w7 : (up2 (up2 (up2 W (14, 7, 0) P (nI (s + 8 * 0 + 16 * pay))) (14, 0, 0) 4 (nI (P + 1))) (14, 8, 0) P (nI t)) (14, 7, 0) P = nI (s + 8 * 0 + 16 * pay) := by simp [up2]
    have w8 : (up2 (up2 (up2 W (14, 7, 0) P (nI (s + 8 * 0 + 16 * pay))) (14, 0, 0) 4 (nI (P + 1))) (14, 8, 0) P (nI t)) (14, 8, 0) P = nI t := by simp [up2]
    have o7 : ∀ k, k ≠ P → (up2 (up2 (up2 W (14, 7, 0) P (nI (s + 8 * 0 + 16 * pay))) (14, 0, 0) 4 (nI (P + 1))) (14, 8, 0) P (nI t)) (14, 7, 0) k = W (14, 7, 0) k := fun k hk => by simp [up2, hk]
    have o8 : ∀ k, k ≠ P → (up2 (up2 (up2 W (14, 7, 0) P (nI (s + 8 * 0 + 16 * pay))) (14, 0, 0) 4 (nI (P + 1))) (14, 8, 0) P (nI t)) (14, 8, 0) k = W (14, 8, 0) k := fun k hk => by simp [up2, hk]
    generalize (up2 (up2 (up2 W (14, 7, 0) P (nI (s + 8 * 0 + 16 * pay))) (14, 0, 0) 4 (nI (P + 1))) (14, 8, 0) P (nI t)) = W1 at w7 w8 o7 o8 ⊢
    have fa : ∀ x : Int32, fo (py_a W1 x) P 0 = fo (py_a W x) P 0 := fun x => fo_cg P (fun k hk a => by unfold py_a; rw [o7 k (by omega)])
    have fm : ∀ x q : Int32, fo (py_m W1 x q) P 0 = fo (py_m W x q) P 0 := fun x q => fo_cg P (fun k hk a => by unfold py_m; rw [o7 k (by omega), o8 k (by omega)])
    have et : nI t / 43200 = nI (t / 43200) := pk_div (by omega) (by decide) (by decide)
    have z0 : ∀ x : Int32, x + 0 = x := Int32.add_zero
    refine ⟨fun k hk => ?_, fun s1 h1 => ?_, fun s1 h1 q hq hq3 => ?_, fun s1 h1 => ?_⟩
    · by_cases e : k = P
      · subst e
        exact ⟨s, 0, pay, t, hs, by decide, hp, Nat.le_refl _, w7, w8⟩
      · rw [o7 k e, o8 k e]
        exact p1 k (by omega)
    · rw [fo_s, fa, p2 s1 h1]
      unfold py_a
      rw [w7, e8.1, e8.2.2]
      by_cases e : s1 = s
      · subst e
        rw [if_pos rfl]
        simp [up2]
      · rw [if_neg (fun z => e ((nI_eq (by omega) (by omega)).mp z).symm), z0]
        simp [up2, e]
    · rw [fo_s, fm, p3 s1 h1 q hq hq3]
      unfold py_m
      rw [w7, if_neg (c := _ ∧ _ ∧ _) (fun z => absurd (e8.2.1.mp z.2.1) (by decide)), z0]
      simp [up2]
    · obtain ⟨z, z1, z2⟩ := p4 s1 h1
      exact ⟨z, by omega, by simpa [up2] using z2⟩
  · unfold lx_F at *
    simpa [up2, xx 6 _ (by decide), xx 12 _ (by decide), xx 18 _ (by decide), xx 26 _ (by decide)] using hF
theorem ly_pay1 {W M : rb_I} {S A R P t d Q : Nat} (h : ly W M S A R P t d Q) {s pay : Nat} (hs : s < S) (hP9 : P ≤ 57) (hp : pay ≤ 15000) (hab : ¬ m_isAbroad M (nI s) = 0) : ly (up2 (up2 (up2 W (14, 7, 0) P (nI (s + 8 * 1 + 16 * pay))) (14, 0, 0) 4 (nI (P + 1))) (14, 8, 0) P (nI t)) (m_pays M (nI s) (nI pay)) S A R (P + 1) t d Q := by
  have hb := ly_b h
  rw [pays_1 (by omega) h.1.2.1.1 (by omega) hab]
  obtain ⟨h0, hN, hQ, hR, hS, hB, hA, hK, hP, hF⟩ := h
  refine ⟨?_, ?_, ?_, ?_, ?_, ?_, ?_, ?_, ?_, ?_⟩
  · unfold ly_0 at *
    simp [up2] at h0 ⊢
    refine ⟨by simp_all, by simp_all, ?_⟩
    omega
  · unfold lx_N at *
    simpa [up2, xx 6 _ (by decide), xx 12 _ (by decide), xx 18 _ (by decide), xx 26 _ (by decide)] using hN
  · unfold lx_Q at *
    simpa [up2, xx 6 _ (by decide), xx 12 _ (by decide), xx 18 _ (by decide), xx 26 _ (by decide)] using hQ
  · unfold lx_R at *
    simpa [up2, xx 6 _ (by decide), xx 12 _ (by decide), xx 18 _ (by decide), xx 26 _ (by decide)] using hR
  · unfold lx_S at *
    refine ⟨by simpa [up2] using hS.1, fun s1 h1 h2 => ?_⟩
    have z := hS.2 s1 h1 h2
    have e : ¬ s1 = s := by omega
    simpa [up2, e] using z
  · unfold lx_B at *
    simpa [up2, xx 6 _ (by decide), xx 12 _ (by decide), xx 18 _ (by decide), xx 26 _ (by decide)] using hB
  · unfold lx_A at *
    simpa [up2, xx 6 _ (by decide), xx 12 _ (by decide), xx 18 _ (by decide), xx 26 _ (by decide)] using hA
  · unfold lx_K at *
    simpa [up2, xx 6 _ (by decide), xx 12 _ (by decide), xx 18 _ (by decide), xx 26 _ (by decide)] using hK
  · unfold lx_P at *
    obtain ⟨p1, p2, p3, p4⟩ := hP
    have e8 := py_8 (s := s) (far := 1) (pay := pay) (by omega) (by decide) hp
    have w7 : (up2 (up2 (up2 W (14, 7, 0) P (nI (s + 8 * 1 + 16 * pay))) (14, 0, 0) 4 (nI (P + 1))) (14, 8, 0) P (nI t)) (14, 7, 0) P = nI (s + 8 * 1 + 16 * pay) := by simp [up2]
    have w8 : (up2 (up2 (up2 W (14, 7, 0) P (nI (s + 8 * 1 + 16 * pay))) (14, 0, 0) 4 (nI (P + 1))) (14, 8, 0) P (nI t)) (14, 8, 0) P = nI t := by simp [up2]
    have o7 : ∀ k, k ≠ P → (up2 (up2 (up2 W (14, 7, 0) P (nI (s + 8 * 1 + 16 * pay))) (14, 0, 0) 4 (nI (P + 1))) (14, 8, 0) P (nI t)) (14, 7, 0) k = W (14, 7, 0) k := fun k hk => by simp [up2, hk]
    have o8 : ∀ k, k ≠ P → (up2 (up2 (up2 W (14, 7, 0) P (nI (s + 8 * 1 + 16 * pay))) (14, 0, 0) 4 (nI (P + 1))) (14, 8, 0) P (nI t)) (14, 8, 0) k = W (14, 8, 0) k := fun k hk => by simp [up2, hk]
    generalize (up2 (up2 (up2 W (14, 7, 0) P (nI (s + 8 * 1 + 16 * pay))) (14, 0, 0) 4 (nI (P + 1))) (14, 8, 0) P (nI t)) = W1 at w7 w8 o7 o8 ⊢
    have fa : ∀ x : Int32, fo (py_a W1 x) P 0 = fo (py_a W x) P 0 := fun x => fo_cg P (fun k hk a => by unfold py_a; rw [o7 k (by omega)])
    have fm : ∀ x q : Int32, fo (py_m W1 x q) P 0 = fo (py_m W x q) P 0 := fun x q => fo_cg P (fun k hk a => by unfold py_m; rw [o7 k (by omega), o8 k (by omega)])
    have et : nI t / 43200 = nI (t / 43200) := pk_div (by omega) (by decide) (by decide)
    have z0 : ∀ x : Int32, x + 0 = x := Int32.add_zero
    refine ⟨fun k hk => ?_, fun s1 h1 => ?_, fun s1 h1 q hq hq3 => ?_, fun s1 h1 => ?_⟩
    · by_cases e : k = P
      · subst e
        exact ⟨s, 1, pay, t, hs, by decide, hp, Nat.le_refl _, w7, w8⟩
      · rw [o7 k e, o8 k e]
        exact p1 k (by omega)
    · rw [fo_s, fa, p2 s1 h1]
      unfold py_a
      rw [w7, e8.1, e8.2.2]
      by_cases e : s1 = s
      · subst e
        rw [if_pos rfl]
        simp [up2]
      · rw [if_neg (fun z => e ((nI_eq (by omega) (by omega)).mp z).symm), z0]
        simp [up2, e]
    · rw [fo_s, fm, p3 s1 h1 q hq hq3]
      unfold py_m
      rw [w7, w8, e8.1, e8.2.2, et]
      by_cases e : s1 = s
      · subst e
        simp only [up2_s]
        by_cases eq : q = t / 43200
        · subst eq
          rw [if_pos (c := True ∧ _ ∧ _) ⟨trivial, e8.2.1.mpr rfl, rfl⟩, if_pos rfl, up2_n _ _ _ _ (by simp), up2_s]
        · have n1 : ¬ nI (t / 43200) = nI q := fun z => eq ((nI_eq (by omega) (by omega)).mp z).symm
          have f0 := (p3 s1 h1 q hq hq3).symm.trans (py_fu (W := W) (s := nI s1) (t := t) (q := q) (P := P) (fun k hk => by obtain ⟨a, b, c, e, h1, h2, h3, h4, h5, h6⟩ := p1 k hk; exact ⟨e, h4, h6⟩) (by omega) (by omega) (by omega) P (Nat.le_refl _))
          rw [if_neg (c := _ ∧ _ ∧ _) (fun z => n1 z.2.2), if_neg n1, z0, f0]
      · rw [if_neg (c := _ ∧ _ ∧ _) (fun z => e ((nI_eq (by omega) (by omega)).mp z.1).symm), z0]
        simp [up2, e]
    · obtain ⟨z, z1, z2⟩ := p4 s1 h1
      by_cases e : s1 = s
      · subst e
        refine ⟨z + pay, by omega, ?_⟩
        simp only [up2_s]
        rw [if_pos trivial, up2_n _ _ _ _ (by simp), up2_s, z2, nI_add]
      · exact ⟨z, by omega, by simpa [up2, e] using z2⟩
  · unfold lx_F at *
    simpa [up2, xx 6 _ (by decide), xx 12 _ (by decide), xx 18 _ (by decide), xx 26 _ (by decide)] using hF
theorem rec_0 {M : rb_I} {s its : Int32} (h : m_isAbroad M s = 0) : m_records M s its = M := by unfold m_records; rw [if_pos h]
theorem rec_1 {M : rb_I} {s R t ho aa : Nat} {its : Int32} (hs : s < 1000) (hR : R < 1000) (h : ¬ m_isAbroad M (nI s) = 0) (h29 : M (16, 0, 0) 29 = nI R) (h1 : M (16, 0, 0) 1 = nI t) (e16 : M (14, 16, 0) s = nI ho) (e19 : M (14, 19, 0) s = nI aa) : m_records M (nI s) its = up2 (up2 (up2 (up2 (up2 (up2 (up2 M (14, 30, 0) R (nI ho)) (14, 31, 0) R (nI aa)) (14, 32, 0) R its) (14, 33, 0) R (nI t)) (14, 34, 0) R (m_agreement M (nI ho) (nI aa))) (14, 35, 0) R 0) (16, 0, 0) 29 (nI (R + 1)) := by
  unfold m_records
  rw [if_neg h, h29, h1, cl_ (show R < 1000000 by omega), cl_ (show s < 1000000 by omega), e16, e19, nI_1, m_agr_c (W := M) (fun q => by simp [up2]) (fun q => by simp [up2]) (fun q => by simp [up2]) (fun q => by simp [up2]) (by simp [up2]) (by simp [up2])]
theorem ly_rec {W M : rb_I} {S A R P t d Q : Nat} (h : ly W M S A R P t d Q) {s ho aa by1 it : Nat} (hs : s < S) (hRP : R + 1 ≤ P) (e16 : M (14, 16, 0) s = nI ho) (e19 : M (14, 19, 0) s = nI aa) (hho : ho < 6) (haa : aa < 6) (hab : ¬ m_isAbroad M (nI s) = 0) (hit : 0 < it ∧ it ≤ 600) (hby : by1 ≤ A) (hag : m_agreement M (nI ho) (nI aa) = if by1 = 0 then -1 else nI (by1 - 1)) : ly (up2 (up2 (up2 (up2 W (14, 4, 0) R (nI (aa + 8 * ho + 8192 * by1))) (14, 5, 0) R (nI it)) (14, 0, 0) 3 (nI (R + 1))) (14, 6, 0) R (nI t)) (m_records M (nI s) (nI it)) S A (R + 1) P t d Q := by
  have hb := ly_b h
  rw [rec_1 (by omega) (by omega) hab h.1.2.1.2.2.2.2 h.1.2.1.1 e16 e19]
  obtain ⟨h0, hN, hQ, hR, hS, hB, hA, hK, hP, hF⟩ := h
  refine ⟨?_, ?_, ?_, ?_, ?_, ?_, ?_, ?_, ?_, ?_⟩
  · unfold ly_0 at *
    simp [up2] at h0 ⊢
    refine ⟨by simp_all, by simp_all, ?_⟩
    omega
  · unfold lx_N at *
    simpa [up2, xx 6 _ (by decide), xx 12 _ (by decide), xx 18 _ (by decide), xx 26 _ (by decide)] using hN
  · unfold lx_Q at *
    simpa [up2, xx 6 _ (by decide), xx 12 _ (by decide), xx 18 _ (by decide), xx 26 _ (by decide)] using hQ
  · unfold lx_R at *
    simpa [up2, xx 6 _ (by decide), xx 12 _ (by decide), xx 18 _ (by decide), xx 26 _ (by decide)] using hR
  · unfold lx_S at *
    simpa [up2, xx 6 _ (by decide), xx 12 _ (by decide), xx 18 _ (by decide), xx 26 _ (by decide)] using hS
  · unfold lx_B at *
    simpa [up2, xx 6 _ (by decide), xx 12 _ (by decide), xx 18 _ (by decide), xx 26 _ (by decide)] using hB
  · unfold lx_A at *
    simpa [up2, xx 6 _ (by decide), xx 12 _ (by decide), xx 18 _ (by decide), xx 26 _ (by decide)] using hA
  · unfold lx_K at *
    intro k hk
    by_cases e : k = R
    · subst e
      refine ⟨aa, ho, 0, 0, by1, t, it, ⟨haa, hho, by decide, by decide, hby, Nat.le_refl _, hit, fun _ => rfl⟩, ?_, ?_⟩
      · simp [up2]
      · simp [up2]
        exact ⟨rfl, hag⟩
    · obtain ⟨a, b, c, d1, d2, d3, d4, q1, q2, q3⟩ := hK k (by omega)
      exact ⟨a, b, c, d1, d2, d3, d4, q1, by simpa [up2, e] using q2, by simpa [up2, e] using q3⟩
  · unfold lx_P py_a py_m at *
    simpa [up2, xx 6 _ (by decide), xx 12 _ (by decide), xx 18 _ (by decide), xx 26 _ (by decide)] using hP
  · unfold lx_F at *
    simpa [up2, xx 6 _ (by decide), xx 12 _ (by decide), xx 18 _ (by decide), xx 26 _ (by decide)] using hF
theorem agr_v {W M : rb_I} {S A R P t d Q : Nat} (h : ly W M S A R P t d Q) (a b : Int32) : ∃ by1 : Nat, by1 ≤ A ∧ m_agreement M a b = if by1 = 0 then -1 else nI (by1 - 1) := by
  have hb := ly_b h
  unfold m_agreement
  rw [h.1.2.1.2.1, cl_ (by omega)]
  exact fo_inv' (P := fun i (s : Int32) => ∃ by1 : Nat, by1 ≤ i ∧ s = if by1 = 0 then -1 else nI (by1 - 1)) (N := A) ⟨0, Nat.le_refl _, rfl⟩ (fun i hi s hs => by
    obtain ⟨b1, q1, q2⟩ := hs
    have hy : ∃ by1 : Nat, by1 ≤ i + 1 ∧ s = if by1 = 0 then -1 else nI (by1 - 1) := ⟨b1, by omega, q2⟩
    have hz : ∃ by1 : Nat, by1 ≤ i + 1 ∧ nI i = if by1 = 0 then -1 else nI (by1 - 1) := ⟨i + 1, Nat.le_refl _, by rw [if_neg (by omega)]; rfl⟩
    unfold m_agreement_b
    (repeat' split) <;> first | exact hy | exact hz) A (Nat.le_refl _)
theorem by_1 (b : Nat) : (if b = 0 then (-1 : Int32) else nI (b - 1)) + 1 = nI b := by
  by_cases e : b = 0
  · subst e; decide
  · rw [if_neg e, nI_1, Nat.sub_add_cancel (by omega)]
theorem or_by {a by1 : Nat} (ha : a < 64) : a ||| by1 * 2 ^ 13 = a + 8192 * by1 := by rw [bs_orD (by omega)]; omega
theorem or_far {s : Nat} (hs : s < 8) : nI s ||| 8 = nI (s + 8 * 1) := by rw [show (8 : Int32) = nI (1 * 2 ^ 3) from rfl, bs_or, bs_orD (by omega)]
theorem or_pay {a pay : Nat} (h : a < 16) : a ||| pay * 2 ^ 4 = a + 16 * pay := by rw [bs_orD (by omega)]; omega
theorem ly_x3 {W M : rb_I} {S A R P t d Q : Nat} (h : ly W M S A R P t d Q) {s : Nat} (hs : s < S) : W (14, 1, 0) (8 * s + 3) = M (14, 19, 0) s := (h.2.2.2.2.1.1 s hs).2.2.2.2.2.2.1
theorem ly_x0 {W M : rb_I} {S A R P t d Q : Nat} (h : ly W M S A R P t d Q) {s : Nat} (hs : s < S) : W (14, 1, 0) (8 * s) = M (14, 16, 0) s := (h.2.2.2.2.1.1 s hs).1
theorem p_o {M : rb_I} {s m : Int32} (f k : Nat) (h : f ≠ 24 ∧ f ≠ 25 ∧ f ≠ 26) : m_pays M s m (14, f, 0) k = M (14, f, 0) k := m_pays_o (by simp [h.1]) (by simp [h.2.1]) (by simp [h.2.2])
theorem r_o {M : rb_I} {s m : Int32} (f k : Nat) (h : f < 30) : m_records M s m (14, f, 0) k = M (14, f, 0) k := by
  have e : ∀ g, 30 ≤ g → ¬ f = g := fun g hg => by omega
  unfold m_records
  split
  · rfl
  · simp [up2, e]
theorem abr_o {M M' : rb_I} {s : Int32} (h16 : ∀ k, M' (14, 16, 0) k = M (14, 16, 0) k) (h19 : ∀ k, M' (14, 19, 0) k = M (14, 19, 0) k) : m_isAbroad M' s = m_isAbroad M s := by unfold m_isAbroad; rw [h16, h19]
/-! the call's answer -/
section
variable {W M : rb_I} {S A R P t d : Nat}
theorem nb_thr (M : rb_I) (a b v : Int32) : m_nobody (up2 M (16, 0, 0) 0 v) a b = m_nobody M a b := by unfold m_nobody; simp [up2]
theorem ia_thr (M : rb_I) (a v : Int32) : m_isAbroad (up2 M (16, 0, 0) 0 v) a = m_isAbroad M a := by unfold m_isAbroad; simp [up2]
theorem iv_thr (M : rb_I) (a b v : Int32) : m_isAbove (up2 M (16, 0, 0) 0 v) a b = m_isAbove M a b := by unfold m_isAbove m_abroadOf; rw [ia_thr]; simp [up2]
theorem cp_thr (M : rb_I) (a v : Int32) : m_cP (up2 M (16, 0, 0) 0 v) a = m_cP M a := by unfold m_cP; rw [ia_thr]; simp [up2]
theorem cq_thr (M : rb_I) (a v : Int32) : m_cQ (up2 M (16, 0, 0) 0 v) a = m_cQ M a := by unfold m_cQ; rw [ia_thr]; simp [up2]
theorem ia_n {M : rb_I} {s : Nat} (hs : s < 1000) : m_isAbroad M (nI s) = if M (14, 19, 0) s = M (14, 16, 0) s then 0 else 1 := by unfold m_isAbroad; rw [cl_ (by omega)]
theorem ia_0 {M : rb_I} {s f : Nat} (hs : s < 1000) (h : (f = 0 ∧ M (14, 19, 0) s = M (14, 16, 0) s) ∨ (f = 1 ∧ ¬ M (14, 19, 0) s = M (14, 16, 0) s)) : m_isAbroad M (nI s) = nI f := by
  rw [ia_n hs]
  rcases h with ⟨rfl, h⟩ | ⟨rfl, h⟩
  · rw [if_pos h]; rfl
  · rw [if_neg h]; rfl
theorem abv_0a {s : Nat} {m : Int32} (h : m_isAbroad M (nI s) = nI 0) : m_isAbove M (nI s) m = 0 := by unfold m_isAbove; rw [if_pos (show m_isAbroad M (nI s) = 0 from h)]
theorem abv_0b {s : Nat} {m : Int32} (hs : s < 1000) (h : ¬ M (15, 23, 0) s = 0) : m_isAbove M (nI s) m = 0 := by unfold m_isAbove; rw [cl_ (by omega), if_neg h]; split <;> rfl
theorem abv_0c {s : Nat} {m : Int32} (hs : s < 1000) (h : m_abroadOf M (nI s) + m ≤ M (14, 22, 0) s) : m_isAbove M (nI s) m = 0 := by unfold m_isAbove; rw [cl_ (by omega), if_pos h]; (repeat' split) <;> rfl
theorem abv_1 {s f : Nat} {m : Int32} (hs : s < 1000) (ha : m_isAbroad M (nI s) = nI f) (hf : f = 1) (hc : M (15, 23, 0) s = 0) (h : ¬ m_abroadOf M (nI s) + m ≤ M (14, 22, 0) s) : ¬ m_isAbove M (nI s) m = 0 := by unfold m_isAbove; rw [ha, hf, cl_ (by omega), if_neg (by decide), if_pos hc, if_neg h]; decide
theorem nb_n {M : rb_I} {i j : Nat} (hi : i < 1000) (hj : j < 1000) : m_nobody M (nI i) (nI j) = if M (14, 19, 0) i = -1 then 1 else if M (14, 21, 0) j = -1 then 2 else if M (14, 27, 0) (10 * (M (14, 21, 0) j).toNatClampNeg + j) = -1 then 3 else if M (14, 19, 0) j = M (14, 21, 0) j then 0 else 4 := by
  unfold m_nobody
  rw [cl_ (show i < 1000000 by omega), cl_ (show j < 1000000 by omega)]
theorem e_callX (hl : lx W M S A R P t d) {i sc : Nat} (hi : i < S) : m_call M (nI i) (nI i) (nI sc) = (0, up2 M (16, 0, 0) 0 2) := by
  rw [m_call_e, if_neg (is_sub hl hi), if_neg (is_sub hl hi), if_pos rfl]
theorem in_ok1 {k : Nat} (h1 : 1 ≤ k) (h2 : k ≤ 36000) : ¬ m_in (nI k) 1 36000 = 0 := by
  unfold m_in
  rw [if_neg (show ¬ nI k < 1 from fun z => by have := (nI_ltI (a := k) (b := 1) (by omega) (by decide)).mp z; omega), if_neg (show ¬ 36000 < nI k from fun z => by have := (nI_ltI (a := 36000) (b := k) (by decide) (by omega)).mp z; omega)]
  decide
theorem e_call (hl : lx W M S A R P t d) {i j sc it one two fl f2 f3 : Nat} (hi : i < S) (hj : j < S) (hij : ¬ i = j) (hsc : 1 ≤ sc ∧ sc ≤ 9000) (hit : it = (sc + 59) / 60) (hP9 : P ≤ 56) (hone : nI one = nI it * m_cP M (nI i)) (htwo : nI two = nI it * m_cQ M (nI j)) (hfl : m_nobody M (nI i) (nI j) = nI fl) (hf4 : fl ≤ 4) (h2 : (f2 = fl ∧ (¬ fl = 0 ∨ m_isAbove M (nI i) (nI one) = 0)) ∨ (fl = 0 ∧ f2 = 5 ∧ ¬ m_isAbove M (nI i) (nI one) = 0)) (h3 : (f3 = f2 ∧ (¬ f2 = 0 ∨ m_isAbove M (nI j) (nI two) = 0)) ∨ (f2 = 0 ∧ f3 = 6 ∧ ¬ m_isAbove M (nI j) (nI two) = 0)) : m_call M (nI i) (nI j) (nI sc) = (nI f3, if f3 = 0 then m_cF (up2 M (16, 0, 0) 0 0) (nI i) (nI j) (nI it) (nI one) (nI two) else up2 M (16, 0, 0) 0 0) := by
  have hb := lr_b hl
  have ei : (nI sc + 59) / 60 = nI it := by rw [show nI sc + 59 = nI (sc + 59) from nI_add sc 59, hit]; exact pk_div (by omega) (by decide) (by decide)
  rw [m_call_e, if_neg (is_sub hl hi), if_neg (is_sub hl hj), if_neg (fun z => hij ((nI_eq (by omega) (by omega)).mp z)), if_neg (in_ok1 hsc.1 (by omega)), lm_P hl, if_neg (fun z => by have := (nI_eq (b := 200) (by omega) (by decide)).mp z; omega), nb_thr, hfl, cp_thr, cq_thr, ei, ← hone, ← htwo]
  have e0 : (nI fl ≤ 0 ↔ fl ≤ 0) := nI_leI (b := 0) (by omega) (by decide)
  unfold m_cT
  rw [iv_thr, iv_thr]
  rcases h2 with ⟨rfl, h2⟩ | ⟨rfl, rfl, h2⟩
  · by_cases c : f2 = 0
    · subst c
      have h2' := h2.resolve_left (fun z => z rfl)
      rw [if_pos (e0.mpr (Nat.le_refl _)), if_pos h2']
      rcases h3 with ⟨rfl, h3⟩ | ⟨-, rfl, h3⟩
      · have h3' := h3.resolve_left (fun z => z rfl)
        rw [if_pos h3']; rfl
      · rw [if_neg h3]; rfl
    · have e3 : f3 = f2 := by omega
      subst e3
      rw [if_neg (fun z => c (by have := e0.mp z; omega)), if_neg c]
  · have e3 : f3 = 5 := by omega
    subst e3
    rw [if_pos (e0.mpr (Nat.le_refl _)), if_neg h2]
    rfl
theorem p_16 {M : rb_I} {s m : Int32} (k : Nat) : m_pays M s m (16, 0, 0) k = M (16, 0, 0) k := m_pays_o (by simp) (by simp) (by simp)
theorem cF_0 (M : rb_I) (a b c e f : Int32) : m_cF M a b c e f (16, 0, 0) 0 = M (16, 0, 0) 0 := by
  unfold m_cF
  rw [up2_n _ _ _ _ (by simp), (m_rec28 _ _ _).2, (m_rec28 _ _ _).2, p_16, p_16]
theorem cx_0 (M : rb_I) (a b c e f : Int32) (n : Nat) : (if n = 0 then m_cF (up2 M (16, 0, 0) 0 0) a b c e f else up2 M (16, 0, 0) 0 0) (16, 0, 0) 0 = 0 := by
  split
  · rw [cF_0, up2_s]
  · rw [up2_s]
/-- the ghost of the law's order is the model's -/
theorem lx_call {Y : rb_I} {a b its p q : Int32} {W2 : rb_I} {R2 P2 Q : Nat} (hY : Y = m_records (m_pays (m_records (m_pays M a p) a its) b q) b its) (h : ly W2 Y S A R2 P2 t d Q) (h2 : P2 % 2 = 0) (hQ : P2 / 2 = Q + 1) : lx W2 (m_cF M a b its p q) S A R2 P2 t d := by
  have z := lx_ly h h2 hQ
  have e28 : Y (16, 0, 0) 28 = nI Q := h.1.2.1.2.2.2.1
  rw [rp_comm] at hY
  unfold m_cF
  rw [← hY, e28, nI_1]
  exact z
theorem c_callX (l : Launch) (X : rb_X) (G : rb_G) (W M : rb_I) (h : LI G W M) {W9 : rb_I} {S A R P t d : Nat} (hl : lx W9 M S A R P t d) {i sc : Nat} (hi : i < S) : rb_N l X yL_call (.codeWith yL_call cL_call 6 (some .int) [(0, 9, 12, 14), (0, 9, 18, 16), (0, 9, 24, 26)]) 9 208 12 2200 [rbR (0, 0, 0), rbI (nI i), rbI (nI i), rbI (nI sc)] (wI G W) (fun v9 G9 => PK (-7200) (up2 M (16, 0, 0) 0 2) W v9 G9) := by
  refine (rk_call l X G W M h (nI i) (nI i) (nI sc)).imp (fun v9 G9 hpp => ?_)
  rw [e_callX hl hi] at hpp
  rw [show mr3 (_, up2 M (16, 0, 0) 0 2) = -7200 from mr3_2 (up2_s _ _ _ _)] at hpp
  exact hpp
theorem c_call (l : Launch) (X : rb_X) (G : rb_G) (W M : rb_I) (h : LI G W M) {W9 : rb_I} {S A R P t d : Nat} (hl : lx W9 M S A R P t d) {i j sc it one two fl f2 f3 : Nat} (hi : i < S) (hj : j < S) (hij : ¬ i = j) (hsc : 1 ≤ sc ∧ sc ≤ 9000) (hit : it = (sc + 59) / 60) (hP9 : P ≤ 56) (hone : nI one = nI it * m_cP M (nI i)) (htwo : nI two = nI it * m_cQ M (nI j)) (hfl : m_nobody M (nI i) (nI j) = nI fl) (hf4 : fl ≤ 4) (h2 : (f2 = fl ∧ (¬ fl = 0 ∨ m_isAbove M (nI i) (nI one) = 0)) ∨ (fl = 0 ∧ f2 = 5 ∧ ¬ m_isAbove M (nI i) (nI one) = 0)) (h3 : (f3 = f2 ∧ (¬ f2 = 0 ∨ m_isAbove M (nI j) (nI two) = 0)) ∨ (f2 = 0 ∧ f3 = 6 ∧ ¬ m_isAbove M (nI j) (nI two) = 0)) : rb_N l X yL_call (.codeWith yL_call cL_call 6 (some .int) [(0, 9, 12, 14), (0, 9, 18, 16), (0, 9, 24, 26)]) 9 208 12 2200 [rbR (0, 0, 0), rbI (nI i), rbI (nI j), rbI (nI sc)] (wI G W) (fun v9 G9 => PK (nI f3) ((if f3 = 0 then m_cF (up2 M (16, 0, 0) 0 0) (nI i) (nI j) (nI it) (nI one) (nI two) else up2 M (16, 0, 0) 0 0)) W v9 G9) := by
  refine (rk_call l X G W M h (nI i) (nI j) (nI sc)).imp (fun v9 G9 hpp => ?_)
  rw [e_call hl hi hj hij hsc hit hP9 hone htwo hfl hf4 h2 h3] at hpp
  rw [show mr3 (_, (if f3 = 0 then m_cF (up2 M (16, 0, 0) 0 0) (nI i) (nI j) (nI it) (nI one) (nI two) else up2 M (16, 0, 0) 0 0)) = nI f3 from mr3_v (cx_0 _ _ _ _ _ _ _)] at hpp
  exact hpp
end
set_option maxRecDepth 100000 in
set_option maxHeartbeats 4000000 in
theorem k_L_holds2 (l : Launch) (X : rb_X) (G : rb_G) (W M : rb_I) (hm : MS G) {S A R P t d Q : Nat} (hl : ly W M S A R P t d Q) (ho vi : Nat) (hho : ho < 6) (hvi : vi < 6) : rb_N l X yL_holds (.code yL_holds cL_holds 5 (some .int)) 1 12 0 0 [rbI (nI ho), rbI (nI vi), rbR (14, 3, 0), rbR (14, 0, 0)] (wI G W) (fun v9 G9 => v9 = some (rbI (m_agreement M (nI ho) (nI vi))) ∧ G9 = wI G W) := by
  refine rb_startN RL rfl (by decide +kernel) rfl (Nat.le_of_ble_eq_true rfl) ?_
  intro Φ C E nm
  show rb_W Φ 0 0 0 [some (rbI (nI ho)), some (rbI (nI vi)), some (rbR (14, 3, 0)), some (rbR (14, 0, 0)), none] [] (wI G W)
  obtain ⟨hS6, hA10, hRP, hP58, hd64, htm⟩ := ly_b hl
  refine rb_aload_n C dL_holds_0 rfl ?_
  refine rb_iconst C dL_holds_1 (v := 2) (by decide) ?_
  refine rw_iald C (x := (nI A)) 44 (2) dL_holds_2 rfl (hm 0 (by decide)) (show ¬ (((2 : Int32)) < 0 ∨ 44 ≤ (2 : Int32).toNatClampNeg) by decide) rfl (hl.1.1.2.2.1) ?_
  refine rb_iconst C dL_holds_3 (v := 1) (by decide) ?_
  refine rq_isub C (z := (nI A - 1)) dL_holds_4 rfl ?_
  refine rb_istore C dL_holds_5 (Nat.le_of_ble_eq_true rfl) rfl (Lv' := [_, _, _, _, _]) rfl ?_
  have loop7 : ∀ (dd : Nat) , dd ≤ A → (m_agreement M (nI ho) (nI vi)) = fo (m_agreement_b M (nI ho) (nI vi)) dd (-1) → rb_W Φ 0 0 7 [some (rbI (nI ho)), some (rbI (nI vi)), some (rbR (14, 3, 0)), some (rbR (14, 0, 0)), some (rbI (nI dd - 1))] [] (wI G W) := by
    intro dd
    induction dd with
    | zero =>
      intro hd hq
      rw [show nI 0 - 1 = (-1 : Int32) by decide]
      refine rb_iload C dL_holds_7 rfl ?_
      refine rb_if_lt C 67 dL_holds_9 (by decide) (fun _ => ?_) (fun h9 => absurd (by decide) h9)
      refine rb_iconst C dL_holds_67 (v := (-1)) (by decide) ?_
      exact rb_iret C E dL_holds_68 (Nat.le_of_ble_eq_true rfl) (Nat.le_of_ble_eq_true rfl) (⟨by rw [hq, fo_0], rfl⟩)
    | succ dd ih =>
      intro hd hq
      rw [nI_pred dd]
      obtain ⟨ho1, vi1, fr, to', pr, th, lw1, hb, ⟨a0, a1, a2, a3, a4, a5⟩, ⟨m8, m9, m10, m11, m12, m13, m14⟩⟩ := hl.2.2.2.2.2.2.1 dd (by omega)
      have hag := fun s => agb_eq hl.1.2.1.1 m8 m9 m10 m11 (show ho < 8 by omega) (show vi < 8 by omega) (show ho1 < 8 by omega) (show vi1 < 8 by omega) (show fr < 2000000 by omega) (show to' < 2000000 by omega) (show t < 2000000 by omega) s
      refine rb_iload C dL_holds_7 rfl ?_
      refine rb_if_lt C 67 dL_holds_9 (by decide) (fun h9 => absurd h9 (nI_pos (show dd < 2 ^ 31 by omega))) (fun _ => ?_)
      refine rb_aload_n C dL_holds_12 rfl ?_
      refine rb_bipush C dL_holds_13 (v := 6) (by decide) ?_
      refine rb_iload C dL_holds_15 rfl ?_
      refine rq_imul C (z := (nI (6 * dd))) dL_holds_17 (pk_mul 6 dd) ?_
      refine rw_iald C (x := (nI (8 * ho1 + vi1))) 60 (6 * dd) dL_holds_18 rfl (hm 3 (by decide)) (vp_in_nI (show 6 * dd < 60 by omega) (by decide)) (nI_clamp (show 6 * dd < 2 ^ 31 by omega)) (a0) ?_
      refine rb_bipush C dL_holds_19 (v := 8) (by decide) ?_
      refine rb_iload_n C dL_holds_21 rfl ?_
      refine rq_imul C (z := (nI (8 * ho))) dL_holds_22 (pk_mul 8 ho) ?_
      refine rb_iload_n C dL_holds_23 rfl ?_
      refine rq_iadd C (z := (nI (8 * ho + vi))) dL_holds_24 (nI_add (8 * ho) vi) ?_
      refine rb_icmp_ne C 61 dL_holds_25 (by decide) (fun h25 => ?_) (fun h25 => ?_)
      · replace h25 := mt (nI_eq (a := 8 * ho1 + vi1) (b := 8 * ho + vi) (by omega) (by omega)).mpr h25
        refine rq_iinc C dL_holds_61 rfl (v := (nI dd - 1)) (nI_dec dd) rfl (Lv' := [_, _, _, _, _]) rfl ?_
        refine rb_goto C 7 dL_holds_64 (by decide) ?_
        exact ih (by omega) (by rw [hq, fo_s, hag, if_neg (fun z => by omega)])
      · replace h25 := (nI_eq (a := 8 * ho1 + vi1) (b := 8 * ho + vi) (by omega) (by omega)).mp h25
        refine rb_aload_n C dL_holds_28 rfl ?_
        refine rb_bipush C dL_holds_29 (v := 6) (by decide) ?_
        refine rb_iload C dL_holds_31 rfl ?_
        refine rq_imul C (z := (nI (6 * dd))) dL_holds_33 (pk_mul 6 dd) ?_
        refine rb_iconst C dL_holds_34 (v := 1) (by decide) ?_
        refine rq_iadd C (z := (nI (6 * dd + 1))) dL_holds_35 (nI_add (6 * dd) 1) ?_
        refine rw_iald C (x := (nI fr)) 60 (6 * dd + 1) dL_holds_36 rfl (hm 3 (by decide)) (vp_in_nI (show 6 * dd + 1 < 60 by omega) (by decide)) (nI_clamp (show 6 * dd + 1 < 2 ^ 31 by omega)) (a1) ?_
        refine rb_aload_n C dL_holds_37 rfl ?_
        refine rb_iconst C dL_holds_38 (v := 0) (by decide) ?_
        refine rw_iald C (x := (nI t)) 44 (0) dL_holds_39 rfl (hm 0 (by decide)) (show ¬ (((0 : Int32)) < 0 ∨ 44 ≤ (0 : Int32).toNatClampNeg) by decide) rfl (hl.1.1.1) ?_
        refine rb_icmp_gt C 61 dL_holds_40 (by decide) (fun h40 => ?_) (fun h40 => ?_)
        · replace h40 := (nI_ltI (a := t) (b := fr) (by omega) (by omega)).mp h40
          refine rq_iinc C dL_holds_61 rfl (v := (nI dd - 1)) (nI_dec dd) rfl (Lv' := [_, _, _, _, _]) rfl ?_
          refine rb_goto C 7 dL_holds_64 (by decide) ?_
          exact ih (by omega) (by rw [hq, fo_s, hag, if_neg (fun z => by omega)])
        · replace h40 := mt (nI_ltI (a := t) (b := fr) (by omega) (by omega)).mpr h40
          refine rb_aload_n C dL_holds_43 rfl ?_
          refine rb_iconst C dL_holds_44 (v := 0) (by decide) ?_
          refine rw_iald C (x := (nI t)) 44 (0) dL_holds_45 rfl (hm 0 (by decide)) (show ¬ (((0 : Int32)) < 0 ∨ 44 ≤ (0 : Int32).toNatClampNeg) by decide) rfl (hl.1.1.1) ?_
          refine rb_aload_n C dL_holds_46 rfl ?_
          refine rb_bipush C dL_holds_47 (v := 6) (by decide) ?_
          refine rb_iload C dL_holds_49 rfl ?_
          refine rq_imul C (z := (nI (6 * dd))) dL_holds_51 (pk_mul 6 dd) ?_
          refine rb_iconst C dL_holds_52 (v := 2) (by decide) ?_
          refine rq_iadd C (z := (nI (6 * dd + 2))) dL_holds_53 (nI_add (6 * dd) 2) ?_
          refine rw_iald C (x := (nI to')) 60 (6 * dd + 2) dL_holds_54 rfl (hm 3 (by decide)) (vp_in_nI (show 6 * dd + 2 < 60 by omega) (by decide)) (nI_clamp (show 6 * dd + 2 < 2 ^ 31 by omega)) (a2) ?_
          refine rb_icmp_ge C 61 dL_holds_55 (by decide) (fun h55 => ?_) (fun h55 => ?_)
          · replace h55 := (nI_leI (a := to') (b := t) (by omega) (by omega)).mp h55
            refine rq_iinc C dL_holds_61 rfl (v := (nI dd - 1)) (nI_dec dd) rfl (Lv' := [_, _, _, _, _]) rfl ?_
            refine rb_goto C 7 dL_holds_64 (by decide) ?_
            exact ih (by omega) (by rw [hq, fo_s, hag, if_neg (fun z => by omega)])
          · replace h55 := mt (nI_leI (a := to') (b := t) (by omega) (by omega)).mpr h55
            refine rb_iload C dL_holds_58 rfl ?_
            exact rb_iret C E dL_holds_60 (Nat.le_of_ble_eq_true rfl) (Nat.le_of_ble_eq_true rfl) (⟨by rw [hq, fo_s, hag, if_pos (by omega)], rfl⟩)
  exact loop7 A (Nat.le_refl _) (by unfold m_agreement; rw [hl.1.2.1.2.1, nI_clamp (by omega)])
