def gX : rb_G := fo nAcc 36 (fo nNet 6 (gS (sN gz (0, 0, 0) 0)))
theorem gX_at : (∀ r q, r.1 ≠ 5 → r.1 ≠ 6 → r.1 ≠ 7 → gI gX r q = 0) ∧ (∀ n, n < 6 → gI gX (5, n, 0) 1 = 0 ∧ gI gX (5, n, 0) 2 = -1 ∧ gI gX (5, n, 0) 3 = 10 ∧ gI gX (5, n, 0) 4 = 50 ∧ gI gX (5, n, 0) 5 = 20 ∧ gI gX (5, n, 0) 6 = 0 ∧ ∀ s, s < 10 → gI gX (7, n, 0) s = -1) ∧ (∀ n q, 6 ≤ n → gI gX (5, n, 0) q = 0) ∧
    (∀ k, k < 6 → gP gX (0, 0, 0) k = some (xrl k)) ∧ (∀ n, n < 6 → gP gX (2, 0, 0) n = some (5, n, 0) ∧ gP gX (5, n, 0) 0 = some (6, n, 0) ∧ gP gX (6, n, 0) 0 = some (7, n, 0) ∧ gN gX (7, n, 0) = 10) ∧ (∀ k, k < 36 → gP gX (3, 0, 0) k = some (8, k, 0) ∧ gP gX (8, k, 0) 0 = some (4, 10 + k, 0) ∧ gP gX (4, 10 + k, 0) 1 = some (19, 0, 0)) ∧
    (∀ id, id < 3 → gP gX (4, id, 0) 1 = some (19, 0, 0)) ∧ (gN gX (1, 0, 0) = 8 ∧ gN gX (2, 0, 0) = 6 ∧ gN gX (3, 0, 0) = 36) ∧ (∀ r, gD gX r → r.1 < 9 ∨ 18 ≤ r.1) ∧ gD gX (19, 0, 0) ∧ gD gX (21, 0, 0) := by
  obtain ⟨s1, s2, s3, ⟨s4, s5, s6⟩, s7, s8, s9⟩ := bg_S
  obtain ⟨n1, n2, n3, n4, n5, n6, n7, n8⟩ := bg_N_s (gS (sN gz (0, 0, 0) 0)) 6
  obtain ⟨a1, a2, a3, a4, a5, a6, a7⟩ := bg_A_s (fo nNet 6 (gS (sN gz (0, 0, 0) 0))) 36
  unfold gX
  generalize gS (sN gz (0, 0, 0) 0) = S at *
  generalize fo nNet 6 S = N at *
  generalize fo nAcc 36 N = A at *
  refine ⟨fun r q h5 h6 h7 => ?_, fun n hn => ?_, fun n q hn => ?_, fun k hk => ?_, fun n hn => ?_, a1, fun id hid => ?_, ⟨?_, ?_, ?_⟩, fun r hr => ?_, a6 _ (n7 _ s8), a6 _ (n7 _ s9)⟩
  · rcases a2 r q with e | e
    · exact e
    · rw [e, n3 r q h5 h6 h7]; exact s1 r q
  · rw [a3 _ _ (by simp) (by simp), a3 _ _ (by simp) (by simp), a3 _ _ (by simp) (by simp), a3 _ _ (by simp) (by simp), a3 _ _ (by simp) (by simp), a3 _ _ (by simp) (by simp)]
    obtain ⟨b1, b2, b3, b4, b5, b6, b7⟩ := n1 n hn
    exact ⟨b1, b2, b3, b4, b5, b6, fun s hs => (a3 _ _ (by simp) (by simp)).trans (b7 s hs)⟩
  · rw [a3 _ _ (by simp) (by simp), n4 n q hn]; exact s1 _ _
  · rw [a4 _ _ (by simp) (by simp) (by simp), n5 _ _ (by simp) (by simp) (by simp) (by simp)]; exact s2 k hk
  · rw [a4 _ _ (by simp) (by simp) (by simp), a4 _ _ (by simp) (by simp) (by simp), a4 _ _ (by simp) (by simp) (by simp), a5 _ (by simp) (by simp)]; exact n2 n hn
  · rw [a4 _ _ (by simp) (by simp) (fun z => by have := z.2; simp at this; omega), n5 _ _ (by simp) (by simp) (by simp) (by simp)]; exact s3 id hid
  · rw [a5 _ (by simp) (by simp), n6 _ (by simp) (by simp) (by simp)]; exact s4
  · rw [a5 _ (by simp) (by simp), n6 _ (by simp) (by simp) (by simp)]; exact s5
  · rw [a5 _ (by simp) (by simp), n6 _ (by simp) (by simp) (by simp)]; exact s6
  · rcases a7 r hr with h | h | h
    · rcases n8 r h with h | h | h | h
      · rcases s7 r h with h | h <;> omega
      · omega
      · omega
      · omega
    · omega
    · omega
theorem gAs_I (G : rb_G) (k : Nat) : (∀ r q, gI (gAs k G) r q = 0 ∨ gI (gAs k G) r q = gI G r q) ∧ ∀ r q, r.1 ≠ 14 → r.1 ≠ 15 → k ≤ 33 → gI (gAs k G) r q = gI G r q := by
  induction k with
  | zero => exact ⟨fun _ _ => Or.inr rfl, fun _ _ _ _ _ => rfl⟩
  | succ k ih =>
    obtain ⟨h1, h2⟩ := ih
    refine ⟨fun r q => ?_, fun r q h14 h15 hk => ?_⟩
    · show (if r = mrl (ga_f.getD k 0) then 0 else gI (gAs k G) r q) = 0 ∨ (if r = mrl (ga_f.getD k 0) then 0 else gI (gAs k G) r q) = gI G r q
      split
      · exact Or.inl rfl
      · exact h1 r q
    · show (if r = mrl (ga_f.getD k 0) then 0 else gI (gAs k G) r q) = gI G r q
      rw [if_neg (fun z => by have := ga_1415 k (by omega); rw [← z] at this; rcases this with w | w; exact h14 w; exact h15 w)]
      exact h2 r q h14 h15 (by omega)
theorem gAs_Po (G : rb_G) (k : Nat) (hk : k ≤ 33) : (∀ r q, r.1 ≠ 14 → r.1 ≠ 15 → r.1 ≠ 16 → gP (gAs k G) r q = gP G r q) ∧ ∀ r, r.1 ≠ 14 → r.1 ≠ 15 → gN (gAs k G) r = gN G r := by
  induction k with
  | zero => exact ⟨fun _ _ _ _ _ => rfl, fun _ _ _ => rfl⟩
  | succ k ih =>
    obtain ⟨h1, h2⟩ := ih (by omega)
    have hne : ∀ r : rb_R, r.1 ≠ 14 → r.1 ≠ 15 → ¬ r = mrl (ga_f.getD k 0) := fun r h14 h15 z => by have := ga_1415 k (by omega); rw [← z] at this; rcases this with w | w; exact h14 w; exact h15 w
    refine ⟨fun r q h14 h15 h16 => ?_, fun r h14 h15 => ?_⟩
    · show up2 (fun x q => if x = mrl (ga_f.getD k 0) then none else gP (gAs k G) x q) (16, 0, 0) (ga_f.getD k 0) (some (mrl (ga_f.getD k 0))) r q = _
      rw [up2_n _ _ _ _ (fun z => h16 (by rw [z.1])), if_neg (hne r h14 h15)]
      exact h1 r q h14 h15 h16
    · show (if r = mrl (ga_f.getD k 0) then ga_n.getD k 0 else gN (gAs k G) r) = _
      rw [if_neg (hne r h14 h15)]
      exact h2 r h14 h15
theorem mib_at (W : rb_I) (m : Nat) : (∀ n, n < m → fo m_init_b m W (14, 4, 0) n = -1 ∧ fo m_init_b m W (14, 5, 0) (3 * n + 0) = 10 ∧ fo m_init_b m W (14, 5, 0) (3 * n + 1) = 50 ∧ fo m_init_b m W (14, 5, 0) (3 * n + 2) = 20) ∧ (∀ n, m ≤ n → fo m_init_b m W (14, 4, 0) n = W (14, 4, 0) n) ∧ ∀ r q, r ≠ (14, 4, 0) → r ≠ (14, 5, 0) → fo m_init_b m W r q = W r q := by
  induction m with
  | zero => rw [fo_0]; exact ⟨fun n h => absurd h (Nat.not_lt_zero _), fun _ _ => rfl, fun _ _ _ _ => rfl⟩
  | succ m ih =>
    obtain ⟨h1, h2, h3⟩ := ih
    rw [fo_s]
    generalize fo m_init_b m W = S at *
    unfold m_init_b
    refine ⟨fun n hn => ?_, fun n hn => ?_, fun r q h4 h5 => ?_⟩
    · by_cases e : n = m
      · subst e; exact ⟨by simp [up2], by simp [up2], by simp [up2], by simp [up2]⟩
      · obtain ⟨b1, b2, b3, b4⟩ := h1 n (by omega)
        have e5 : ∀ a, a < 3 → up2 (up2 (up2 (up2 S (14, 4, 0) m (-1)) (14, 5, 0) (3 * m + 0) 10) (14, 5, 0) (3 * m + 1) 50) (14, 5, 0) (3 * m + 2) 20 (14, 5, 0) (3 * n + a) = S (14, 5, 0) (3 * n + a) := fun a ha => by
          rw [up2_n _ _ _ _ (fun z => by have := z.2; omega), up2_n _ _ _ _ (fun z => by have := z.2; omega), up2_n _ _ _ _ (fun z => by have := z.2; omega), up2_n _ _ _ _ (by simp)]
        rw [e5 0 (by decide), e5 1 (by decide), e5 2 (by decide)]
        exact ⟨by simp [up2, e]; exact b1, b2, b3, b4⟩
    · have e : n ≠ m := by omega
      simp [up2, e]; exact h2 n (by omega)
    · rw [up2_n _ _ _ _ (fun z => h5 z.1), up2_n _ _ _ _ (fun z => h5 z.1), up2_n _ _ _ _ (fun z => h5 z.1), up2_n _ _ _ _ (fun z => h4 z.1)]
      exact h3 r q h4 h5
theorem mic_at (W : rb_I) (m : Nat) : (∀ k, k < m → fo m_init_c m W (14, 27, 0) k = -1) ∧ ∀ r q, r ≠ (14, 27, 0) → fo m_init_c m W r q = W r q := by
  induction m with
  | zero => rw [fo_0]; exact ⟨fun n h => absurd h (Nat.not_lt_zero _), fun _ _ _ => rfl⟩
  | succ m ih =>
    obtain ⟨h1, h2⟩ := ih
    rw [fo_s]
    generalize fo m_init_c m W = S at *
    unfold m_init_c
    refine ⟨fun k hk => ?_, fun r q hr => ?_⟩
    · by_cases e : k = m
      · subst e; rw [up2_s]
      · rw [up2_n _ _ _ _ (fun z => e z.2)]; exact h1 k (by omega)
    · rw [up2_n _ _ _ _ (fun z => hr z.1)]; exact h2 r q hr
theorem sw_P (A : rb_G) (w : rb_I) (r : rb_R) (q : Nat) : gP (sN (wI A w) (17, 0, 0) 1) r q = if r = (17, 0, 0) then none else gP A r q := rfl
theorem sw_N (A : rb_G) (w : rb_I) (r : rb_R) : gN (sN (wI A w) (17, 0, 0) 1) r = if r = (17, 0, 0) then 1 else gN A r := rfl
theorem sw_D (A : rb_G) (w : rb_I) (r : rb_R) : gD (sN (wI A w) (17, 0, 0) 1) r = (r = (17, 0, 0) ∨ gD A r) := rfl
theorem sw_I (A : rb_G) (w : rb_I) (r : rb_R) (q : Nat) : gI (sN (wI A w) (17, 0, 0) 1) r q = if r = (17, 0, 0) then 0 else w r q := rfl
theorem sy_P (A : rb_G) (b r : rb_R) (q : Nat) : gP (sN A b 0) r q = if r = b then none else gP A r q := rfl
theorem sy_N (A : rb_G) (b r : rb_R) : gN (sN A b 0) r = if r = b then 0 else gN A r := rfl
theorem sy_D (A : rb_G) (b r : rb_R) : gD (sN A b 0) r = (r = b ∨ gD A r) := rfl
theorem sy_I (A : rb_G) (b r : rb_R) (q : Nat) : gI (sN A b 0) r q = if r = b then 0 else gI A r q := rfl
/-- the law's world behind 'new long[1]' -/
def bgG : rb_G := sN (wI (gAs 33 (sN gX (16, 0, 0) 0)) (m_init (gI (gAs 33 (sN gX (16, 0, 0) 0))))) (17, 0, 0) 1
theorem bg_W : (∀ r q, r.1 < 14 → gI bgG r q = gI gX r q) ∧ (∀ n, n < 6 → gI bgG (14, 4, 0) n = -1 ∧ gI bgG (14, 5, 0) (3 * n + 0) = 10 ∧ gI bgG (14, 5, 0) (3 * n + 1) = 50 ∧ gI bgG (14, 5, 0) (3 * n + 2) = 20) ∧ (∀ n, 6 ≤ n → gI bgG (14, 4, 0) n = 0) ∧ (∀ k, k < 60 → gI bgG (14, 27, 0) k = -1) ∧ ∀ r q, 14 ≤ r.1 → r ≠ (14, 4, 0) → r ≠ (14, 5, 0) → r ≠ (14, 27, 0) → gI bgG r q = 0 := by
  obtain ⟨x1, -⟩ := gX_at
  have h0 : ∀ r q, gI bgG r q = if r = (17, 0, 0) then 0 else m_init (gI (gAs 33 (sN gX (16, 0, 0) 0))) r q := fun r q => sw_I _ _ r q
  obtain ⟨i1, i2⟩ := gAs_I (sN gX (16, 0, 0) 0) 33
  have h16 : ∀ r q, gI (sN gX (16, 0, 0) 0) r q = if r = (16, 0, 0) then 0 else gI gX r q := fun r q => sy_I _ _ r q
  obtain ⟨b1, b2, b3⟩ := mib_at (gI (gAs 33 (sN gX (16, 0, 0) 0))) 6
  obtain ⟨c1, c2⟩ := mic_at (fo m_init_b 6 (gI (gAs 33 (sN gX (16, 0, 0) 0)))) 60
  have z14 : ∀ r q, 14 ≤ r.1 → gI (gAs 33 (sN gX (16, 0, 0) 0)) r q = 0 := fun r q hr => by
    rcases i1 r q with e | e
    · exact e
    · rw [e, h16]
      split
      · rfl
      · exact x1 r q (by omega) (by omega) (by omega)
  refine ⟨fun r q hr => ?_, fun n hn => ?_, fun n hn => ?_, fun k hk => ?_, fun r q hr h4 h5 h27 => ?_⟩
  · rw [h0, if_neg (fun z => by rw [z] at hr; exact absurd hr (by decide))]
    unfold m_init
    rw [c2 _ _ (fun z => by rw [z] at hr; exact absurd hr (by decide)), b3 _ _ (fun z => by rw [z] at hr; exact absurd hr (by decide)) (fun z => by rw [z] at hr; exact absurd hr (by decide)), i2 _ _ (by omega) (by omega) (by decide), h16, if_neg (fun z => by rw [z] at hr; exact absurd hr (by decide))]
  · rw [h0, h0, h0, h0, if_neg (by simp), if_neg (by simp), if_neg (by simp), if_neg (by simp)]
    unfold m_init
    rw [c2 _ _ (by simp), c2 _ _ (by simp), c2 _ _ (by simp), c2 _ _ (by simp)]
    exact b1 n hn
  · rw [h0, if_neg (by simp)]
    unfold m_init
    rw [c2 _ _ (by simp), b2 n hn]
    exact z14 _ _ (by simp)
  · rw [h0, if_neg (by simp)]
    unfold m_init
    exact c1 k hk
  · rw [h0]
    split
    · rfl
    · unfold m_init
      rw [c2 _ _ h27, b3 _ _ h4 h5]
      exact z14 r q hr
theorem bg_P : (∀ r q, r.1 < 14 → gP bgG r q = gP gX r q) ∧ (∀ r, r.1 < 14 → gN bgG r = gN gX r) ∧ (∀ r, gD bgG r ↔ r = (17, 0, 0) ∨ r = (16, 0, 0) ∨ (∃ i, i < 33 ∧ r = mrl (ga_f.getD i 0)) ∨ gD gX r) ∧ gN bgG (17, 0, 0) = 1 ∧ MS bgG := by
  obtain ⟨p1, p2⟩ := gAs_Po (sN gX (16, 0, 0) 0) 33 (by decide)
  have e1 : ∀ r q, gP bgG r q = if r = (17, 0, 0) then none else gP (gAs 33 (sN gX (16, 0, 0) 0)) r q := fun r q => sw_P _ _ r q
  have e2 : ∀ r, gN bgG r = if r = (17, 0, 0) then 1 else gN (gAs 33 (sN gX (16, 0, 0) 0)) r := fun r => sw_N _ _ r
  have e3 : ∀ r, gD bgG r = (r = (17, 0, 0) ∨ gD (gAs 33 (sN gX (16, 0, 0) 0)) r) := fun r => sw_D _ _ r
  have e4 : ∀ r q, gP (sN gX (16, 0, 0) 0) r q = if r = (16, 0, 0) then none else gP gX r q := fun r q => sy_P _ _ r q
  have e5 : ∀ r, gN (sN gX (16, 0, 0) 0) r = if r = (16, 0, 0) then 0 else gN gX r := fun r => sy_N _ _ r
  have e6 : ∀ r, gD (sN gX (16, 0, 0) 0) r = (r = (16, 0, 0) ∨ gD gX r) := fun r => sy_D _ _ r
  refine ⟨fun r q hr => ?_, fun r hr => ?_, fun r => ?_, ?_, ?_⟩
  · rw [e1, if_neg (fun z => by rw [z] at hr; exact absurd hr (by decide)), p1 _ _ (by omega) (by omega) (by omega), e4, if_neg (fun z => by rw [z] at hr; exact absurd hr (by decide))]
  · rw [e2, if_neg (fun z => by rw [z] at hr; exact absurd hr (by decide)), p2 _ (by omega) (by omega), e5, if_neg (fun z => by rw [z] at hr; exact absurd hr (by decide))]
  · rw [e3, gAs_D, e6]
    constructor
    · rintro (h | h | h | h)
      · exact Or.inl h
      · exact Or.inr (Or.inr (Or.inl h))
      · exact Or.inr (Or.inl h)
      · exact Or.inr (Or.inr (Or.inr h))
    · rintro (h | h | h | h)
      · exact Or.inl h
      · exact Or.inr (Or.inr (Or.inl h))
      · exact Or.inr (Or.inl h)
      · exact Or.inr (Or.inr (Or.inr h))
  · rw [e2, if_pos rfl]
  · obtain ⟨m1, m2⟩ := gAs_M (sN gX (16, 0, 0) 0)
    refine ⟨fun f hf => ?_, fun f hf => ?_⟩
    · rw [e1, if_neg (by simp)]; exact m1 f hf
    · rw [e2, if_neg (fun z => ?_)]
      · exact m2 f hf
      · have := congrArg (fun r : rb_R => r.1) z
        simp only [mrl] at this
        split at this <;> exact absurd this (by decide)
theorem bg_C : xCS bgG (fun _ => 0) (fun _ _ => -1) := by
  obtain ⟨-, -, -, x4, x5, x6, x7, ⟨x8, x9, x10⟩, x11, x12, x13⟩ := gX_at
  obtain ⟨p1, p2, p3, p4, p5⟩ := bg_P
  have nd : ∀ r : rb_R, 9 ≤ r.1 → r.1 < 14 → ¬ gD bgG r := fun r h9 h14 h => by
    rcases (p3 r).mp h with h | h | ⟨i, hi, h⟩ | h
    · rw [h] at h14; exact absurd h14 (by decide)
    · rw [h] at h14; exact absurd h14 (by decide)
    · have := ga_1415 i hi
      rw [← h] at this
      omega
    · rcases x11 r h with w | w <;> omega
  have ls : ∀ id, gP gX (4, id, 0) 1 = some (19, 0, 0) → ∀ el, xLS bgG id 0 el := fun id h el => Or.inl ⟨rfl, (p1 _ _ (by simp)).trans h, fun g => nd _ (by simp) (by simp)⟩
  refine ⟨fun k hk => ?_, fun k hk => ?_, fun k hk => ?_, ⟨?_, ?_, ?_⟩, fun k hk => ?_, fun k hk => ?_, ls 0 (x7 0 (by decide)) _, ls 1 (x7 1 (by decide)) _, ls 2 (x7 2 (by decide)) _, fun k hk => ls (10 + k) (x6 k hk).2.2 _, fun k j _ hj => absurd hj (Nat.not_lt_zero _), ⟨(p3 _).mpr (Or.inr (Or.inr (Or.inr x12))), (p3 _).mpr (Or.inr (Or.inr (Or.inr x13)))⟩, fun j _ => nd _ (by simp) (by simp), fun j _ => nd _ (by simp) (by simp), fun j _ => nd _ (by simp) (by simp), fun k j _ _ => nd _ (by simp) (by simp)⟩
  · rw [p1 _ _ (by simp)]; exact x4 k hk
  · rw [p1 _ _ (by simp)]; exact (x5 k hk).1
  · rw [p1 _ _ (by simp)]; exact (x6 k hk).1
  · rw [p2 _ (by simp)]; exact x8
  · rw [p2 _ (by simp)]; exact x9
  · rw [p2 _ (by simp)]; exact x10
  · rw [p1 _ _ (by simp), p1 _ _ (by simp), p2 _ (by simp)]; exact (x5 k hk).2
  · rw [p1 _ _ (by simp)]; exact (x6 k hk).2.1
theorem bg_sx : sx (gI bgG) (gI bgG) (fun _ => 0) (fun _ _ => -1) 0 0 := by
  obtain ⟨x1, x2, x3, -⟩ := gX_at
  obtain ⟨w1, w2, w3, w4, w5⟩ := bg_W
  generalize gI bgG = W at *
  have c0 : ∀ r q, r.1 < 14 → r.1 ≠ 5 → r.1 ≠ 6 → r.1 ≠ 7 → W r q = 0 := fun r q h h5 h6 h7 => (w1 r q h).trans (x1 r q h5 h6 h7)
  have m1 : ∀ f q, f ≠ 4 → f ≠ 5 → f ≠ 27 → W (14, f, 0) q = 0 := fun f q h4 h5 h27 => w5 _ _ (by simp) (by simp [h4]) (by simp [h5]) (by simp [h27])
  have m2 : ∀ f q, W (15, f, 0) q = 0 := fun f q => w5 _ _ (by simp) (by simp) (by simp) (by simp)
  have m3 : ∀ q, W (16, 0, 0) q = 0 := fun q => w5 _ _ (by simp) (by simp) (by simp) (by simp)
  have v6 : ∀ n, 0 < n → vp_in (0 : Int32) n := fun n hn q => q.elim (fun q => absurd q (by decide)) (fun q => by have : (0 : Int32).toNatClampNeg = 0 := rfl; omega)
  have n5 : ∀ n q, n < 6 → W (5, n, 0) q = gI gX (5, n, 0) q := fun n q _ => w1 _ _ (by simp)
  refine ⟨⟨?_, ?_, ⟨Nat.le_refl _, by decide, c0 _ _ (by simp) (by simp) (by simp) (by simp), m3 1⟩, ⟨m3 7, m3 15, m3 29⟩, fun p hp => ?_, fun n hn => ?_, fun j hj => absurd hj (Nat.not_lt_zero _), fun s hs => absurd hs (Nat.not_lt_zero _), fun s _ hs => ?_, fun s hs => absurd hs (Nat.not_lt_zero _), fun n s hn hs => ?_, ⟨fun k hk => rfl, fun k hk => ?_, fun k => ?_, fun r hr => absurd hr (Nat.not_lt_zero _), fun r hr => absurd hr (Nat.not_lt_zero _)⟩⟩, m3 28, Nat.le_refl _, fun s hs => ?_⟩
  · refine ⟨fun id _ => c0 _ _ (by simp) (by simp) (by simp) (by simp), fun s => ?_, fun s => ?_, fun s => ?_, fun s => ?_, fun n => ?_, fun s hs => absurd hs (Nat.not_lt_zero _), fun n => ?_, by decide, by decide, by decide, fun k _ => Nat.zero_le _⟩
    · rw [c0 _ _ (by simp) (by simp) (by simp) (by simp)]; exact v6 6 (by decide)
    · rw [c0 _ _ (by simp) (by simp) (by simp) (by simp)]; exact v6 8 (by decide)
    · rw [c0 _ _ (by simp) (by simp) (by simp) (by simp)]; exact Or.inr (v6 6 (by decide))
    · rw [c0 _ _ (by simp) (by simp) (by simp) (by simp)]; exact Or.inr (v6 6 (by decide))
    · rcases Nat.lt_or_ge n 6 with h | h
      · rw [n5 n _ h, (x2 n h).2.1]; exact at6_m1
      · rw [w1 _ _ (by simp), x3 n _ h]; exact Or.inr (v6 6 (by decide))
    · rcases Nat.lt_or_ge n 6 with h | h
      · rw [n5 n _ h, (x2 n h).1]; exact Or.inl rfl
      · rw [w1 _ _ (by simp), x3 n _ h]; exact Or.inl rfl
  · refine ⟨fun s => ?_, fun s => ?_, fun s => ?_, fun s => ?_, fun n => ?_, fun r => ?_, ?_, ?_, ?_, ?_, fun k => Or.inl (m2 _ _)⟩
    · rw [m1 _ _ (by decide) (by decide) (by decide)]; exact v6 6 (by decide)
    · rw [m1 _ _ (by decide) (by decide) (by decide)]; exact v6 8 (by decide)
    · rw [m1 _ _ (by decide) (by decide) (by decide)]; exact Or.inr (v6 6 (by decide))
    · rw [m1 _ _ (by decide) (by decide) (by decide)]; exact Or.inr (v6 6 (by decide))
    · rcases Nat.lt_or_ge n 6 with h | h
      · rw [(w2 n h).1]; exact at6_m1
      · rw [w3 n h]; exact Or.inr (v6 6 (by decide))
    · rw [m1 _ _ (by decide) (by decide) (by decide)]; exact Or.inr (v6 30 (by decide))
    · rw [m3]; exact v6 31 (by decide)
    · rw [m3]; exact v6 11 (by decide)
    · rw [m3]; exact v6 201 (by decide)
    · rw [m3]; exact v6 401 (by decide)
  · rw [c0 _ _ (by simp) (by simp) (by simp) (by simp), m1 _ _ (by decide) (by decide) (by decide)]
  · obtain ⟨b1, b2, b3, b4, b5, b6, b7⟩ := x2 n hn
    obtain ⟨d1, d2, d3, d4⟩ := w2 n hn
    rw [n5 n _ hn, n5 n _ hn, n5 n _ hn, n5 n _ hn, n5 n _ hn, n5 n _ hn, b1, b2, b3, b4, b5, b6, d1, d2, d3, d4, m2, m1 _ _ (by decide) (by decide) (by decide)]
    exact ⟨rfl, rfl, rfl, rfl, rfl, rfl, vp_in_nI (n := 10) (by decide) (by decide), vp_in_nI (n := 50) (by decide) (by decide), vp_in_nI (n := 20) (by decide) (by decide), v6 10 (by decide)⟩
  · exact ⟨m1 _ _ (by decide) (by decide) (by decide), m2 _ _, m1 _ _ (by decide) (by decide) (by decide), m1 _ _ (by decide) (by decide) (by decide), m1 _ _ (by decide) (by decide) (by decide)⟩
  · rw [w1 _ _ (by simp), (x2 n hn).2.2.2.2.2.2 s hs, w4 _ (by omega)]
    exact ⟨rfl, Or.inl rfl⟩
  · exact ⟨0, 0, c0 _ _ (by simp) (by simp) (by simp) (by simp), m1 _ _ (by decide) (by decide) (by decide), c0 _ _ (by simp) (by simp) (by simp) (by simp), m1 _ _ (by decide) (by decide) (by decide), Nat.le_refl _, by decide⟩
  · rw [c0 _ _ (by simp) (by simp) (by simp) (by simp)]; exact v6 100 (by decide)
  · rw [m1 _ _ (by decide) (by decide) (by decide)]
    exact (fo_0 _ _).symm
theorem bg_lI : lI bgG (gI bgG) (fun _ => 0) (fun _ _ => -1) := ⟨bg_C, bg_P.2.2.2.2, bg_P.2.2.2.1, 0, 0, bg_sx⟩
