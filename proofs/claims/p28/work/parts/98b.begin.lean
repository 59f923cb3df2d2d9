/-! the world as the law's loop begins -/
def gz : rb_G := (fun r => r = (18, 0, 0) ∨ r = (19, 0, 0) ∨ r = (21, 0, 0), fun _ => 0, fun _ _ => 0, fun _ _ => none, fun _ _ => 0)
theorem fill_at (W : rb_I) (n : Nat) (x : Int32) (m : Nat) : (∀ q, fo (x_fill_b n x) m W (7, n, 0) q = if q < m then x else W (7, n, 0) q) ∧ ∀ r q, r ≠ (7, n, 0) → fo (x_fill_b n x) m W r q = W r q := by
  induction m with
  | zero => rw [fo_0]; exact ⟨fun q => by rw [if_neg (Nat.not_lt_zero _)], fun _ _ _ => rfl⟩
  | succ m ih =>
    obtain ⟨h1, h2⟩ := ih
    rw [fo_s]
    unfold x_fill_b
    refine ⟨fun q => ?_, fun r q hr => ?_⟩
    · by_cases e : q = m
      · subst e; rw [up2_s, if_pos (Nat.lt_succ_self _)]
      · rw [up2_n _ _ _ _ (fun z => e z.2)]
        refine (h1 q).trans ?_
        by_cases l : q < m
        · rw [if_pos l, if_pos (by omega)]
        · rw [if_neg l, if_neg (by omega)]
    · rw [up2_n _ _ _ _ (fun z => hr z.1)]; exact h2 r q hr
theorem nNet_I (i : Nat) (G : rb_G) : gI (nNet i G) = wNt (fun x k => if x = (5, i, 0) then 0 else gI G x k) i := rfl
theorem nNet_P (i : Nat) (G : rb_G) : gP (nNet i G) = up2 (up2 (fun x k => up2 (fun x k => if x = (7, i, 0) then none else if x = (6, i, 0) then none else if x = (5, i, 0) then none else gP G x k) (6, i, 0) 0 (some (7, i, 0)) x k) (5, i, 0) 0 (some (6, i, 0))) (2, 0, 0) i (some (5, i, 0)) := rfl
theorem nNet_N (i : Nat) (G : rb_G) : gN (nNet i G) = fun x => if x = (7, i, 0) then 10 else if x = (6, i, 0) then 0 else if x = (5, i, 0) then 0 else gN G x := rfl
theorem nAcc_I (i : Nat) (G : rb_G) : gI (nAcc i G) = up2 (fun x k => if x = (4, 10 + i, 0) then 0 else if x = (8, i, 0) then 0 else gI G x k) (4, 10 + i, 0) 0 0 := rfl
theorem nAcc_P (i : Nat) (G : rb_G) : gP (nAcc i G) = up2 (up2 (up2 (fun x k => if x = (4, 10 + i, 0) then none else if x = (8, i, 0) then none else gP G x k) (4, 10 + i, 0) 1 (some (19, 0, 0))) (8, i, 0) 0 (some (4, 10 + i, 0))) (3, 0, 0) i (some (8, i, 0)) := rfl
theorem nAcc_N (i : Nat) (G : rb_G) : gN (nAcc i G) = fun x => if x = (4, 10 + i, 0) then 0 else if x = (8, i, 0) then 0 else gN G x := rfl
theorem wNt_at (W : rb_I) (n : Nat) : (wNt W n (5, n, 0) 2 = -1 ∧ wNt W n (5, n, 0) 3 = 10 ∧ wNt W n (5, n, 0) 4 = 50 ∧ wNt W n (5, n, 0) 5 = 20) ∧ (∀ q, q = 1 ∨ q = 6 → wNt W n (5, n, 0) q = W (5, n, 0) q) ∧ (∀ s, s < 10 → wNt W n (7, n, 0) s = -1) ∧ ∀ r q, r ≠ (5, n, 0) → r ≠ (6, n, 0) → r ≠ (7, n, 0) → wNt W n r q = W r q := by
  obtain ⟨f1, f2⟩ := fill_at (zW (zW W (6, n, 0)) (7, n, 0)) n (-1) 10
  unfold wNt wB x_fill
  refine ⟨⟨by simp [up2], by simp [up2], by simp [up2], by simp [up2]⟩, fun q hq => ?_, fun s hs => ?_, fun r q h5 h6 h7 => ?_⟩
  · have e : ∀ k, k ≠ 1 → k ≠ 6 → q ≠ k := fun k h1 h6 z => by rcases hq with w | w <;> omega
    rw [up2_n _ _ _ _ (fun z => e 5 (by decide) (by decide) z.2), up2_n _ _ _ _ (fun z => e 4 (by decide) (by decide) z.2), up2_n _ _ _ _ (fun z => e 3 (by decide) (by decide) z.2), up2_n _ _ _ _ (fun z => e 2 (by decide) (by decide) z.2), f2 _ _ (by simp)]
    simp [zW]
  · rw [up2_n _ _ _ _ (by simp), up2_n _ _ _ _ (by simp), up2_n _ _ _ _ (by simp), up2_n _ _ _ _ (by simp), f1, if_pos hs]
  · rw [up2_n _ _ _ _ (fun z => h5 z.1), up2_n _ _ _ _ (fun z => h5 z.1), up2_n _ _ _ _ (fun z => h5 z.1), up2_n _ _ _ _ (fun z => h5 z.1), f2 _ _ h7]
    simp [zW, h6, h7]
/-- after m networks -/
def bg_N (S G : rb_G) (m : Nat) : Prop :=
  (∀ n, n < m → gI G (5, n, 0) 1 = 0 ∧ gI G (5, n, 0) 2 = -1 ∧ gI G (5, n, 0) 3 = 10 ∧ gI G (5, n, 0) 4 = 50 ∧ gI G (5, n, 0) 5 = 20 ∧ gI G (5, n, 0) 6 = 0 ∧ ∀ s, s < 10 → gI G (7, n, 0) s = -1) ∧
  (∀ n, n < m → gP G (2, 0, 0) n = some (5, n, 0) ∧ gP G (5, n, 0) 0 = some (6, n, 0) ∧ gP G (6, n, 0) 0 = some (7, n, 0) ∧ gN G (7, n, 0) = 10) ∧
  (∀ r q, r.1 ≠ 5 → r.1 ≠ 6 → r.1 ≠ 7 → gI G r q = gI S r q) ∧ (∀ n q, m ≤ n → gI G (5, n, 0) q = gI S (5, n, 0) q) ∧
  (∀ r q, r.1 ≠ 2 → r.1 ≠ 5 → r.1 ≠ 6 → r.1 ≠ 7 → gP G r q = gP S r q) ∧ (∀ r, r.1 ≠ 5 → r.1 ≠ 6 → r.1 ≠ 7 → gN G r = gN S r) ∧ (∀ r, gD S r → gD G r) ∧ ∀ r, gD G r → gD S r ∨ r.1 = 5 ∨ r.1 = 6 ∨ r.1 = 7
theorem bg_N_s (S : rb_G) (m : Nat) : bg_N S (fo nNet m S) m := by
  induction m with
  | zero => rw [fo_0]; exact ⟨fun n h => absurd h (Nat.not_lt_zero _), fun n h => absurd h (Nat.not_lt_zero _), fun _ _ _ _ _ => rfl, fun _ _ _ => rfl, fun _ _ _ _ _ _ => rfl, fun _ _ _ _ => rfl, fun _ h => h, fun _ h => Or.inl h⟩
  | succ m ih =>
    obtain ⟨h1, h2, h3, h4, h5, h6, h7, h8⟩ := ih
    rw [fo_s]
    generalize fo nNet m S = G at *
    obtain ⟨⟨w2, w3, w4, w5⟩, w16, w7, wo⟩ := wNt_at (fun x k => if x = (5, m, 0) then 0 else gI G x k) m
    rw [← nNet_I] at w2 w3 w4 w5 w16 w7 wo
    refine ⟨fun n hn => ?_, fun n hn => ?_, fun r q e5 e6 e7 => ?_, fun n q hn => ?_, fun r q e2 e5 e6 e7 => ?_, fun r e5 e6 e7 => ?_, fun r hr => ?_, fun r hr => ?_⟩
    · by_cases e : n = m
      · subst e
        exact ⟨(w16 1 (Or.inl rfl)).trans (by simp), w2, w3, w4, w5, (w16 6 (Or.inr rfl)).trans (by simp), w7⟩
      · obtain ⟨a1, a2, a3, a4, a5, a6, a7⟩ := h1 n (by omega)
        have k5 : ∀ q, gI (nNet m G) (5, n, 0) q = gI G (5, n, 0) q := fun q => (wo _ _ (by simp [e]) (by simp) (by simp)).trans (by simp [e])
        have k7 : ∀ q, gI (nNet m G) (7, n, 0) q = gI G (7, n, 0) q := fun q => (wo _ _ (by simp) (by simp) (by simp [e])).trans (by simp)
        rw [k5, k5, k5, k5, k5, k5]
        exact ⟨a1, a2, a3, a4, a5, a6, fun s hs => (k7 s).trans (a7 s hs)⟩
    · rw [nNet_P, nNet_N]
      by_cases e : n = m
      · subst e; exact ⟨by simp [up2], by simp [up2], by simp [up2], by simp⟩
      · obtain ⟨a1, a2, a3, a4⟩ := h2 n (by omega)
        refine ⟨?_, ?_, ?_, ?_⟩
        · simp [up2, e]; exact a1
        · simp [up2, e]; exact a2
        · simp [up2, e]; exact a3
        · simp [e]; exact a4
    · rw [wo _ _ (fun z => e5 (by rw [z])) (fun z => e6 (by rw [z])) (fun z => e7 (by rw [z])), if_neg (fun z => e5 (by rw [z]))]
      exact h3 r q e5 e6 e7
    · have e : n ≠ m := by omega
      rw [wo _ _ (by simp [e]) (by simp) (by simp)]
      simp [e]
      exact h4 n q (by omega)
    · rw [nNet_P, up2_n _ _ _ _ (fun z => e2 (by rw [z.1])), up2_n _ _ _ _ (fun z => e5 (by rw [z.1]))]
      show up2 _ (6, m, 0) 0 _ r q = _
      rw [up2_n _ _ _ _ (fun z => e6 (by rw [z.1])), if_neg (fun z => e7 (by rw [z])), if_neg (fun z => e6 (by rw [z])), if_neg (fun z => e5 (by rw [z]))]
      exact h5 r q e2 e5 e6 e7
    · rw [nNet_N]
      show (if r = (7, m, 0) then 10 else if r = (6, m, 0) then 0 else if r = (5, m, 0) then 0 else gN G r) = _
      rw [if_neg (fun z => e7 (by rw [z])), if_neg (fun z => e6 (by rw [z])), if_neg (fun z => e5 (by rw [z]))]
      exact h6 r e5 e6 e7
    · rw [nNet_D]; exact Or.inr (Or.inr (Or.inr (h7 r hr)))
    · rw [nNet_D] at hr
      rcases hr with hr | hr | hr | hr
      · exact Or.inr (Or.inr (Or.inr (by rw [hr])))
      · exact Or.inr (Or.inr (Or.inl (by rw [hr])))
      · exact Or.inr (Or.inl (by rw [hr]))
      · exact h8 r hr
/-- after m accounts -/
def bg_A (S G : rb_G) (m : Nat) : Prop :=
  (∀ k, k < m → gP G (3, 0, 0) k = some (8, k, 0) ∧ gP G (8, k, 0) 0 = some (4, 10 + k, 0) ∧ gP G (4, 10 + k, 0) 1 = some (19, 0, 0)) ∧
  (∀ r q, gI G r q = 0 ∨ gI G r q = gI S r q) ∧ (∀ r q, r.1 ≠ 4 → r.1 ≠ 8 → gI G r q = gI S r q) ∧ (∀ r q, r.1 ≠ 3 → r.1 ≠ 8 → ¬ (r.1 = 4 ∧ 10 ≤ r.2.1) → gP G r q = gP S r q) ∧ (∀ r, r.1 ≠ 8 → r.1 ≠ 4 → gN G r = gN S r) ∧ (∀ r, gD S r → gD G r) ∧ ∀ r, gD G r → gD S r ∨ r.1 = 4 ∨ r.1 = 8
theorem bg_A_s (S : rb_G) (m : Nat) : bg_A S (fo nAcc m S) m := by
  induction m with
  | zero => rw [fo_0]; exact ⟨fun n h => absurd h (Nat.not_lt_zero _), fun _ _ => Or.inr rfl, fun _ _ _ _ => rfl, fun _ _ _ _ _ => rfl, fun _ _ _ => rfl, fun _ h => h, fun _ h => Or.inl h⟩
  | succ m ih =>
    obtain ⟨h1, h2, h3, h4, h5, h6, h7⟩ := ih
    rw [fo_s]
    generalize fo nAcc m S = G at *
    refine ⟨fun k hk => ?_, fun r q => ?_, fun r q e4 e8 => ?_, fun r q e3 e8 e4 => ?_, fun r e8 e4 => ?_, fun r hr => ?_, fun r hr => ?_⟩
    · rw [nAcc_P]
      by_cases e : k = m
      · subst e; exact ⟨by simp [up2], by simp [up2], by simp [up2]⟩
      · obtain ⟨a1, a2, a3⟩ := h1 k (by omega)
        have e' : ¬ 10 + k = 10 + m := by omega
        refine ⟨?_, ?_, ?_⟩
        · simp [up2, e]; exact a1
        · simp [up2, e]; exact a2
        · simp [up2, e]; exact a3
    · rw [nAcc_I]
      by_cases z : r = (4, 10 + m, 0) ∧ q = 0
      · rw [z.1, z.2, up2_s]; exact Or.inl rfl
      · rw [up2_n _ _ _ _ z]
        split
        · exact Or.inl rfl
        · split
          · exact Or.inl rfl
          · exact h2 r q
    · rw [nAcc_I, up2_n _ _ _ _ (fun z => e4 (by rw [z.1])), if_neg (fun z => e4 (by rw [z])), if_neg (fun z => e8 (by rw [z]))]
      exact h3 r q e4 e8
    · rw [nAcc_P, up2_n _ _ _ _ (fun z => e3 (by rw [z.1])), up2_n _ _ _ _ (fun z => e8 (by rw [z.1])), up2_n _ _ _ _ (fun z => e4 (by rw [z.1]; exact ⟨rfl, by simp⟩)), if_neg (fun z => e4 (by rw [z]; exact ⟨rfl, by simp⟩)), if_neg (fun z => e8 (by rw [z]))]
      exact h4 r q e3 e8 e4
    · rw [nAcc_N]
      show (if r = (4, 10 + m, 0) then 0 else if r = (8, m, 0) then 0 else gN G r) = _
      rw [if_neg (fun z => e4 (by rw [z])), if_neg (fun z => e8 (by rw [z]))]
      exact h5 r e8 e4
    · rw [nAcc_D]; exact Or.inr (Or.inr (h6 r hr))
    · rw [nAcc_D] at hr
      rcases hr with hr | hr | hr
      · exact Or.inr (Or.inl (by rw [hr]))
      · exact Or.inr (Or.inr (by rw [hr]))
      · exact h7 r hr
theorem bg_S : (∀ r q, gI (gS (sN gz (0, 0, 0) 0)) r q = 0) ∧ (∀ k, k < 6 → gP (gS (sN gz (0, 0, 0) 0)) (0, 0, 0) k = some (xrl k)) ∧ (∀ id, id < 3 → gP (gS (sN gz (0, 0, 0) 0)) (4, id, 0) 1 = some (19, 0, 0)) ∧ (gN (gS (sN gz (0, 0, 0) 0)) (1, 0, 0) = 8 ∧ gN (gS (sN gz (0, 0, 0) 0)) (2, 0, 0) = 6 ∧ gN (gS (sN gz (0, 0, 0) 0)) (3, 0, 0) = 36) ∧
    (∀ r, gD (gS (sN gz (0, 0, 0) 0)) r → r.1 < 5 ∨ 18 ≤ r.1) ∧ gD (gS (sN gz (0, 0, 0) 0)) (19, 0, 0) ∧ gD (gS (sN gz (0, 0, 0) 0)) (21, 0, 0) := by
  have d0 : ∀ r, gD (sN gz (0, 0, 0) 0) r = (r = (0, 0, 0) ∨ r = (18, 0, 0) ∨ r = (19, 0, 0) ∨ r = (21, 0, 0)) := fun _ => rfl
  refine ⟨fun r q => ?_, fun k hk => ?_, fun id hid => ?_, ⟨?_, ?_, ?_⟩, fun r hr => ?_, ?_, ?_⟩
  · show (up2 (fun x k => if x = (4, 2, 0) then 0 else up2 (fun x k => if x = (4, 1, 0) then 0 else up2 (fun x k => if x = (4, 0, 0) then 0 else (if x = (3, 0, 0) then 0 else if x = (2, 0, 0) then 0 else if x = (1, 0, 0) then 0 else if x = (0, 0, 0) then 0 else (0 : Int32))) (4, 0, 0) 0 0 x k) (4, 1, 0) 0 0 x k) (4, 2, 0) 0 0) r q = 0
    simp [up2]
  · rcases (by omega : k = 0 ∨ k = 1 ∨ k = 2 ∨ k = 3 ∨ k = 4 ∨ k = 5) with rfl | rfl | rfl | rfl | rfl | rfl <;> (unfold gS gL1 gS3 sP sN sI up2 gP; simp [xrl])
  · rcases (by omega : id = 0 ∨ id = 1 ∨ id = 2) with rfl | rfl | rfl <;> (unfold gS gL1 gS3 sP sN sI up2 gP; simp)
  · unfold gS gL1 gS3 sP sN sI gN; simp
  · unfold gS gL1 gS3 sP sN sI gN; simp
  · unfold gS gL1 gS3 sP sN sI gN; simp
  · rw [gS_D, d0] at hr
    rcases hr with hr | hr | hr | hr | hr | hr | hr | hr | hr | hr <;> rw [hr] <;> simp
  · rw [gS_D, d0]; simp
  · rw [gS_D, d0]; simp
def gX : rb_G := fo nAcc 36 (fo nNet 6 (gS (sN gz (0, 0, 0) 0)))
theorem gX_at : (∀ r q, r.1 ≠ 5 → r.1 ≠ 6 → r.1 ≠ 7 → gI gX r q = 0) ∧ (∀ n, n < 6 → gI gX (5, n, 0) 1 = 0 ∧ gI gX (5, n, 0) 2 = -1 ∧ gI gX (5, n, 0) 3 = 10 ∧ gI gX (5, n, 0) 4 = 50 ∧ gI gX (5, n, 0) 5 = 20 ∧ gI gX (5, n, 0) 6 = 0 ∧ ∀ s, s < 10 → gI gX (7, n, 0) s = -1) ∧ (∀ n q, 6 ≤ n → gI gX (5, n, 0) q = 0) ∧
    (∀ k, k < 6 → gP gX (0, 0, 0) k = some (xrl k)) ∧ (∀ n, n < 6 → gP gX (2, 0, 0) n = some (5, n, 0) ∧ gP gX (5, n, 0) 0 = some (6, n, 0) ∧ gP gX (6, n, 0) 0 = some (7, n, 0) ∧ gN gX (7, n, 0) = 10) ∧ (∀ k, k < 36 → gP gX (3, 0, 0) k = some (8, k, 0) ∧ gP gX (8, k, 0) 0 = some (4, 10 + k, 0) ∧ gP gX (4, 10 + k, 0) 1 = some (19, 0, 0)) ∧
    (∀ id, id < 3 → gP gX (4, id, 0) 1 = some (19, 0, 0)) ∧ (gN gX (1, 0, 0) = 8 ∧ gN gX (2, 0, 0) = 6 ∧ gN gX (3, 0, 0) = 36) ∧ (∀ r, gD gX r → r.1 < 9 ∨ 18 ≤ r.1) ∧ gD gX (19, 0, 0) ∧ gD gX (21, 0, 0) := by
  obtain ⟨s1, s2, s3, ⟨s4, s5, s6⟩, s7, s8, s9⟩ := bg_S
  obtain ⟨n1, n2, n3, n4, n5, n6, n7, n8⟩ := bg_N_s (gS (sN gz (0, 0, 0) 0)) 6
  obtain ⟨a1, a2, a3, a4, a5, a6, a7⟩ := bg_A_s (fo nNet 6 (gS (sN gz (0, 0, 0) 0))) 36
  unfold gX
  generalize gS (sN gz (0, 0, 0) 0) = S at *
  generalize fo nNet 6 S = N at *
  generalize fo nAcc 36 N = A at *
  refine ⟨fun r q h5 h6 h7 => ?_, fun n hn => ?_, fun n q hn => ?_, fun k hk => ?_, fun n hn => ?_, a1, fun id hid => ?_, ⟨?_, ?_, ?_⟩, fun r hr => ?_, a6 _ (n7 _ s8), a6 _ (n7 _ s9)⟩
  · rcases a2 r q with e | e
    · exact e
    · rw [e, n3 r q h5 h6 h7]; exact s1 r q
  · rw [a3 _ _ (by simp) (by simp), a3 _ _ (by simp) (by simp), a3 _ _ (by simp) (by simp), a3 _ _ (by simp) (by simp), a3 _ _ (by simp) (by simp), a3 _ _ (by simp) (by simp)]
    obtain ⟨b1, b2, b3, b4, b5, b6, b7⟩ := n1 n hn
    exact ⟨b1, b2, b3, b4, b5, b6, fun s hs => (a3 _ _ (by simp) (by simp)).trans (b7 s hs)⟩
  · rw [a3 _ _ (by simp) (by simp), n4 n q hn]; exact s1 _ _
  · rw [a4 _ _ (by simp) (by simp) (by simp), n5 _ _ (by simp) (by simp) (by simp) (by simp)]; exact s2 k hk
  · rw [a4 _ _ (by simp) (by simp) (by simp), a4 _ _ (by simp) (by simp) (by simp), a4 _ _ (by simp) (by simp) (by simp), a5 _ (by simp) (by simp)]; exact n2 n hn
  · rw [a4 _ _ (by simp) (by simp) (fun z => by have := z.2; simp at this; omega), n5 _ _ (by simp) (by simp) (by simp) (by simp)]; exact s3 id hid
  · rw [a5 _ (by simp) (by simp), n6 _ (by simp) (by simp) (by simp)]; exact s4
  · rw [a5 _ (by simp) (by simp), n6 _ (by simp) (by simp) (by simp)]; exact s5
  · rw [a5 _ (by simp) (by simp), n6 _ (by simp) (by simp) (by simp)]; exact s6
  · rcases a7 r hr with h | h | h
    · rcases n8 r h with h | h | h | h
      · rcases s7 r h with h | h <;> omega
      · omega
      · omega
      · omega
    · omega
    · omega
theorem sy_P (A : rb_G) (b r : rb_R) (q : Nat) : gP (sN A b 0) r q = if r = b then none else gP A r q := rfl
theorem sy_N (A : rb_G) (b r : rb_R) : gN (sN A b 0) r = if r = b then 0 else gN A r := rfl
theorem sy_D (A : rb_G) (b r : rb_R) : gD (sN A b 0) r = (r = b ∨ gD A r) := rfl
theorem sy_I (A : rb_G) (b r : rb_R) (q : Nat) : gI (sN A b 0) r q = if r = b then 0 else gI A r q := rfl
/-- the ghost's first numbers -/
def gM : rb_I := fun r q => if r = (14, 4, 0) then (if q < 6 then -1 else 0) else if r = (14, 5, 0) then (if q < 18 then (if q % 3 = 0 then 10 else if q % 3 = 1 then 50 else 20) else 0) else if r = (14, 27, 0) then (if q < 60 then -1 else 0) else 0
theorem gM_at : (∀ n, n < 6 → gM (14, 4, 0) n = -1 ∧ gM (14, 5, 0) (3 * n + 0) = 10 ∧ gM (14, 5, 0) (3 * n + 1) = 50 ∧ gM (14, 5, 0) (3 * n + 2) = 20) ∧ (∀ n, 6 ≤ n → gM (14, 4, 0) n = 0) ∧ (∀ k, k < 60 → gM (14, 27, 0) k = -1) ∧ ∀ r q, 14 ≤ r.1 → r ≠ (14, 4, 0) → r ≠ (14, 5, 0) → r ≠ (14, 27, 0) → gM r q = 0 := by
  refine ⟨fun n hn => ⟨?_, ?_, ?_, ?_⟩, fun n hn => ?_, fun k hk => ?_, fun r q hr h4 h5 h27 => ?_⟩
  · show (if n < 6 then (-1 : Int32) else 0) = -1
    rw [if_pos hn]
  · show (if 3 * n + 0 < 18 then (if (3 * n + 0) % 3 = 0 then (10 : Int32) else if (3 * n + 0) % 3 = 1 then 50 else 20) else 0) = 10
    rw [if_pos (by omega), if_pos (by omega)]
  · show (if 3 * n + 1 < 18 then (if (3 * n + 1) % 3 = 0 then (10 : Int32) else if (3 * n + 1) % 3 = 1 then 50 else 20) else 0) = 50
    rw [if_pos (by omega), if_neg (by omega), if_pos (by omega)]
  · show (if 3 * n + 2 < 18 then (if (3 * n + 2) % 3 = 0 then (10 : Int32) else if (3 * n + 2) % 3 = 1 then 50 else 20) else 0) = 20
    rw [if_pos (by omega), if_neg (by omega), if_neg (by omega)]
  · show (if n < 6 then (-1 : Int32) else 0) = 0
    rw [if_neg (by omega)]
  · show (if k < 60 then (-1 : Int32) else 0) = -1
    rw [if_pos hk]
  · unfold gM
    rw [if_neg h4, if_neg h5, if_neg h27]
/-- the law's ten arrays -/
def gA : Nat → rb_G
  | 0 => gX
  | k + 1 => sN (gA k) (14, k, 0) (llen k)
theorem gA_D (k : Nat) (r : rb_R) : gD (gA k) r ↔ (∃ i, i < k ∧ r = (14, i, 0)) ∨ gD gX r := by
  induction k with
  | zero => exact ⟨fun h => Or.inr h, fun h => h.elim (fun ⟨i, hi, _⟩ => absurd hi (Nat.not_lt_zero _)) id⟩
  | succ k ih =>
    show (r = (14, k, 0) ∨ gD (gA k) r) ↔ _
    rw [ih]
    constructor
    · rintro (h | ⟨i, hi, h⟩ | h)
      · exact Or.inl ⟨k, Nat.lt_succ_self _, h⟩
      · exact Or.inl ⟨i, Nat.lt_succ_of_lt hi, h⟩
      · exact Or.inr h
    · rintro (⟨i, hi, h⟩ | h)
      · rcases Nat.lt_or_ge i k with w | w
        · exact Or.inr (Or.inl ⟨i, w, h⟩)
        · exact Or.inl (by rw [h, show i = k by omega])
      · exact Or.inr (Or.inr h)
theorem gA_f (k : Nat) : ¬ gD (gA k) (14, k, 0) := fun h => by
  rcases (gA_D k _).mp h with ⟨i, hi, h⟩ | h
  · have e : k = i := by simpa using h
    omega
  · have := gX_at.2.2.2.2.2.2.2.2.1 _ h
    simp only at this
    omega
theorem gA_P (k : Nat) : ∀ r q, r.1 ≠ 14 → gP (gA k) r q = gP gX r q := by
  induction k with
  | zero => exact fun _ _ _ => rfl
  | succ k ih =>
    intro r q hr
    show (if r = (14, k, 0) then none else gP (gA k) r q) = _
    rw [if_neg (fun z => hr (by rw [z]))]
    exact ih r q hr
theorem gA_N (k : Nat) : (∀ r, r.1 ≠ 14 → gN (gA k) r = gN gX r) ∧ ∀ i, i < k → gN (gA k) (14, i, 0) = llen i := by
  induction k with
  | zero => exact ⟨fun _ _ => rfl, fun i hi => absurd hi (Nat.not_lt_zero _)⟩
  | succ k ih =>
    refine ⟨fun r hr => ?_, fun i hi => ?_⟩
    · show (if r = (14, k, 0) then llen k else gN (gA k) r) = _
      rw [if_neg (fun z => hr (by rw [z]))]
      exact ih.1 r hr
    · show (if ((14, i, 0) : rb_R) = (14, k, 0) then llen k else gN (gA k) (14, i, 0)) = _
      by_cases e : i = k
      · subst e; rw [if_pos rfl]
      · rw [if_neg (fun z => e (by simpa using z))]
        exact ih.2 i (by omega)
theorem gA_I (k : Nat) : ∀ r q, gI (gA k) r q = 0 ∨ gI (gA k) r q = gI gX r q := by
  induction k with
  | zero => exact fun _ _ => Or.inr rfl
  | succ k ih =>
    intro r q
    show (if r = (14, k, 0) then (0 : Int32) else gI (gA k) r q) = 0 ∨ (if r = (14, k, 0) then (0 : Int32) else gI (gA k) r q) = _
    split
    · exact Or.inl rfl
    · exact ih r q
theorem gA_I2 (k : Nat) : ∀ r q, r.1 < 14 → gI (gA k) r q = gI gX r q := by
  induction k with
  | zero => exact fun _ _ _ => rfl
  | succ k ih =>
    intro r q hr
    show (if r = (14, k, 0) then (0 : Int32) else gI (gA k) r q) = _
    rw [if_neg (fun z => by rw [z] at hr; exact absurd hr (show ¬ (14 < 14) by decide))]
    exact ih r q hr
def bgG : rb_G := gA 10
theorem bg_P : (∀ r q, r.1 < 14 → gP bgG r q = gP gX r q) ∧ (∀ r, r.1 < 14 → gN bgG r = gN gX r) ∧ (∀ r, gD bgG r ↔ (∃ i, i < 10 ∧ r = (14, i, 0)) ∨ gD gX r) ∧ MS bgG := ⟨fun r q hr => gA_P 10 r q (by omega), fun r hr => (gA_N 10).1 r (by omega), gA_D 10, fun f hf => (gA_N 10).2 f hf⟩
theorem bg_0 (r : rb_R) (q : Nat) (h : 14 ≤ r.1) : gI bgG r q = 0 := (gA_I 10 r q).elim id (fun e => e.trans (gX_at.1 r q (by omega) (by omega) (by omega)))
/-- g behind n rows -/
def gv (n k : Nat) : Int32 := if 6 ≤ k ∧ k < 6 + n then -1 else if 26 ≤ k ∧ k < 26 + 3 * n then (if (k - 26) % 3 = 0 then 10 else if (k - 26) % 3 = 1 then 50 else 20) else 0
/-- the law's world: q rows of b, n of g -/
def bW (q n : Nat) : rb_I := fun r k => if r = (14, 0, 0) then gv n k else if r = (14, 2, 0) then (if k < q then -1 else 0) else gI bgG r k
theorem bW_0 : gI bgG = bW 0 0 := by
  funext r k
  unfold bW gv
  by_cases e : r = (14, 0, 0)
  · rw [if_pos e, if_neg (by omega), if_neg (by omega)]; exact bg_0 r k (by rw [e]; decide)
  · rw [if_neg e]
    by_cases e2 : r = (14, 2, 0)
    · rw [if_pos e2, if_neg (Nat.not_lt_zero _)]; exact bg_0 r k (by rw [e2]; decide)
    · rw [if_neg e2]
theorem bW_b (q : Nat) : up2 (bW q 0) (14, 2, 0) q (-1) = bW (q + 1) 0 := by
  funext r k
  by_cases e : r = (14, 2, 0) ∧ k = q
  · rw [e.1, e.2, up2_s]
    unfold bW
    rw [if_neg (by simp), if_pos rfl, if_pos (Nat.lt_succ_self _)]
  · rw [up2_n _ _ _ _ e]
    unfold bW
    by_cases e0 : r = (14, 0, 0)
    · rw [if_pos e0, if_pos e0]
    · rw [if_neg e0, if_neg e0]
      by_cases e2 : r = (14, 2, 0)
      · rw [if_pos e2, if_pos e2]
        have n1 : k ≠ q := fun z => e ⟨e2, z⟩
        by_cases l : k < q
        · rw [if_pos l, if_pos (by omega)]
        · rw [if_neg l, if_neg (by omega)]
      · rw [if_neg e2, if_neg e2]
theorem bW_g (n : Nat) (hn : n < 6) : up2 (up2 (up2 (up2 (bW 36 n) (14, 0, 0) (6 + n) (-1)) (14, 0, 0) (26 + 3 * n) 10) (14, 0, 0) (27 + 3 * n) 50) (14, 0, 0) (28 + 3 * n) 20 = bW 36 (n + 1) := by
  funext r k
  by_cases e0 : r = (14, 0, 0)
  · subst e0
    by_cases c3 : k = 28 + 3 * n
    · subst c3
      rw [up2_s]
      show (20 : Int32) = gv (n + 1) (28 + 3 * n)
      unfold gv
      rw [if_neg (by omega), if_pos (by omega), if_neg (by omega), if_neg (by omega)]
    rw [up2_n _ _ _ _ (fun z => c3 z.2)]
    by_cases c2 : k = 27 + 3 * n
    · subst c2
      rw [up2_s]
      show (50 : Int32) = gv (n + 1) (27 + 3 * n)
      unfold gv
      rw [if_neg (by omega), if_pos (by omega), if_neg (by omega), if_pos (by omega)]
    rw [up2_n _ _ _ _ (fun z => c2 z.2)]
    by_cases c1 : k = 26 + 3 * n
    · subst c1
      rw [up2_s]
      show (10 : Int32) = gv (n + 1) (26 + 3 * n)
      unfold gv
      rw [if_neg (by omega), if_pos (by omega), if_pos (by omega)]
    rw [up2_n _ _ _ _ (fun z => c1 z.2)]
    by_cases c0 : k = 6 + n
    · subst c0
      rw [up2_s]
      show (-1 : Int32) = gv (n + 1) (6 + n)
      unfold gv
      rw [if_pos (by omega)]
    rw [up2_n _ _ _ _ (fun z => c0 z.2)]
    show gv n k = gv (n + 1) k
    unfold gv
    by_cases d1 : 6 ≤ k ∧ k < 6 + n
    · rw [if_pos d1, if_pos (show 6 ≤ k ∧ k < 6 + (n + 1) by omega)]
    · rw [if_neg d1, if_neg (show ¬ (6 ≤ k ∧ k < 6 + (n + 1)) by omega)]
      by_cases d2 : 26 ≤ k ∧ k < 26 + 3 * n
      · rw [if_pos d2, if_pos (show 26 ≤ k ∧ k < 26 + 3 * (n + 1) by omega)]
      · rw [if_neg d2, if_neg (show ¬ (26 ≤ k ∧ k < 26 + 3 * (n + 1)) by omega)]
  · rw [up2_n _ _ _ _ (fun z => e0 z.1), up2_n _ _ _ _ (fun z => e0 z.1), up2_n _ _ _ _ (fun z => e0 z.1), up2_n _ _ _ _ (fun z => e0 z.1)]
    unfold bW
    rw [if_neg e0, if_neg e0]
theorem bg_C : xCS bgG (fun _ => 0) (fun _ _ => -1) := by
  obtain ⟨-, -, -, x4, x5, x6, x7, ⟨x8, x9, x10⟩, x11, x12, x13⟩ := gX_at
  obtain ⟨p1, p2, p3, p5⟩ := bg_P
  have nd : ∀ r : rb_R, 9 ≤ r.1 → r.1 < 14 → ¬ gD bgG r := fun r h9 h14 h => by
    rcases (p3 r).mp h with ⟨i, hi, h⟩ | h
    · rw [h] at h14; exact absurd h14 (show ¬ (14 < 14) by decide)
    · rcases x11 r h with w | w <;> omega
  have ls : ∀ id, gP gX (4, id, 0) 1 = some (19, 0, 0) → ∀ el, xLS bgG id 0 el := fun id h el => Or.inl ⟨rfl, (p1 _ _ (by simp)).trans h, fun g => nd _ (by simp) (by simp)⟩
  refine ⟨fun k hk => ?_, fun k hk => ?_, fun k hk => ?_, ⟨?_, ?_, ?_⟩, fun k hk => ?_, fun k hk => ?_, ls 0 (x7 0 (by decide)) _, ls 1 (x7 1 (by decide)) _, ls 2 (x7 2 (by decide)) _, fun k hk => ls (10 + k) (x6 k hk).2.2 _, fun k j _ hj => absurd hj (Nat.not_lt_zero _), ⟨(p3 _).mpr (Or.inr x12), (p3 _).mpr (Or.inr x13)⟩, fun j _ => nd _ (by simp) (by simp), fun j _ => nd _ (by simp) (by simp), fun j _ => nd _ (by simp) (by simp), fun k j _ _ => nd _ (by simp) (by simp)⟩
  · rw [p1 _ _ (by simp)]; exact x4 k hk
  · rw [p1 _ _ (by simp)]; exact (x5 k hk).1
  · rw [p1 _ _ (by simp)]; exact (x6 k hk).1
  · rw [p2 _ (by simp)]; exact x8
  · rw [p2 _ (by simp)]; exact x9
  · rw [p2 _ (by simp)]; exact x10
  · rw [p1 _ _ (by simp), p1 _ _ (by simp), p2 _ (by simp)]; exact (x5 k hk).2
  · rw [p1 _ _ (by simp)]; exact (x6 k hk).2.1
theorem bg_sx {W : rb_I} (w1 : ∀ r q, r.1 < 14 → W r q = gI gX r q) : sx W gM (fun _ => 0) (fun _ _ => -1) 0 0 := by
  obtain ⟨x1, x2, x3, -⟩ := gX_at
  obtain ⟨w2, w3, w4, w5⟩ := gM_at
  generalize gM = M at *
  have c0 : ∀ r q, r.1 < 14 → r.1 ≠ 5 → r.1 ≠ 6 → r.1 ≠ 7 → W r q = 0 := fun r q h h5 h6 h7 => (w1 r q h).trans (x1 r q h5 h6 h7)
  have m1 : ∀ f q, f ≠ 4 → f ≠ 5 → f ≠ 27 → M (14, f, 0) q = 0 := fun f q h4 h5 h27 => w5 _ _ (by simp) (by simp [h4]) (by simp [h5]) (by simp [h27])
  have m2 : ∀ f q, M (15, f, 0) q = 0 := fun f q => w5 _ _ (by simp) (by simp) (by simp) (by simp)
  have m3 : ∀ q, M (16, 0, 0) q = 0 := fun q => w5 _ _ (by simp) (by simp) (by simp) (by simp)
  have v6 : ∀ n, 0 < n → vp_in (0 : Int32) n := fun n hn q => q.elim (fun q => absurd q (by decide)) (fun q => by have : (0 : Int32).toNatClampNeg = 0 := rfl; omega)
  have n5 : ∀ n q, n < 6 → W (5, n, 0) q = gI gX (5, n, 0) q := fun n q _ => w1 _ _ (by simp)
  refine ⟨⟨?_, ?_, ⟨Nat.le_refl _, by decide, c0 _ _ (by simp) (by simp) (by simp) (by simp), m3 1⟩, ⟨m3 7, m3 15, m3 29⟩, fun p hp => ?_, fun n hn => ?_, fun j hj => absurd hj (Nat.not_lt_zero _), fun s hs => absurd hs (Nat.not_lt_zero _), fun s _ hs => ?_, fun s hs => absurd hs (Nat.not_lt_zero _), fun n s hn hs => ?_, ⟨fun k hk => rfl, fun k hk => ?_, fun k => ?_, fun r hr => absurd hr (Nat.not_lt_zero _), fun r hr => absurd hr (Nat.not_lt_zero _)⟩⟩, m3 28, Nat.le_refl _, fun s hs => ?_⟩
  · refine ⟨fun id _ => c0 _ _ (by simp) (by simp) (by simp) (by simp), fun s => ?_, fun s => ?_, fun s => ?_, fun s => ?_, fun n => ?_, fun s hs => absurd hs (Nat.not_lt_zero _), fun n => ?_, by decide, by decide, by decide, fun k _ => Nat.zero_le _⟩
    · rw [c0 _ _ (by simp) (by simp) (by simp) (by simp)]; exact v6 6 (by decide)
    · rw [c0 _ _ (by simp) (by simp) (by simp) (by simp)]; exact v6 8 (by decide)
    · rw [c0 _ _ (by simp) (by simp) (by simp) (by simp)]; exact Or.inr (v6 6 (by decide))
    · rw [c0 _ _ (by simp) (by simp) (by simp) (by simp)]; exact Or.inr (v6 6 (by decide))
    · rcases Nat.lt_or_ge n 6 with h | h
      · rw [n5 n _ h, (x2 n h).2.1]; exact at6_m1
      · rw [w1 _ _ (by simp), x3 n _ h]; exact Or.inr (v6 6 (by decide))
    · rcases Nat.lt_or_ge n 6 with h | h
      · rw [n5 n _ h, (x2 n h).1]; exact Or.inl rfl
      · rw [w1 _ _ (by simp), x3 n _ h]; exact Or.inl rfl
  · refine ⟨fun s => ?_, fun s => ?_, fun s => ?_, fun s => ?_, fun n => ?_, fun r => ?_, ?_, ?_, ?_, ?_, fun k => Or.inl (m2 _ _)⟩
    · rw [m1 _ _ (by decide) (by decide) (by decide)]; exact v6 6 (by decide)
    · rw [m1 _ _ (by decide) (by decide) (by decide)]; exact v6 8 (by decide)
    · rw [m1 _ _ (by decide) (by decide) (by decide)]; exact Or.inr (v6 6 (by decide))
    · rw [m1 _ _ (by decide) (by decide) (by decide)]; exact Or.inr (v6 6 (by decide))
    · rcases Nat.lt_or_ge n 6 with h | h
      · rw [(w2 n h).1]; exact at6_m1
      · rw [w3 n h]; exact Or.inr (v6 6 (by decide))
    · rw [m1 _ _ (by decide) (by decide) (by decide)]; exact Or.inr (v6 30 (by decide))
    · rw [m3]; exact v6 31 (by decide)
    · rw [m3]; exact v6 11 (by decide)
    · rw [m3]; exact v6 201 (by decide)
    · rw [m3]; exact v6 401 (by decide)
  · rw [c0 _ _ (by simp) (by simp) (by simp) (by simp), m1 _ _ (by decide) (by decide) (by decide)]
  · obtain ⟨b1, b2, b3, b4, b5, b6, b7⟩ := x2 n hn
    obtain ⟨d1, d2, d3, d4⟩ := w2 n hn
    rw [n5 n _ hn, n5 n _ hn, n5 n _ hn, n5 n _ hn, n5 n _ hn, n5 n _ hn, b1, b2, b3, b4, b5, b6, d1, d2, d3, d4, m2, m1 _ _ (by decide) (by decide) (by decide)]
    exact ⟨rfl, rfl, rfl, rfl, rfl, rfl, vp_in_nI (n := 10) (by decide) (by decide), vp_in_nI (n := 50) (by decide) (by decide), vp_in_nI (n := 20) (by decide) (by decide), v6 10 (by decide)⟩
  · exact ⟨m1 _ _ (by decide) (by decide) (by decide), m2 _ _, m1 _ _ (by decide) (by decide) (by decide), m1 _ _ (by decide) (by decide) (by decide), m1 _ _ (by decide) (by decide) (by decide)⟩
  · rw [w1 _ _ (by simp), (x2 n hn).2.2.2.2.2.2 s hs, w4 _ (by omega)]
    exact ⟨rfl, Or.inl rfl⟩
  · exact ⟨0, 0, c0 _ _ (by simp) (by simp) (by simp) (by simp), m1 _ _ (by decide) (by decide) (by decide), c0 _ _ (by simp) (by simp) (by simp) (by simp), m1 _ _ (by decide) (by decide) (by decide), Nat.le_refl _, by decide⟩
  · rw [c0 _ _ (by simp) (by simp) (by simp) (by simp)]; exact v6 100 (by decide)
  · rw [m1 _ _ (by decide) (by decide) (by decide)]
    exact (fo_0 _ _).symm
theorem bW_o (r : rb_R) (k : Nat) (h0 : r ≠ (14, 0, 0)) (h2 : r ≠ (14, 2, 0)) : bW 36 6 r k = gI bgG r k := by unfold bW; rw [if_neg h0, if_neg h2]
theorem bg_LI : LI bgG (bW 36 6) gM := ⟨bg_P.2.2.2, fun _ => 0, fun _ _ => -1, 0, 0, bg_C, bg_sx (fun r q hr => (bW_o r q (fun z => by rw [z] at hr; exact absurd hr (show ¬ (14 < 14) by decide)) (fun z => by rw [z] at hr; exact absurd hr (show ¬ (14 < 14) by decide))).trans (gA_I2 10 r q hr))⟩
theorem bg_q : ∀ j, j < 18 → gv 6 (26 + j) = gM (14, 5, 0) j := by decide +kernel
theorem bg_q2 : ∀ j, j < 18 → vp_in (gM (14, 5, 0) j) 100 := by unfold vp_in; decide +kernel
theorem bg_n : ∀ n, n < 6 → gv 6 (6 + n) = -1 ∧ gv 6 (12 + n) = 0 := by decide +kernel
theorem bg_r : ∀ p, p < 4 → gv 6 (18 + p) = 0 := by decide +kernel
theorem bg_lx : lx (bW 36 6) gM 0 0 0 0 0 0 := by
  obtain ⟨w2, w3, w4, w5⟩ := gM_at
  have m1 : ∀ f q, f ≠ 4 → f ≠ 5 → f ≠ 27 → gM (14, f, 0) q = 0 := fun f q h4 h5 h27 => w5 _ _ (by simp) (by simp [h4]) (by simp [h5]) (by simp [h27])
  have m2 : ∀ f q, gM (15, f, 0) q = 0 := fun f q => w5 _ _ (by simp) (by simp) (by simp) (by simp)
  have m3 : ∀ q, gM (16, 0, 0) q = 0 := fun q => w5 _ _ (by simp) (by simp) (by simp) (by simp)
  have c0 : ∀ f q, f ≠ 0 → f ≠ 2 → bW 36 6 (14, f, 0) q = 0 := fun f q h0 h2 => (bW_o _ _ (by simp [h0]) (by simp [h2])).trans (bg_0 _ _ (by simp))
  have v6 : ∀ n, 0 < n → vp_in (0 : Int32) n := fun n hn q => q.elim (fun q => absurd q (by decide)) (fun q => by have : (0 : Int32).toNatClampNeg = 0 := rfl; omega)
  have g0 : ∀ k, bW 36 6 (14, 0, 0) k = gv 6 k := fun k => if_pos rfl
  have b0 : ∀ k, bW 36 6 (14, 2, 0) k = if k < 36 then -1 else 0 := fun k => (if_neg (by simp)).trans (if_pos rfl)
  refine ⟨⟨⟨?_, ?_, ?_, ?_, ?_, ?_⟩, ⟨m3 1, m3 7, m3 15, m3 28, m3 29⟩, by decide⟩, fun n hn => ⟨?_, ?_, ?_, ?_, ?_⟩, fun j hj => ⟨?_, bg_q2 j hj⟩, fun p hp => ⟨?_, ?_⟩, ⟨fun s hs => absurd hs (Nat.not_lt_zero _), fun s _ hs => ⟨c0 1 _ (by decide) (by decide), c0 1 _ (by decide) (by decide), m1 20 _ (by decide) (by decide) (by decide), m2 _ _, m1 24 _ (by decide) (by decide) (by decide), m1 26 _ (by decide) (by decide) (by decide)⟩⟩, ⟨fun n s hn hs => ⟨?_, Or.inl (w4 _ (by omega))⟩, fun n s hn _ hs => w4 _ (by omega)⟩, fun j hj => absurd hj (Nat.not_lt_zero _), fun k hk => absurd hk (Nat.not_lt_zero _), ⟨fun k hk => absurd hk (Nat.not_lt_zero _), fun s hs => absurd hs (Nat.not_lt_zero _), fun s hs => absurd hs (Nat.not_lt_zero _), fun s hs => absurd hs (Nat.not_lt_zero _)⟩, fun vi ho hv hh => ⟨0, 0, Nat.le_refl _, by decide, c0 9 _ (by decide) (by decide), m1 37 _ (by decide) (by decide) (by decide), m1 38 _ (by decide) (by decide) (by decide)⟩⟩
  · exact (g0 0).trans rfl
  · exact (g0 1).trans rfl
  · exact (g0 2).trans rfl
  · exact (g0 3).trans rfl
  · exact (g0 4).trans rfl
  · exact (g0 5).trans rfl
  · rw [m2, Nat.zero_div]; rfl
  · rw [g0, (bg_n n hn).1, (w2 n hn).1]
  · rw [(w2 n hn).1]; exact at6_m1
  · rw [g0, (bg_n n hn).2, m1 6 _ (by decide) (by decide) (by decide)]
  · rw [m1 6 _ (by decide) (by decide) (by decide)]; exact v6 10 (by decide)
  · rw [g0]; exact bg_q j hj
  · rw [g0, bg_r p hp, m1 2 _ (by decide) (by decide) (by decide)]
  · rw [m1 2 _ (by decide) (by decide) (by decide)]; exact v6 64 (by decide)
  · rw [b0, if_pos (by omega), w4 _ (by omega)]
theorem bg_J : lJ bgG (bW 36 6) gM := ⟨bg_LI, _, _, _, _, _, _, bg_lx⟩
