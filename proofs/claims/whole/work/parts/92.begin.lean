/-! the world as the law's loop begins -/
def gz : rb_G := (fun r => r = (18, 0, 0) ∨ r = (19, 0, 0) ∨ r = (21, 0, 0), fun _ => 0, fun _ _ => 0, fun _ _ => none, fun _ _ => 0)
theorem fill_at (W : rb_I) (n : Nat) (x : Int32) (m : Nat) : (∀ q, fo (x_fill_b n x) m W (7, n, 0) q = if q < m then x else W (7, n, 0) q) ∧ ∀ r q, r ≠ (7, n, 0) → fo (x_fill_b n x) m W r q = W r q := by
  induction m with
  | zero => rw [fo_0]; exact ⟨fun q => by rw [if_neg (Nat.not_lt_zero _)], fun _ _ _ => rfl⟩
  | succ m ih =>
    obtain ⟨h1, h2⟩ := ih
    rw [fo_s]
    unfold x_fill_b
    refine ⟨fun q => ?_, fun r q hr => ?_⟩
    · by_cases e : q = m
      · subst e; rw [up2_s, if_pos (Nat.lt_succ_self _)]
      · rw [up2_n _ _ _ _ (fun z => e z.2)]
        refine (h1 q).trans ?_
        by_cases l : q < m
        · rw [if_pos l, if_pos (by omega)]
        · rw [if_neg l, if_neg (by omega)]
    · rw [up2_n _ _ _ _ (fun z => hr z.1)]; exact h2 r q hr
theorem nNet_I (i : Nat) (G : rb_G) : gI (nNet i G) = wNt (fun x k => if x = (5, i, 0) then 0 else gI G x k) i := rfl
theorem nNet_P (i : Nat) (G : rb_G) : gP (nNet i G) = up2 (up2 (fun x k => up2 (fun x k => if x = (7, i, 0) then none else if x = (6, i, 0) then none else if x = (5, i, 0) then none else gP G x k) (6, i, 0) 0 (some (7, i, 0)) x k) (5, i, 0) 0 (some (6, i, 0))) (2, 0, 0) i (some (5, i, 0)) := rfl
theorem nNet_N (i : Nat) (G : rb_G) : gN (nNet i G) = fun x => if x = (7, i, 0) then 10 else if x = (6, i, 0) then 0 else if x = (5, i, 0) then 0 else gN G x := rfl
theorem nAcc_I (i : Nat) (G : rb_G) : gI (nAcc i G) = up2 (fun x k => if x = (4, 10 + i, 0) then 0 else if x = (8, i, 0) then 0 else gI G x k) (4, 10 + i, 0) 0 0 := rfl
theorem nAcc_P (i : Nat) (G : rb_G) : gP (nAcc i G) = up2 (up2 (up2 (fun x k => if x = (4, 10 + i, 0) then none else if x = (8, i, 0) then none else gP G x k) (4, 10 + i, 0) 1 (some (19, 0, 0))) (8, i, 0) 0 (some (4, 10 + i, 0))) (3, 0, 0) i (some (8, i, 0)) := rfl
theorem nAcc_N (i : Nat) (G : rb_G) : gN (nAcc i G) = fun x => if x = (4, 10 + i, 0) then 0 else if x = (8, i, 0) then 0 else gN G x := rfl
theorem wNt_at (W : rb_I) (n : Nat) : (wNt W n (5, n, 0) 2 = -1 ∧ wNt W n (5, n, 0) 3 = 10 ∧ wNt W n (5, n, 0) 4 = 50 ∧ wNt W n (5, n, 0) 5 = 20) ∧ (∀ q, q = 1 ∨ q = 6 → wNt W n (5, n, 0) q = W (5, n, 0) q) ∧ (∀ s, s < 10 → wNt W n (7, n, 0) s = -1) ∧ ∀ r q, r ≠ (5, n, 0) → r ≠ (6, n, 0) → r ≠ (7, n, 0) → wNt W n r q = W r q := by
  obtain ⟨f1, f2⟩ := fill_at (zW (zW W (6, n, 0)) (7, n, 0)) n (-1) 10
  unfold wNt wB x_fill
  refine ⟨⟨by simp [up2], by simp [up2], by simp [up2], by simp [up2]⟩, fun q hq => ?_, fun s hs => ?_, fun r q h5 h6 h7 => ?_⟩
  · have e : ∀ k, k ≠ 1 → k ≠ 6 → q ≠ k := fun k h1 h6 z => by rcases hq with w | w <;> omega
    rw [up2_n _ _ _ _ (fun z => e 5 (by decide) (by decide) z.2), up2_n _ _ _ _ (fun z => e 4 (by decide) (by decide) z.2), up2_n _ _ _ _ (fun z => e 3 (by decide) (by decide) z.2), up2_n _ _ _ _ (fun z => e 2 (by decide) (by decide) z.2), f2 _ _ (by simp)]
    simp [zW]
  · rw [up2_n _ _ _ _ (by simp), up2_n _ _ _ _ (by simp), up2_n _ _ _ _ (by simp), up2_n _ _ _ _ (by simp), f1, if_pos hs]
  · rw [up2_n _ _ _ _ (fun z => h5 z.1), up2_n _ _ _ _ (fun z => h5 z.1), up2_n _ _ _ _ (fun z => h5 z.1), up2_n _ _ _ _ (fun z => h5 z.1), f2 _ _ h7]
    simp [zW, h6, h7]
/-- after m networks -/
def bg_N (S G : rb_G) (m : Nat) : Prop :=
  (∀ n, n < m → gI G (5, n, 0) 1 = 0 ∧ gI G (5, n, 0) 2 = -1 ∧ gI G (5, n, 0) 3 = 10 ∧ gI G (5, n, 0) 4 = 50 ∧ gI G (5, n, 0) 5 = 20 ∧ gI G (5, n, 0) 6 = 0 ∧ ∀ s, s < 10 → gI G (7, n, 0) s = -1) ∧
  (∀ n, n < m → gP G (2, 0, 0) n = some (5, n, 0) ∧ gP G (5, n, 0) 0 = some (6, n, 0) ∧ gP G (6, n, 0) 0 = some (7, n, 0) ∧ gN G (7, n, 0) = 10) ∧
  (∀ r q, r.1 ≠ 5 → r.1 ≠ 6 → r.1 ≠ 7 → gI G r q = gI S r q) ∧ (∀ n q, m ≤ n → gI G (5, n, 0) q = gI S (5, n, 0) q) ∧
  (∀ r q, r.1 ≠ 2 → r.1 ≠ 5 → r.1 ≠ 6 → r.1 ≠ 7 → gP G r q = gP S r q) ∧ (∀ r, r.1 ≠ 5 → r.1 ≠ 6 → r.1 ≠ 7 → gN G r = gN S r) ∧ (∀ r, gD S r → gD G r) ∧ ∀ r, gD G r → gD S r ∨ r.1 = 5 ∨ r.1 = 6 ∨ r.1 = 7
theorem bg_N_s (S : rb_G) (m : Nat) : bg_N S (fo nNet m S) m := by
  induction m with
  | zero => rw [fo_0]; exact ⟨fun n h => absurd h (Nat.not_lt_zero _), fun n h => absurd h (Nat.not_lt_zero _), fun _ _ _ _ _ => rfl, fun _ _ _ => rfl, fun _ _ _ _ _ _ => rfl, fun _ _ _ _ => rfl, fun _ h => h, fun _ h => Or.inl h⟩
  | succ m ih =>
    obtain ⟨h1, h2, h3, h4, h5, h6, h7, h8⟩ := ih
    rw [fo_s]
    generalize fo nNet m S = G at *
    obtain ⟨⟨w2, w3, w4, w5⟩, w16, w7, wo⟩ := wNt_at (fun x k => if x = (5, m, 0) then 0 else gI G x k) m
    rw [← nNet_I] at w2 w3 w4 w5 w16 w7 wo
    refine ⟨fun n hn => ?_, fun n hn => ?_, fun r q e5 e6 e7 => ?_, fun n q hn => ?_, fun r q e2 e5 e6 e7 => ?_, fun r e5 e6 e7 => ?_, fun r hr => ?_, fun r hr => ?_⟩
    · by_cases e : n = m
      · subst e
        exact ⟨(w16 1 (Or.inl rfl)).trans (by simp), w2, w3, w4, w5, (w16 6 (Or.inr rfl)).trans (by simp), w7⟩
      · obtain ⟨a1, a2, a3, a4, a5, a6, a7⟩ := h1 n (by omega)
        have k5 : ∀ q, gI (nNet m G) (5, n, 0) q = gI G (5, n, 0) q := fun q => (wo _ _ (by simp [e]) (by simp) (by simp)).trans (by simp [e])
        have k7 : ∀ q, gI (nNet m G) (7, n, 0) q = gI G (7, n, 0) q := fun q => (wo _ _ (by simp) (by simp) (by simp [e])).trans (by simp)
        rw [k5, k5, k5, k5, k5, k5]
        exact ⟨a1, a2, a3, a4, a5, a6, fun s hs => (k7 s).trans (a7 s hs)⟩
    · rw [nNet_P, nNet_N]
      by_cases e : n = m
      · subst e; exact ⟨by simp [up2], by simp [up2], by simp [up2], by simp⟩
      · obtain ⟨a1, a2, a3, a4⟩ := h2 n (by omega)
        refine ⟨?_, ?_, ?_, ?_⟩
        · simp [up2, e]; exact a1
        · simp [up2, e]; exact a2
        · simp [up2, e]; exact a3
        · simp [e]; exact a4
    · rw [wo _ _ (fun z => e5 (by rw [z])) (fun z => e6 (by rw [z])) (fun z => e7 (by rw [z])), if_neg (fun z => e5 (by rw [z]))]
      exact h3 r q e5 e6 e7
    · have e : n ≠ m := by omega
      rw [wo _ _ (by simp [e]) (by simp) (by simp)]
      simp [e]
      exact h4 n q (by omega)
    · rw [nNet_P, up2_n _ _ _ _ (fun z => e2 (by rw [z.1])), up2_n _ _ _ _ (fun z => e5 (by rw [z.1]))]
      show up2 _ (6, m, 0) 0 _ r q = _
      rw [up2_n _ _ _ _ (fun z => e6 (by rw [z.1])), if_neg (fun z => e7 (by rw [z])), if_neg (fun z => e6 (by rw [z])), if_neg (fun z => e5 (by rw [z]))]
      exact h5 r q e2 e5 e6 e7
    · rw [nNet_N]
      show (if r = (7, m, 0) then 10 else if r = (6, m, 0) then 0 else if r = (5, m, 0) then 0 else gN G r) = _
      rw [if_neg (fun z => e7 (by rw [z])), if_neg (fun z => e6 (by rw [z])), if_neg (fun z => e5 (by rw [z]))]
      exact h6 r e5 e6 e7
    · rw [nNet_D]; exact Or.inr (Or.inr (Or.inr (h7 r hr)))
    · rw [nNet_D] at hr
      rcases hr with hr | hr | hr | hr
      · exact Or.inr (Or.inr (Or.inr (by rw [hr])))
      · exact Or.inr (Or.inr (Or.inl (by rw [hr])))
      · exact Or.inr (Or.inl (by rw [hr]))
      · exact h8 r hr
/-- after m accounts -/
def bg_A (S G : rb_G) (m : Nat) : Prop :=
  (∀ k, k < m → gP G (3, 0, 0) k = some (8, k, 0) ∧ gP G (8, k, 0) 0 = some (4, 10 + k, 0) ∧ gP G (4, 10 + k, 0) 1 = some (19, 0, 0)) ∧
  (∀ r q, gI G r q = 0 ∨ gI G r q = gI S r q) ∧ (∀ r q, r.1 ≠ 4 → r.1 ≠ 8 → gI G r q = gI S r q) ∧ (∀ r q, r.1 ≠ 3 → r.1 ≠ 8 → ¬ (r.1 = 4 ∧ 10 ≤ r.2.1) → gP G r q = gP S r q) ∧ (∀ r, r.1 ≠ 8 → r.1 ≠ 4 → gN G r = gN S r) ∧ (∀ r, gD S r → gD G r) ∧ ∀ r, gD G r → gD S r ∨ r.1 = 4 ∨ r.1 = 8
theorem bg_A_s (S : rb_G) (m : Nat) : bg_A S (fo nAcc m S) m := by
  induction m with
  | zero => rw [fo_0]; exact ⟨fun n h => absurd h (Nat.not_lt_zero _), fun _ _ => Or.inr rfl, fun _ _ _ _ => rfl, fun _ _ _ _ _ => rfl, fun _ _ _ => rfl, fun _ h => h, fun _ h => Or.inl h⟩
  | succ m ih =>
    obtain ⟨h1, h2, h3, h4, h5, h6, h7⟩ := ih
    rw [fo_s]
    generalize fo nAcc m S = G at *
    refine ⟨fun k hk => ?_, fun r q => ?_, fun r q e4 e8 => ?_, fun r q e3 e8 e4 => ?_, fun r e8 e4 => ?_, fun r hr => ?_, fun r hr => ?_⟩
    · rw [nAcc_P]
      by_cases e : k = m
      · subst e; exact ⟨by simp [up2], by simp [up2], by simp [up2]⟩
      · obtain ⟨a1, a2, a3⟩ := h1 k (by omega)
        have e' : ¬ 10 + k = 10 + m := by omega
        refine ⟨?_, ?_, ?_⟩
        · simp [up2, e]; exact a1
        · simp [up2, e]; exact a2
        · simp [up2, e]; exact a3
    · rw [nAcc_I]
      by_cases z : r = (4, 10 + m, 0) ∧ q = 0
      · rw [z.1, z.2, up2_s]; exact Or.inl rfl
      · rw [up2_n _ _ _ _ z]
        split
        · exact Or.inl rfl
        · split
          · exact Or.inl rfl
          · exact h2 r q
    · rw [nAcc_I, up2_n _ _ _ _ (fun z => e4 (by rw [z.1])), if_neg (fun z => e4 (by rw [z])), if_neg (fun z => e8 (by rw [z]))]
      exact h3 r q e4 e8
    · rw [nAcc_P, up2_n _ _ _ _ (fun z => e3 (by rw [z.1])), up2_n _ _ _ _ (fun z => e8 (by rw [z.1])), up2_n _ _ _ _ (fun z => e4 (by rw [z.1]; exact ⟨rfl, by simp⟩)), if_neg (fun z => e4 (by rw [z]; exact ⟨rfl, by simp⟩)), if_neg (fun z => e8 (by rw [z]))]
      exact h4 r q e3 e8 e4
    · rw [nAcc_N]
      show (if r = (4, 10 + m, 0) then 0 else if r = (8, m, 0) then 0 else gN G r) = _
      rw [if_neg (fun z => e4 (by rw [z])), if_neg (fun z => e8 (by rw [z]))]
      exact h5 r e8 e4
    · rw [nAcc_D]; exact Or.inr (Or.inr (h6 r hr))
    · rw [nAcc_D] at hr
      rcases hr with hr | hr | hr
      · exact Or.inr (Or.inl (by rw [hr]))
      · exact Or.inr (Or.inr (by rw [hr]))
      · exact h7 r hr
theorem bg_S : (∀ r q, gI (gS (sN gz (0, 0, 0) 0)) r q = 0) ∧ (∀ k, k < 6 → gP (gS (sN gz (0, 0, 0) 0)) (0, 0, 0) k = some (xrl k)) ∧ (∀ id, id < 3 → gP (gS (sN gz (0, 0, 0) 0)) (4, id, 0) 1 = some (19, 0, 0)) ∧ (gN (gS (sN gz (0, 0, 0) 0)) (1, 0, 0) = 8 ∧ gN (gS (sN gz (0, 0, 0) 0)) (2, 0, 0) = 6 ∧ gN (gS (sN gz (0, 0, 0) 0)) (3, 0, 0) = 36) ∧
    (∀ r, gD (gS (sN gz (0, 0, 0) 0)) r → r.1 < 5 ∨ 18 ≤ r.1) ∧ gD (gS (sN gz (0, 0, 0) 0)) (19, 0, 0) ∧ gD (gS (sN gz (0, 0, 0) 0)) (21, 0, 0) := by
  have d0 : ∀ r, gD (sN gz (0, 0, 0) 0) r = (r = (0, 0, 0) ∨ r = (18, 0, 0) ∨ r = (19, 0, 0) ∨ r = (21, 0, 0)) := fun _ => rfl
  refine ⟨fun r q => ?_, fun k hk => ?_, fun id hid => ?_, ⟨?_, ?_, ?_⟩, fun r hr => ?_, ?_, ?_⟩
  · show (up2 (fun x k => if x = (4, 2, 0) then 0 else up2 (fun x k => if x = (4, 1, 0) then 0 else up2 (fun x k => if x = (4, 0, 0) then 0 else (if x = (3, 0, 0) then 0 else if x = (2, 0, 0) then 0 else if x = (1, 0, 0) then 0 else if x = (0, 0, 0) then 0 else (0 : Int32))) (4, 0, 0) 0 0 x k) (4, 1, 0) 0 0 x k) (4, 2, 0) 0 0) r q = 0
    simp [up2]
  · rcases (by omega : k = 0 ∨ k = 1 ∨ k = 2 ∨ k = 3 ∨ k = 4 ∨ k = 5) with rfl | rfl | rfl | rfl | rfl | rfl <;> (unfold gS gL1 gS3 sP sN sI up2 gP; simp [xrl])
  · rcases (by omega : id = 0 ∨ id = 1 ∨ id = 2) with rfl | rfl | rfl <;> (unfold gS gL1 gS3 sP sN sI up2 gP; simp)
  · unfold gS gL1 gS3 sP sN sI gN; simp
  · unfold gS gL1 gS3 sP sN sI gN; simp
  · unfold gS gL1 gS3 sP sN sI gN; simp
  · rw [gS_D, d0] at hr
    rcases hr with hr | hr | hr | hr | hr | hr | hr | hr | hr | hr <;> rw [hr] <;> simp
  · rw [gS_D, d0]; simp
  · rw [gS_D, d0]; simp
