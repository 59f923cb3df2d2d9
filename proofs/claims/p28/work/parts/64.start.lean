/-- a world with a new network, a new account -/
def nNet (i : Nat) (G : rb_G) : rb_G := sP (wI (gNt (sN G (5, i, 0) 0) i) (wNt (gI (sN G (5, i, 0) 0)) i)) (2, 0, 0) i (some (5, i, 0))
def nAcc (i : Nat) (G : rb_G) : rb_G := sP (wI (gAc (sN G (8, i, 0) 0) i) (wLi (gI (sN G (8, i, 0) 0)) (10 + i))) (3, 0, 0) i (some (8, i, 0))
def fNet (i : Nat) (G : rb_G) : Prop := gP G (0, 0, 0) 1 = some (2, 0, 0) ∧ gN G (2, 0, 0) = 6 ∧ ∀ n, i ≤ n → ¬ gD G (5, n, 0) ∧ ¬ gD G (6, n, 0) ∧ ¬ gD G (7, n, 0)
def fAcc (i : Nat) (G : rb_G) : Prop := gP G (0, 0, 0) 2 = some (3, 0, 0) ∧ gN G (3, 0, 0) = 36 ∧ gD G (19, 0, 0) ∧ ∀ n, i ≤ n → ¬ gD G (8, n, 0) ∧ ¬ gD G (4, 10 + n, 0)
theorem nNet_D (i : Nat) (G : rb_G) (r : rb_R) : gD (nNet i G) r = (r = (7, i, 0) ∨ r = (6, i, 0) ∨ r = (5, i, 0) ∨ gD G r) := rfl
theorem nAcc_D (i : Nat) (G : rb_G) (r : rb_R) : gD (nAcc i G) r = (r = (4, 10 + i, 0) ∨ r = (8, i, 0) ∨ gD G r) := rfl
theorem fNet_s {i : Nat} {G : rb_G} (h : fNet i G) : fNet (i + 1) (nNet i G) := by
  obtain ⟨h1, h2, h3⟩ := h
  refine ⟨?_, ?_, fun n hn => ?_⟩
  · unfold nNet gNt gB wI sP sN up2 gP at *
    simpa using h1
  · unfold nNet gNt gB wI sP sN gN at *
    simpa using h2
  · obtain ⟨a, b, c⟩ := h3 n (by omega)
    have hni : n ≠ i := by omega
    refine ⟨?_, ?_, ?_⟩ <;> rw [nNet_D] <;> simp [hni, a, b, c]
theorem fAcc_s {i : Nat} {G : rb_G} (h : fAcc i G) : fAcc (i + 1) (nAcc i G) := by
  obtain ⟨h1, h2, h4, h3⟩ := h
  refine ⟨?_, ?_, ?_, fun n hn => ?_⟩
  · unfold nAcc gAc gLi wI sP sN up2 gP at *
    simpa using h1
  · unfold nAcc gAc gLi wI sP sN gN at *
    simpa using h2
  · rw [nAcc_D]; exact Or.inr (Or.inr h4)
  · obtain ⟨a, b⟩ := h3 n (by omega)
    have hni : n ≠ i := by omega
    refine ⟨?_, ?_⟩ <;> rw [nAcc_D] <;> simp [hni, a, b]
