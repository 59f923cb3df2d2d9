theorem tnf_at (C : rb_I) (k : Nat) (now : Int32) (n : Nat) : (∀ j, (fo (x0_tnf_b k now) n ((0 : Int32), C)).2 (12, k, j) 3 = if j < n ∧ C (12, k, j) 4 = C (8, k, 0) 2 then (if now - C (12, k, j) 1 < 43200 then 2 else 3) else C (12, k, j) 3) ∧ (∀ r q, ¬ (r.1 = 12 ∧ r.2.1 = k ∧ q = 3) → (fo (x0_tnf_b k now) n ((0 : Int32), C)).2 r q = C r q) ∧
    (fo (x0_tnf_b k now) n ((0 : Int32), C)).1 = fo (fun i (a : Int32) => if C (12, k, i) 4 = C (8, k, 0) 2 then (if now - C (12, k, i) 1 < 43200 then a else a + 1) else a) n 0 := by
  induction n with
  | zero =>
    rw [fo_0, fo_0]
    exact ⟨fun j => by rw [if_neg (fun q => absurd q.1 (Nat.not_lt_zero _))], fun _ _ _ => rfl, rfl⟩
  | succ n ih =>
    obtain ⟨h1, h3, h4⟩ := ih
    rw [fo_s, fo_s, ← h4]
    clear h4
    generalize fo (x0_tnf_b k now) n ((0 : Int32), C) = s at *
    obtain ⟨a, s⟩ := s
    have e4 : s (12, k, n) 4 = C (12, k, n) 4 := h3 _ _ (by simp)
    have e1 : s (12, k, n) 1 = C (12, k, n) 1 := h3 _ _ (by simp)
    have e8 : s (8, k, 0) 2 = C (8, k, 0) 2 := h3 _ _ (by simp)
    simp only at h1 h3
    unfold x0_tnf_b
    simp only []
    rw [e4, e1, e8]
    by_cases e : C (12, k, n) 4 = C (8, k, 0) 2
    · by_cases eo : now - C (12, k, n) 1 < 43200
      · simp only [if_pos e, if_pos eo]
        refine ⟨fun j => ?_, fun r q hq => ?_, trivial⟩
        · by_cases ej : j = n
          · subst ej; simp [up2, e, eo]
          · simp only [lt_sx ej]; rw [← h1 j]; simp [up2, ej]
        · rw [up2_n _ _ _ _ (fun z => hq (by rw [z.1, z.2]; exact ⟨rfl, rfl, rfl⟩))]
          exact h3 r q hq
      · simp only [if_pos e, if_neg eo]
        refine ⟨fun j => ?_, fun r q hq => ?_, trivial⟩
        · by_cases ej : j = n
          · subst ej; simp [up2, e, eo]
          · simp only [lt_sx ej]; rw [← h1 j]; simp [up2, ej]
        · rw [up2_n _ _ _ _ (fun z => hq (by rw [z.1, z.2]; exact ⟨rfl, rfl, rfl⟩))]
          exact h3 r q hq
    · simp only [if_neg e]
      refine ⟨fun j => ?_, h3, trivial⟩
      by_cases ej : j = n
      · subst ej
        have h1j := h1 j
        rw [if_neg (fun q => e q.2)] at h1j ⊢
        exact h1j
      · simp only [lt_sx ej]; exact h1 j
def dvc (M0 : rb_I) (K : Nat) (fl : Int32) (i : Nat) : Prop := rc_k M0 i = K ∧ M0 (14, 35, 0) i = 1 ∧ M0 (14, 36, 0) i = fl
theorem mdl_at (M0 : rb_I) {vi ho fl : Int32} (hv : vp_in vi 6) (hh : vp_in ho 6) (R : Nat) (hR : R ≤ 400) (hr : ∀ r, r < R → vp_in (M0 (14, 31, 0) r) 6 ∧ vp_in (M0 (14, 30, 0) r) 6) (n : Nat) (hn : n ≤ R) :
    (∀ j, (n ≤ j ∨ ¬ dvc M0 (6 * vi.toNatClampNeg + ho.toNatClampNeg) fl j) → (fo (m_deliver_b vi ho fl) n ((0 : Int32), M0)).2 (14, 35, 0) j = M0 (14, 35, 0) j) ∧ (∀ j, j < n → dvc M0 (6 * vi.toNatClampNeg + ho.toNatClampNeg) fl j → (fo (m_deliver_b vi ho fl) n ((0 : Int32), M0)).2 (14, 35, 0) j = if M0 (16, 0, 0) 1 - M0 (14, 33, 0) j < 43200 then 2 else 3) ∧ (∀ r q, r ≠ (14, 35, 0) → (fo (m_deliver_b vi ho fl) n ((0 : Int32), M0)).2 r q = M0 r q) ∧
    (fo (m_deliver_b vi ho fl) n ((0 : Int32), M0)).1 = fo (fun i (a : Int32) => if rc_k M0 i = (6 * vi.toNatClampNeg + ho.toNatClampNeg) then (if M0 (14, 35, 0) i = 1 then (if M0 (14, 36, 0) i = fl then (if M0 (16, 0, 0) 1 - M0 (14, 33, 0) i < 43200 then a else a + 1) else a) else a) else a) n 0 := by
  induction n with
  | zero =>
    rw [fo_0, fo_0]
    exact ⟨fun _ _ => rfl, fun j h => absurd h (Nat.not_lt_zero _), fun _ _ _ => rfl, rfl⟩
  | succ n ih =>
    obtain ⟨h1, h2, h3, h4⟩ := ih (by omega)
    rw [fo_s, fo_s, ← h4]
    clear h4
    generalize fo (m_deliver_b vi ho fl) n ((0 : Int32), M0) = s at *
    obtain ⟨a, s⟩ := s
    simp only at h1 h2 h3
    obtain ⟨r1, r2⟩ := hr n (by omega)
    have e31 : s (14, 31, 0) n = M0 (14, 31, 0) n := h3 _ _ (by simp)
    have e30 : s (14, 30, 0) n = M0 (14, 30, 0) n := h3 _ _ (by simp)
    have e36 : s (14, 36, 0) n = M0 (14, 36, 0) n := h3 _ _ (by simp)
    have e33 : s (14, 33, 0) n = M0 (14, 33, 0) n := h3 _ _ (by simp)
    have e16 : s (16, 0, 0) 1 = M0 (16, 0, 0) 1 := h3 _ _ (by simp)
    have e35 : s (14, 35, 0) n = M0 (14, 35, 0) n := h1 n (Or.inl (Nat.le_refl _))
    have ek : rc_k s n = rc_k M0 n := by unfold rc_k; rw [e31, e30]
    unfold m_deliver_b
    simp only []
    rw [isOf_eq (by omega) (by rw [e31]; exact r1) (by rw [e30]; exact r2) hv hh, e35, e36, e33, e16, ek]
    have keep : ¬ dvc M0 (6 * vi.toNatClampNeg + ho.toNatClampNeg) fl n → (∀ j, (n + 1 ≤ j ∨ ¬ dvc M0 (6 * vi.toNatClampNeg + ho.toNatClampNeg) fl j) → s (14, 35, 0) j = M0 (14, 35, 0) j) ∧ (∀ j, j < n + 1 → dvc M0 (6 * vi.toNatClampNeg + ho.toNatClampNeg) fl j → s (14, 35, 0) j = if M0 (16, 0, 0) 1 - M0 (14, 33, 0) j < 43200 then 2 else 3) ∧ (∀ r q, r ≠ (14, 35, 0) → s r q = M0 r q) := fun hn9 =>
      ⟨fun j hj => h1 j (hj.imp (fun q => by omega) id), fun j hj hd => h2 j (by
        by_cases ej : j = n
        · subst ej; exact absurd hd hn9
        · omega) hd, h3⟩
    have set : ∀ v : Int32, dvc M0 (6 * vi.toNatClampNeg + ho.toNatClampNeg) fl n → v = (if M0 (16, 0, 0) 1 - M0 (14, 33, 0) n < 43200 then 2 else 3) → (∀ j, (n + 1 ≤ j ∨ ¬ dvc M0 (6 * vi.toNatClampNeg + ho.toNatClampNeg) fl j) → up2 s (14, 35, 0) n v (14, 35, 0) j = M0 (14, 35, 0) j) ∧ (∀ j, j < n + 1 → dvc M0 (6 * vi.toNatClampNeg + ho.toNatClampNeg) fl j → up2 s (14, 35, 0) n v (14, 35, 0) j = if M0 (16, 0, 0) 1 - M0 (14, 33, 0) j < 43200 then 2 else 3) ∧ (∀ r q, r ≠ (14, 35, 0) → up2 s (14, 35, 0) n v r q = M0 r q) := fun v hd hv9 => by
      refine ⟨fun j hj => ?_, fun j hj hd9 => ?_, fun r q hq => ?_⟩
      · by_cases ej : j = n
        · subst ej; exact absurd (hj.elim (fun q => by omega) (fun q => q hd)) id
        · rw [up2_n _ _ _ _ (fun z => ej z.2)]; exact h1 j (hj.imp (fun q => by omega) id)
      · by_cases ej : j = n
        · subst ej; rw [up2_s]; exact hv9
        · rw [up2_n _ _ _ _ (fun z => ej z.2)]; exact h2 j (by omega) hd9
      · rw [up2_n _ _ _ _ (fun z => hq z.1)]; exact h3 r q hq
    by_cases c1 : rc_k M0 n = (6 * vi.toNatClampNeg + ho.toNatClampNeg)
    · simp only [if_pos c1]
      rw [if_neg (show ¬ (1 : Int32) = 0 by decide)]
      by_cases c2 : M0 (14, 35, 0) n = 1
      · simp only [if_pos c2]
        by_cases c3 : M0 (14, 36, 0) n = fl
        · simp only [if_pos c3]
          by_cases c4 : M0 (16, 0, 0) 1 - M0 (14, 33, 0) n < 43200
          · simp only [if_pos c4]
            obtain ⟨g1, g2, g3⟩ := set 2 ⟨c1, c2, c3⟩ (by rw [if_pos c4])
            exact ⟨g1, g2, g3, Int32.add_zero a⟩
          · simp only [if_neg c4]
            obtain ⟨g1, g2, g3⟩ := set 3 ⟨c1, c2, c3⟩ (by rw [if_neg c4])
            exact ⟨g1, g2, g3, trivial⟩
        · simp only [if_neg c3]
          obtain ⟨g1, g2, g3⟩ := keep (fun q => c3 q.2.2)
          exact ⟨g1, g2, g3, trivial⟩
      · simp only [if_neg c2]
        obtain ⟨g1, g2, g3⟩ := keep (fun q => c2 q.2.1)
        exact ⟨g1, g2, g3, trivial⟩
    · simp only [if_neg c1, if_true]
      obtain ⟨g1, g2, g3⟩ := keep (fun q => c1 q.1)
      exact ⟨g1, g2, g3, trivial⟩
theorem s_deliver {C M : rb_I} {cn : Nat → Nat} {ag : Nat → Nat → Int32} {t R : Nat} (h : sx C M cn ag t R) (vi ho fl : Int32) : okc sq_3 (x7_deliver C cn vi ho fl) (m_deliver M vi ho fl).1 (m_deliver M vi ho fl).2 cn ag := by
  have h9 := h
  obtain ⟨⟨c0, m0, hT, hC, hR, hN, hA, hS, hZ, hM, hB, hK⟩, k28, hR2, hP⟩ := h
  unfold x7_deliver m_deliver
  by_cases e1 : m_isNetwork vi = 0
  · simp only [if_pos e1]
    exact ok_thr h9 _ _ _ _ _ sq_31 (by decide)
  simp only [if_neg e1]
  by_cases e2 : m_isNetwork ho = 0
  · simp only [if_pos e2]
    exact ok_thr h9 _ _ _ _ _ sq_31 (by decide)
  simp only [if_neg e2]
  have hv := isNetwork_in e1
  have hh := isNetwork_in e2
  have hR9 : R ≤ 400 := by have := c0.2.2.2.2.2.2.2.2.2.2.1; omega
  obtain ⟨f, g, c1, c2, c3, c4, c5, c6⟩ := hK.2.1 _ (k36 hv hh)
  rw [c1, c2, c3, c4, hT.2.2.1]
  by_cases e3 : fl < 0
  · rw [if_pos e3, if_pos (sub_nlt (by omega) (Or.inl e3))]
    exact ok_thr h9 _ _ _ _ _ sq_31 (by decide)
  rw [if_neg e3]
  by_cases e4 : ¬ fl < nI f
  · rw [if_neg e4, if_pos (sub_nlt (by omega) (Or.inr e4))]
    exact ok_thr h9 _ _ _ _ _ sq_31 (by decide)
  replace e4 : fl < nI f := Classical.not_not.mp e4
  obtain ⟨hin, hfl⟩ := sub_lt (by omega) e3 e4
  rw [if_pos e4, if_neg hin]
  have hfe := vp_in_e hfl
  have hfl9 := vp_in_lt hfl
  by_cases e5 : ¬ nI g ≤ fl
  · rw [if_neg e5, if_neg e5, if_neg (fun q => e5 (by rw [q]; exact Int32.le_refl _))]
    exact ok_0 h9 _ _ _ sq_30 rfl
  replace e5 : nI g ≤ fl := Classical.not_not.mp e5
  rw [if_pos e5, if_pos e5]
  by_cases e6 : ¬ fl ≤ nI g
  · rw [if_neg e6, if_neg (fun q => e6 (by rw [q]; exact Int32.le_refl _))]
    exact ok_0 h9 _ _ _ sq_30 rfl
  replace e6 : fl ≤ nI g := Classical.not_not.mp e6
  have e7 : fl = nI g := Int32.le_antisymm e6 e5
  rw [if_pos e6, if_pos e7]
  have hgf : g < f := by
    rw [e7] at e4
    exact (nI_ltI (by omega) (by omega)).mp e4
  unfold x0_takeNextFile
  rw [hC.2.2, nI_clamp (show R < 2 ^ 31 by omega), nI_1]
  obtain ⟨p1, p3, p4⟩ := tnf_at C (6 * vi.toNatClampNeg + ho.toNatClampNeg) (nI t) (cn (10 + (6 * vi.toNatClampNeg + ho.toNatClampNeg)))
  obtain ⟨w1, w2, w3, w4⟩ := mdl_at (fl := fl) (up2 (up2 M (16, 0, 0) 0 0) (14, 38, 0) (6 * vi.toNatClampNeg + ho.toNatClampNeg) (nI (g + 1))) hv hh R hR9 (fun r hr => by have := hK.2.2.2.2 r hr; simp [up2]; exact ⟨this.1, this.2.1⟩) R (Nat.le_refl _)
  have ek : ∀ r, rc_k (up2 (up2 M (16, 0, 0) 0 0) (14, 38, 0) (6 * vi.toNatClampNeg + ho.toNatClampNeg) (nI (g + 1))) r = rc_k M r := fun r => by unfold rc_k; simp [up2]
  have e35 : ∀ r, (up2 (up2 M (16, 0, 0) 0 0) (14, 38, 0) (6 * vi.toNatClampNeg + ho.toNatClampNeg) (nI (g + 1))) (14, 35, 0) r = M (14, 35, 0) r := fun r => by simp [up2]
  have e36 : ∀ r, (up2 (up2 M (16, 0, 0) 0 0) (14, 38, 0) (6 * vi.toNatClampNeg + ho.toNatClampNeg) (nI (g + 1))) (14, 36, 0) r = M (14, 36, 0) r := fun r => by simp [up2]
  have e33 : ∀ r, (up2 (up2 M (16, 0, 0) 0 0) (14, 38, 0) (6 * vi.toNatClampNeg + ho.toNatClampNeg) (nI (g + 1))) (14, 33, 0) r = M (14, 33, 0) r := fun r => by simp [up2]
  have e16 : (up2 (up2 M (16, 0, 0) 0 0) (14, 38, 0) (6 * vi.toNatClampNeg + ho.toNatClampNeg) (nI (g + 1))) (16, 0, 0) 1 = nI t := by simp [up2]; exact hT.2.2.2
  simp only [dvc, ek, e35, e36, e33, e16, c3] at p1 p4 w1 w2 w4
  have tag : ∀ r, r < R → rc_k M r = (6 * vi.toNatClampNeg + ho.toNatClampNeg) → (C (12, (6 * vi.toNatClampNeg + ho.toNatClampNeg), rc_n M (6 * vi.toNatClampNeg + ho.toNatClampNeg) r) 4 = nI g ↔ M (14, 35, 0) r = 1 ∧ M (14, 36, 0) r = fl) := by
    intro r hr e
    obtain ⟨h1, h0, b1, b2, b3, b4, b5, b6, b7⟩ := hK.2.2.2.2 r hr
    rw [e] at b4 b5 b7
    rw [b5, e7]
    by_cases z : M (14, 35, 0) r = 0
    · rw [if_pos z, z]
      exact ⟨fun q => absurd q.symm (in_ne (vp_in_nI (show g < 21 by omega) (by decide))), fun q => absurd q.1 (by decide)⟩
    · rw [if_neg z]
      refine ⟨fun q => ⟨?_, q⟩, fun q => q.2⟩
      rcases b7 with b7 | ⟨f', f1, f2⟩
      · exact absurd b7 z
      · rcases f2 with f2 | ⟨-, f2⟩
        · exact f2.1
        · rw [f1] at q
          rw [c4, nI_clamp (by omega)] at f2
          exact absurd ((nI_eq (by omega) (by omega)).mp q) (by omega)
  have hval : (fo (x0_tnf_b (6 * vi.toNatClampNeg + ho.toNatClampNeg) (nI t)) (cn (10 + (6 * vi.toNatClampNeg + ho.toNatClampNeg))) ((0 : Int32), C)).1 = (fo (m_deliver_b vi ho fl) R ((0 : Int32), up2 (up2 M (16, 0, 0) 0 0) (14, 38, 0) (6 * vi.toNatClampNeg + ho.toNatClampNeg) (nI (g + 1)))).1 := by
    rw [p4, w4, hK.1 _ (k36 hv hh)]
    refine (rc_fold M (6 * vi.toNatClampNeg + ho.toNatClampNeg) _ _ _ R (fun r hr e s => ?_) (fun r hr e s => ?_)).symm
    · obtain ⟨h1, h0, b1, b2, b3, b4, b5, b6, b7⟩ := hK.2.2.2.2 r hr
      rw [e] at b2
      have tg := tag r hr e
      simp only [if_pos e]
      rw [b2]
      by_cases z1 : M (14, 35, 0) r = 1
      · by_cases z2 : M (14, 36, 0) r = fl
        · rw [if_pos z1, if_pos z2, if_pos (tg.mpr ⟨z1, z2⟩)]
        · rw [if_pos z1, if_neg z2, if_neg (fun q => z2 (tg.mp q).2)]
      · rw [if_neg z1, if_neg (fun q => z1 (tg.mp q).1)]
    · simp only [if_neg e]
  clear p4 w4
  simp only []
  rw [hval]
  have q8 : (fo (x0_tnf_b (6 * vi.toNatClampNeg + ho.toNatClampNeg) (nI t)) (cn (10 + (6 * vi.toNatClampNeg + ho.toNatClampNeg))) ((0 : Int32), C)).2 (8, (6 * vi.toNatClampNeg + ho.toNatClampNeg), 0) 2 = nI g := (p3 _ _ (by simp)).trans c3
  rw [q8, nI_1]
  clear hval
  generalize (fo (x0_tnf_b (6 * vi.toNatClampNeg + ho.toNatClampNeg) (nI t)) (cn (10 + (6 * vi.toNatClampNeg + ho.toNatClampNeg))) ((0 : Int32), C)).2 = Cf at *
  generalize (fo (m_deliver_b vi ho fl) R ((0 : Int32), up2 (up2 M (16, 0, 0) 0 0) (14, 38, 0) (6 * vi.toNatClampNeg + ho.toNatClampNeg) (nI (g + 1)))) = Mp at *
  obtain ⟨va, Mf⟩ := Mp
  simp only at w1 w2 w3
  have hm : ∀ b q, b ≠ 35 → b ≠ 38 → Mf (14, b, 0) q = M (14, b, 0) q := fun b q h5 h8 => by
    rw [w3 _ _ (fun z => h5 (congrArg (fun r : rb_R => r.2.1) z)), up2_n _ _ _ _ (fun z => h8 (congrArg (fun r : rb_R => r.2.1) z.1))]; simp [up2]
  have m38 : ∀ q, Mf (14, 38, 0) q = if q = (6 * vi.toNatClampNeg + ho.toNatClampNeg) then nI (g + 1) else M (14, 38, 0) q := fun q => by
    rw [w3 _ _ (by simp)]; simp [up2]
  refine ⟨?_, fun _ => rfl, t, R, u_acc h9 (fun a b c q h12 h8 => ?_) (fun a b c q h14 h16 => ?_) ?_⟩
  · show Mf (16, 0, 0) 0 = _
    rw [w3 _ _ (by simp)]; simp [up2, sq_30]
  · show up2 Cf (8, (6 * vi.toNatClampNeg + ho.toNatClampNeg), 0) 2 (nI (g + 1)) (a, b, c) q = C (a, b, c) q
    rw [up2_n _ _ _ _ (fun z => h8 (congrArg Prod.fst z.1)), p3 _ _ (fun z => h12 z.1)]
  · show Mf (a, b, c) q = _
    rw [w3 _ _ (fun z => h14 (by simp at z; exact ⟨z.1, by omega⟩)), up2_n _ _ _ _ (fun z => h14 (by have := z.1; simp at this; exact ⟨this.1, by omega⟩)), up2_n _ _ _ _ (fun z => h16 (by have := z.1; simp at this; exact ⟨this.1, this.2.1, this.2.2, z.2⟩))]
  · show sx_K (up2 Cf (8, (6 * vi.toNatClampNeg + ho.toNatClampNeg), 0) 2 (nI (g + 1))) Mf cn ag R
    have hc : ∀ b c q, q ≠ 3 → up2 Cf (8, (6 * vi.toNatClampNeg + ho.toNatClampNeg), 0) 2 (nI (g + 1)) (12, b, c) q = C (12, b, c) q := fun b c q h3 => by
      rw [up2_n _ _ _ _ (by simp), p3 _ _ (fun z => h3 z.2.2)]
    have hcn : ∀ b c q, b ≠ (6 * vi.toNatClampNeg + ho.toNatClampNeg) → up2 Cf (8, (6 * vi.toNatClampNeg + ho.toNatClampNeg), 0) 2 (nI (g + 1)) (12, b, c) q = C (12, b, c) q := fun b c q hb => by
      rw [up2_n _ _ _ _ (by simp), p3 _ _ (fun z => hb z.2.1)]
    have h81 : ∀ b, up2 Cf (8, (6 * vi.toNatClampNeg + ho.toNatClampNeg), 0) 2 (nI (g + 1)) (8, b, 0) 1 = C (8, b, 0) 1 := fun b => by
      rw [up2_n _ _ _ _ (by simp), p3 _ _ (by simp)]
    have h82 : ∀ b, up2 Cf (8, (6 * vi.toNatClampNeg + ho.toNatClampNeg), 0) 2 (nI (g + 1)) (8, b, 0) 2 = if b = (6 * vi.toNatClampNeg + ho.toNatClampNeg) then nI (g + 1) else C (8, b, 0) 2 := fun b => by
      by_cases e : b = (6 * vi.toNatClampNeg + ho.toNatClampNeg)
      · rw [e, if_pos rfl, up2_s]
      · rw [if_neg e, up2_n _ _ _ _ (fun z => e (congrArg (fun r : rb_R => r.2.1) z.1)), p3 _ _ (by simp)]
    have rk : ∀ r, rc_k Mf r = rc_k M r := fun r => by
      unfold rc_k
      rw [hm 31 r (by decide) (by decide), hm 30 r (by decide) (by decide)]
    have rn : ∀ k r, rc_n Mf k r = rc_n M k r := fun k r => rc_n_c (R := r) (fun q _ => hm 30 q (by decide) (by decide)) (fun q _ => hm 31 q (by decide) (by decide)) k r (Nat.le_refl _)
    refine ⟨fun k hk => by rw [rn]; exact hK.1 k hk, fun k hk => ?_, fun k => ?_, fun r hr => by rw [hm 34 r (by decide) (by decide)]; exact hK.2.2.2.1 r hr, fun r hr => ?_⟩
    · by_cases ek9 : k = (6 * vi.toNatClampNeg + ho.toNatClampNeg)
      · refine ⟨f, g + 1, ?_, ?_, ?_, ?_, by omega, c6⟩
        · rw [h81, ek9]; exact c1
        · rw [hm 37 k (by decide) (by decide), ek9]; exact c2
        · rw [h82, if_pos ek9]
        · rw [m38, if_pos ek9]
      · obtain ⟨f', g', d1, d2, d3, d4, d5, d6⟩ := hK.2.1 k hk
        refine ⟨f', g', ?_, ?_, ?_, ?_, d5, d6⟩
        · rw [h81]; exact d1
        · rw [hm 37 k (by decide) (by decide)]; exact d2
        · rw [h82, if_neg ek9]; exact d3
        · rw [m38, if_neg ek9]; exact d4
    · rw [h82]
      split
      · exact vp_in_nI (by omega) (by decide)
      · exact hK.2.2.1 k
    · obtain ⟨h1, h0, b1, b2, b3, b4, b5, b6, b7⟩ := hK.2.2.2.2 r hr
      rw [rk, rn]
      unfold rc_E
      rw [hm 31 r (by decide) (by decide), hm 30 r (by decide) (by decide), hm 32 r (by decide) (by decide), hm 33 r (by decide) (by decide), hm 34 r (by decide) (by decide), hm 36 r (by decide) (by decide), hm 37 _ (by decide) (by decide), m38, hc _ _ 0 (by decide), hc _ _ 1 (by decide), hc _ _ 4 (by decide)]
      by_cases ek9 : rc_k M r = (6 * vi.toNatClampNeg + ho.toNatClampNeg)
      · have hlt := rc_lt ek9 hr
        rw [← hK.1 _ (k36 hv hh)] at hlt
        have tg := tag r hr ek9
        have q3 : up2 Cf (8, (6 * vi.toNatClampNeg + ho.toNatClampNeg), 0) 2 (nI (g + 1)) (12, rc_k M r, rc_n M (rc_k M r) r) 3 = if C (12, rc_k M r, rc_n M (rc_k M r) r) 4 = nI g then (if nI t - C (12, rc_k M r, rc_n M (rc_k M r) r) 1 < 43200 then 2 else 3) else C (12, rc_k M r, rc_n M (rc_k M r) r) 3 := by
          rw [up2_n _ _ _ _ (by simp), ek9, p1]
          simp [hlt]
        refine ⟨h1, h0, b1, b2, b3, ?_⟩
        rw [if_pos ek9]
        have ek9' := ek9
        by_cases ed : M (14, 35, 0) r = 1 ∧ M (14, 36, 0) r = fl
        · have wv : Mf (14, 35, 0) r = if nI t - M (14, 33, 0) r < 43200 then 2 else 3 := w2 r hr ⟨ek9, ed.1, ed.2⟩
          have q3' : up2 Cf (8, (6 * vi.toNatClampNeg + ho.toNatClampNeg), 0) 2 (nI (g + 1)) (12, rc_k M r, rc_n M (rc_k M r) r) 3 = if nI t - M (14, 33, 0) r < 43200 then 2 else 3 := by
            rw [q3, if_pos (by rw [ek9]; exact tg.mpr ed), b2]
          have h23 : Mf (14, 35, 0) r = 2 ∨ Mf (14, 35, 0) r = 3 := by
            rw [wv]; split
            · exact Or.inl rfl
            · exact Or.inr rfl
          have hne : ¬ Mf (14, 35, 0) r = 0 := by
            rcases h23 with q | q <;> rw [q] <;> decide
          refine ⟨q3'.trans wv.symm, ?_, b6, Or.inr ⟨g, ed.2.trans e7, Or.inr ⟨h23, by rw [nI_clamp (by omega)]; omega⟩⟩⟩
          rw [if_neg hne, b5, if_neg (by rw [ed.1]; decide)]
        · have wv : Mf (14, 35, 0) r = M (14, 35, 0) r := w1 r (Or.inr (fun q => ed ⟨q.2.1, q.2.2⟩))
          have q3' : up2 Cf (8, (6 * vi.toNatClampNeg + ho.toNatClampNeg), 0) 2 (nI (g + 1)) (12, rc_k M r, rc_n M (rc_k M r) r) 3 = M (14, 35, 0) r := by
            rw [q3, if_neg (by rw [ek9]; exact fun q => ed (tg.mp q)), b4]
          rw [q3', wv, b5]
          refine ⟨rfl, rfl, b6, ?_⟩
          rcases b7 with b7 | ⟨f', f1, f2⟩
          · exact Or.inl b7
          · refine Or.inr ⟨f', f1, ?_⟩
            rw [ek9, c4, c2, nI_clamp (by omega), nI_clamp (by omega)] at f2
            rw [nI_clamp (by omega), ek9, c2, nI_clamp (by omega)]
            rcases f2 with ⟨y1, y2, y3⟩ | ⟨y1, y2⟩
            · refine Or.inl ⟨y1, ?_, y3⟩
              have : f' ≠ g := fun q => ed ⟨y1, by rw [f1, q, e7]⟩
              omega
            · exact Or.inr ⟨y1, by omega⟩
      · have wv : Mf (14, 35, 0) r = M (14, 35, 0) r := w1 r (Or.inr (fun q => ek9 q.1))
        rw [hcn _ _ 3 ek9, if_neg ek9, wv]
        exact ⟨h1, h0, b1, b2, b3, b4, b5, b6, b7⟩
