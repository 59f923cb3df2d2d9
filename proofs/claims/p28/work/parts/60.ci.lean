theorem ci_frame {W W' : rb_I} {cn : Nat → Nat} {id : Nat} (hid : id = 2 ∨ 10 ≤ id ∧ id < 46) (h4 : ∀ i, i ≠ id → W' (4, i, 0) 2 = W (4, i, 0) 2) (he : W' (4, id, 0) 2 = nI (cn id + 1)) (h5 : ∀ n q, W' (5, n, 0) q = W (5, n, 0) q) (h9 : ∀ s q, q ≠ 9 → q ≠ 10 → W' (9, s, 0) q = W (9, s, 0) q) (hb : cn id < 400) (hb2 : id = 2 → cn 2 < 200) (hI : xCI W cn) : xCI W' (bump cn id) := by
  obtain ⟨a1, a2, a3, a4, a5, a6, a7, a8, a9, a10, a11, a12⟩ := hI
  refine ⟨fun i h => ?_, fun s => ?_, fun s => ?_, fun s => ?_, fun s => ?_, fun n => ?_, fun s h => ?_, fun n => ?_, ?_, ?_, ?_, fun k hk => ?_⟩
  · by_cases e : i = id
    · subst e
      rw [bump_s]
      exact he
    · rw [bump_n e, h4 i e]
      exact a1 i h
  · rw [h9 s 1 (by decide) (by decide)]; exact a2 s
  · rw [h9 s 3 (by decide) (by decide)]; exact a3 s
  · rw [h9 s 4 (by decide) (by decide)]; exact a4 s
  · rw [h9 s 5 (by decide) (by decide)]; exact a5 s
  · rw [h5]; exact a6 n
  · rw [h9 s 0 (by decide) (by decide)]; rw [bump_n (by omega)] at h; exact a7 s h
  · rw [h5]; exact a8 n
  · rw [bump_n (by omega)]; exact a9
  · rw [bump_n (by omega)]; exact a10
  · by_cases e : id = 2
    · have := hb2 e
      subst e
      rw [bump_s]
      omega
    · rw [bump_n (fun q => e q.symm)]; exact a11
  · by_cases e : 10 + k = id
    · rw [e, bump_s]
      omega
    · rw [bump_n e]; exact a12 k hk
theorem ci_xq {W W' : rb_I} {cn : Nat → Nat} (h : xq W' W) (hI : xCI W cn) : xCI W' cn := by
  have e4 : ∀ i, W' (4, i, 0) 2 = W (4, i, 0) 2 := fun i => h _ _ (by simp) (by simp)
  have e9 : ∀ s q, W' (9, s, 0) q = W (9, s, 0) q := fun s q => h _ _ (by simp) (by simp)
  have e5 : ∀ s q, W' (5, s, 0) q = W (5, s, 0) q := fun s q => h _ _ (by simp) (by simp)
  unfold xCI at *
  simpa only [e4, e9, e5] using hI
theorem ci_sW0 {W : rb_I} {cn : Nat → Nat} {j : Nat} {p : Int32} (hI : xCI W cn) : xCI (x7_sW0 W j p) cn := by
  unfold x7_sW0
  unfold xCI at *
  simpa [up2] using hI
theorem ci_settle {W : rb_I} {cn : Nat → Nat} {j : Nat} {p mi : Int32} (hb : ∀ k, k < 36 → cn (10 + k) < 400) (hI : xCI W cn) : xCI (x7_settle W cn j p mi) (x7_scn W cn j p) := by
  unfold x7_settle x7_scn
  by_cases h : x6_isAbroad (x7_sW0 W j p) j = 0
  · rw [if_pos h, if_pos h]
    exact ci_sW0 hI
  · rw [if_neg h, if_neg h]
    have hv9 : vp_in (W (9, j, 0) 4) 6 := (hI.2.2.2.1 j).resolve_left (fun q => abr_ne h ((up2_n _ _ _ _ (by simp)).trans q))
    have hh9 : vp_in (W (9, j, 0) 1) 6 := hI.2.1 j
    have hK9 : x7_sK W j < 36 := by
      have q1 := vp_in_lt hv9
      have q2 := vp_in_lt hh9
      unfold x7_sK
      omega
    refine ci_frame (Or.inr ⟨by omega, by omega⟩) (fun i hi => ?_) (up2_s _ _ _ _) (fun n q => ?_) (fun s q h1 h2 => ?_) (hb _ hK9) (fun e => by omega) hI
    · rw [up2_n _ _ _ _ (fun z => hi (congrArg (fun r : rb_R => r.2.1) z.1))]
      unfold x7_sW2 x4_init zW x7_sR x7_sW1 x7_sW0
      simp [up2]
    · unfold x7_sW2 x4_init zW x7_sR x7_sW1 x7_sW0
      simp [up2]
    · unfold x7_sW2 x4_init zW x7_sR x7_sW1 x7_sW0
      simp [up2, h1, h2]
def x7_cW (W : rb_I) (cn : Nat → Nat) (s one o two : Int32) : rb_I := up2 (x3_init (zW W (11, cn 2, 0)) (cn 2) s one o two) (4, 2, 0) 2 (nI (cn 2 + 1))
theorem ci_cW {W : rb_I} {cn : Nat → Nat} {s one o two : Int32} (h2 : cn 2 < 200) (hI : xCI W cn) : xCI (x7_cW W cn s one o two) (bump cn 2) := by
  unfold x7_cW
  refine ci_frame (Or.inl rfl) (fun i hi => ?_) (up2_s _ _ _ _) (fun n q => ?_) (fun s q h1 h3 => ?_) (by omega) (fun _ => h2) hI
  · rw [up2_n _ _ _ _ (fun z => hi (congrArg (fun r : rb_R => r.2.1) z.1))]
    unfold x3_init zW
    simp [up2]
  · unfold x3_init zW
    simp [up2]
  · unfold x3_init zW
    simp [up2]
theorem scn_le {W : rb_I} {cn : Nat → Nat} {j : Nat} {p : Int32} {i : Nat} : x7_scn W cn j p i ≤ cn i + 1 := by
  unfold x7_scn
  split
  · omega
  · unfold bump
    split <;> omega
